theorem bmz_congr {f f' : Int → Int} (h : ∀ j, 0 ≤ j → j < 48 → f j = f' j) : ∀ n : Nat, n ≤ 48 → bmz f n = bmz f' n
  | 0, _ => rfl
  | n + 1, hn => by
    have ih := bmz_congr h n (by omega)
    have hr := bmz_rng f' n
    have hb : bmz f' n < 48 := by
      rcases Nat.eq_zero_or_pos n with g | g
      · subst g; show (0 : Int) < 48; omega
      · have := hr.2 g; omega
    rw [bmz, bmz, ih, h _ hr.1 hb, h (n : Int) (by omega) (by omega)]
theorem bmz_s {f : Int → Int} {k : Int} (hk : 0 ≤ k) : bmz f (k + 1).toNat = if f (bmz f k.toNat) < f k then k else bmz f k.toNat := by
  rw [show (k + 1).toNat = k.toNat + 1 by omega, bmz, Int.toNat_of_nonneg hk]
theorem pth_d {a : Int → Int} {r d k : Int} (hk : 0 ≤ k ∧ k ≤ 2) : pthz a r (3 * d + k) = phz a r d k := by
  unfold pthz
  rw [show (3 * d + k) / 3 = d by omega, show (3 * d + k) % 3 = k by omega]
theorem dir_sum {a : Int → Int} (hI : Inv a) (r d : Int) : pthz a r (3 * d) + pthz a r (3 * d + 1) + pthz a r (3 * d + 2) = hbz a r d 1 100 := by
  have hs := hI.s
  have e0 := pth_d (a := a) (r := r) (d := d) (k := 0) (by omega)
  rw [Int.add_zero] at e0
  rw [e0, pth_d (by omega), pth_d (by omega)]
  unfold phz hbz
  rw [if_pos rfl, if_neg (by omega), if_neg (by omega), if_neg (by omega), if_neg (by omega), if_pos rfl, show (26176 + 0 : Int) = 26176 from rfl, show (26176 + (1 - 1) : Int) = 26176 from rfl, show (26176 + 1 : Int) = 26177 from rfl, show (26176 + (2 - 1) : Int) = 26177 from rfl,
    sz_split _ (show 1 ≤ a 26176 by omega) (show a 26176 ≤ 100 by omega), sz_split _ (show a 26176 ≤ a 26177 by omega) (show a 26177 ≤ 100 by omega)]
  omega
theorem sz_3 (f : Int → Int) (n : Nat) : sz f 0 (3 * (n : Int)) = sz (fun d => f (3 * d) + f (3 * d + 1) + f (3 * d + 2)) 0 n := by
  induction n with
  | zero => exact (sz_self _ _).trans (sz_self _ _).symm
  | succ n ih =>
    rw [show 3 * ((n + 1 : Nat) : Int) = 3 * (n : Int) + 1 + 1 + 1 by omega, show ((n + 1 : Nat) : Int) = (n : Int) + 1 by omega, sz_succ _ (by omega), sz_succ _ (by omega), sz_succ _ (by omega), sz_succ _ (by omega), ih, show 3 * (n : Int) + 1 + 1 = 3 * (n : Int) + 2 by omega]
    omega
theorem wnd_dir {a : Int → Int} (hI : Inv a) {r : Int} (hr : 0 ≤ r ∧ r < 16) : sz (fun d => hbz a r d 1 100) 0 16 = a (25344 + r) := by
  rw [← pthz_sum hI hr]
  have h := sz_3 (fun p => pthz a r p) 16
  rw [show 3 * ((16 : Nat) : Int) = 48 from rfl, show ((16 : Nat) : Int) = 16 from rfl] at h
  rw [h]
  exact sz_congr (fun d _ _ => (dir_sum hI r d).symm)
theorem pvz_bmz {f : Int → Int} : ∀ n : Nat, (∀ j : Int, 0 ≤ j → j < n → 0 ≤ f j) → (pvz f n = (0, -5) ∧ (∀ j : Int, 0 ≤ j → j < n → f j = 0) ∧ bmz f n = 0) ∨ (pvz f n = (f (bmz f n), bmz f n) ∧ 0 < f (bmz f n))
  | 0, _ => Or.inl ⟨rfl, fun j h1 h2 => absurd h2 (by omega), rfl⟩
  | n + 1, h => by
    have ih := pvz_bmz n (fun j h1 h2 => h j h1 (by omega))
    have hn := h (n : Int) (by omega) (by omega)
    rw [pvz, bmz]
    rcases ih with ⟨h1, h2, h3⟩ | ⟨h1, h2⟩
    · rw [h1, h3]
      have h0 : n = 0 ∨ f 0 = 0 := by
        rcases Nat.eq_zero_or_pos n with g | g
        · exact Or.inl g
        · exact Or.inr (h2 0 (by omega) (by omega))
      by_cases hf : f (n : Int) = 0
      · left
        have hlt : ¬ f 0 < f (n : Int) := by
          rcases h0 with g | g
          · rw [g]; exact Int.lt_irrefl _
          · omega
        rw [if_neg (show ¬ (0 : Int) < f (n : Int) by omega), if_neg hlt]
        exact ⟨rfl, fun j h4 h5 => by
          by_cases hj : j = n
          · rw [hj]; exact hf
          · exact h2 j h4 (by omega), rfl⟩
      · right
        rw [if_pos (show (0 : Int) < f (n : Int) by omega)]
        rcases h0 with g | g
        · subst g
          rw [show ((0 : Nat) : Int) = 0 from rfl] at hf hn ⊢
          rw [if_neg (Int.lt_irrefl _)]
          exact ⟨rfl, by omega⟩
        · rw [if_pos (by omega)]
          exact ⟨rfl, by omega⟩
    · right
      rw [h1]
      show (if f (bmz f n) < f (n : Int) then (f (n : Int), (n : Int)) else (f (bmz f n), bmz f n)) = _ ∧ _
      by_cases hc : f (bmz f n) < f (n : Int)
      · rw [if_pos hc, if_pos hc]; exact ⟨rfl, by omega⟩
      · rw [if_neg hc, if_neg hc]; exact ⟨rfl, h2⟩
theorem prevz_eq {a : Int → Int} (hI : Inv a) {r : Int} (hr : 0 ≤ r ∧ r < 16) : prevz a r = if a (25344 + r) = 0 then -5 else bmz (fun d => hbz a r d 1 100) 16 := by
  have hn : ∀ j : Int, 0 ≤ j → j < ((16 : Nat) : Int) → 0 ≤ hbz a r j 1 100 := fun j h1 h2 => (dirH_rng hI hr ⟨h1, by omega⟩).1
  have hw := wnd_dir hI hr
  unfold prevz
  rcases pvz_bmz (f := fun d => hbz a r d 1 100) 16 hn with ⟨h1, h2, h3⟩ | ⟨h1, h2⟩
  · rw [h1, if_pos (by rw [← hw]; exact sz_zero (fun j h4 h5 => h2 j h4 (by omega)))]
  · have hb := bmz_rng (fun d => hbz a r d 1 100) 16
    have hb2 := hb.2 (by omega)
    have h4 := sz_mem (f := fun d => hbz a r d 1 100) (a := 0) (b := 16) (i := bmz (fun d => hbz a r d 1 100) 16) (fun j h5 h6 => hn j h5 (by omega)) hb.1 (by omega)
    rw [h1, if_neg (by rw [← hw]; omega)]
theorem gsz_s (a : Int → Int) (r : Int) {v : Int} (hv : 1 ≤ v) : gsz a r v.toNat = if 0 < spz a r v then v else gsz a r (v - 1).toNat := by
  rw [show v.toNat = (v - 1).toNat + 1 by omega, gsz, show (((v - 1).toNat : Nat) : Int) + 1 = v by omega]
theorem gsz_rng (a : Int → Int) (r : Int) : ∀ n : Nat, -5 ≤ gsz a r n ∧ gsz a r n ≤ n
  | 0 => ⟨Int.le_refl _, by show (-5 : Int) ≤ ((0 : Nat) : Int); omega⟩
  | n + 1 => by
    have := gsz_rng a r n
    rw [gsz]
    split <;> omega

def M3p (G : Gx) (hm ms mp mq mt mpa msh mo mtu : Nat) (sv : Int → Int) (kn kp ln v : Int) : Option Value → va_W → Prop := fun q w => ∃ pa : Int → Int, q = some (.int (zI v)) ∧ w = [(hm, .inr (7, [.ref ms, .ref mp, .int (zI kn), .ref mq, .int (zI kp), .ref mt, .int (zI ln), .ref mpa, .ref msh, .ref mo, .ref mtu])), (ms, aJ G 7157 sv), (mpa, aI G 48 pa)]
def M4p (G : Gx) (hm ms mp mq mt mpa msh mo mtu : Nat) (sv : Int → Int) (kn kp ln v : Int) : Option Value → va_W → Prop := fun q w => ∃ pa sh : Int → Int, q = some (.int (zI v)) ∧ w = [(hm, .inr (7, [.ref ms, .ref mp, .int (zI kn), .ref mq, .int (zI kp), .ref mt, .int (zI ln), .ref mpa, .ref msh, .ref mo, .ref mtu])), (ms, aJ G 7157 sv), (mpa, aI G 48 pa), (msh, aI G 48 sh)]
def DLp (G : Gx) (hm ms mp mq mt mpa msh mo mtu : Nat) (a sv : Int → Int) (kn kp ln r : Int) : Option Value → va_W → Prop := fun q w => ∃ pa sh ot : Int → Int, q = none ∧ w = [(hm, .inr (7, [.ref ms, .ref mp, .int (zI kn), .ref mq, .int (zI kp), .ref mt, .int (zI ln), .ref mpa, .ref msh, .ref mo, .ref mtu])), (ms, aJ G 7157 sv), (mpa, aI G 48 pa), (msh, aI G 48 sh), (mo, aI G 48 ot)] ∧ ∀ j, 0 ≤ j → j < 48 → sh j = dez a r j

abbrev YX7_deals (l : Launch) (G : Gx) : Sx := (cX7_deals, 7, RX7, wsX7_deals, rmD 3, l, G)
theorem ydX7_deals : ydOk yX7_deals 1 := by decide +kernel
theorem inX7_deals_X7 : ∀ w ∈ wsX70, w ∈ wsX7_deals := fun _ h => List.mem_cons_of_mem _ (List.mem_append_right _ h)
set_option maxHeartbeats 1000000 in
set_option maxRecDepth 20000 in
theorem c_X7_deals (l : Launch) (G : Gx) (hm ms mp mq mt mpa msh mo mtu : Nat) (a sv pa sh ot : Int → Int) (kn kp ln r : Int) (hR : Rel a sv) (hI : Inv a) (h1 : 0 ≤ r ∧ r < 16) : Ct l G yX7_deals wsX7_deals (rmD 3) [.ref hm, .int (zI r)] [(hm, .inr (7, [.ref ms, .ref mp, .int (zI kn), .ref mq, .int (zI kp), .ref mt, .int (zI ln), .ref mpa, .ref msh, .ref mo, .ref mtu])), (ms, aJ G 7157 sv), (mpa, aI G 48 pa), (msh, aI G 48 sh), (mo, aI G 48 ot)] (DLp G hm ms mp mq mt mpa msh mo mtu a sv kn kp ln r) := by
  refine Ct.intro (cc := cX7_deals) (maxL := 7) (ret := none) (lo0 := [some (.ref hm), some (.int (zI r)), none, none, none, none, none]) (by decide +kernel) rfl ⟨rfl, rfl⟩ (Nat.le_of_ble_eq_true rfl) rfl ?_
  intro X F T
  change Fx X (YX7_deals l G) at F
  change V X (YX7_deals l G) 0 0 0 _ _ _
  have hw := hI.w h1
  have hml := mis_rng hI h1
  have hm47 := mis_47 hI h1
  have hmn : ∀ j, 0 ≤ j → j < 48 → 0 ≤ srm a r j := fun j h3 h4 => (srm_rng hI h1 ⟨h3, h4⟩).1
  have h00 : sz ((shq a r, fun _ => (0 : Int)) : (Int → Int) × (Int → Int)).2 0 48 = 0 := sz_zero (fun _ _ _ => rfl)
  have h01 : ∀ j : Int, 0 ≤ j → j < 48 → 0 ≤ ((shq a r, fun _ => (0 : Int)) : (Int → Int) × (Int → Int)).2 j ∧ ((shq a r, fun _ => (0 : Int)) : (Int → Int) × (Int → Int)).2 j ≤ 1 := fun j _ _ => ⟨Int.le_refl 0, by show (0 : Int) ≤ 1; omega⟩
  refine V.aload_n (q := 1) F dX7_deals_0 rfl rfl rfl ?_
  refine V.iload_n (q := 2) F dX7_deals_1 rfl rfl rfl ?_
  refine V.callV (q := 5) F [0, 1, 2] 0 dX7_deals_2 rfl (c_X7_looks l G hm ms mp mq mt mpa msh mo mtu _ _ _ _ _ _ _ hR hI (by omega)) gX7_deals_X7_looks rfl rfl ydX7_looks ⟨Nat.le_of_ble_eq_true rfl, Nat.le_of_ble_eq_true rfl⟩ (ci := 7) rfl rfl rfl rfl (Nat.le_of_ble_eq_true rfl) rfl rfl ⟨Nat.zero_le _, Nat.zero_le _⟩ (kkf (st' := [_]) (ws' := [_, _, _, _, _]) rfl rfl ?_)
  refine V.istore_n (q := 6) (lo' := [_, _, _, _, _, _, _]) F dX7_deals_5 rfl rfl (Nat.le_of_ble_eq_true rfl) rfl rfl ?_
  have J16 : ∀ (x : Int) (hx : x = if a (25344 + r) = 0 then 0 else 100), V X (YX7_deals l G) 0 0 16 [some (.ref hm), some (.int (zI r)), some (.int (zI (a (25344 + r)))), none, none, none, none] [.int (zI x)] [(hm, .inr (7, [.ref ms, .ref mp, .int (zI kn), .ref mq, .int (zI kp), .ref mt, .int (zI ln), .ref mpa, .ref msh, .ref mo, .ref mtu])), (ms, aJ G 7157 sv), (mpa, aI G 48 (fil (pthz a r) pa 48)), (msh, aI G 48 sh), (mo, aI G 48 ot)] := by
    intro x hx
    refine V.istore_n (q := 17) (lo' := [_, _, _, _, _, _, _]) F dX7_deals_16 rfl rfl (Nat.le_of_ble_eq_true rfl) rfl rfl ?_
    refine V.iconst (q := 18) F dX7_deals_17 rfl ?_
    refine V.istore (q := 20) (lo' := [_, _, _, _, _, _, _]) F dX7_deals_18 rfl (Nat.le_of_ble_eq_true rfl) rfl rfl ?_
    have L20 : ∀ (nq : Nat) (i mm : Int) (hi : 0 ≤ i ∧ i ≤ 48) (hmm : mm = (if a (25344 + r) = 0 then 0 else 100) - sz (shq a r) 0 i), (48 - i).toNat < nq → V X (YX7_deals l G) 0 0 20 [some (.ref hm), some (.int (zI r)), some (.int (zI (a (25344 + r)))), some (.int (zI mm)), some (.int (zI i)), none, none] [] [(hm, .inr (7, [.ref ms, .ref mp, .int (zI kn), .ref mq, .int (zI kp), .ref mt, .int (zI ln), .ref mpa, .ref msh, .ref mo, .ref mtu])), (ms, aJ G 7157 sv), (mpa, aI G 48 (fil (pthz a r) pa 48)), (msh, aI G 48 (fil (shq a r) sh i)), (mo, aI G 48 (fil (srm a r) ot i))] := by
      intro n20
      induction n20 with
      | zero => intro i mm hi hmm hm20; exact absurd hm20 (Nat.not_lt_zero _)
      | succ n20 ih20 =>
        intro i mm hi hmm hm20
        have hpi := fun h : i < 48 => pthz_rng hI h1 (p := i) ⟨hi.1, h⟩
        refine V.iload (q := 22) F dX7_deals_20 rfl rfl ?_
        refine V.bipush (q := 24) F dX7_deals_22 rfl (by decide) ?_
        refine V.icmp_ge (q := 27) (tgt := 97) F dX7_deals_24 rfl (by decide) (by omega) (fun k24 => ?_) (fun k24 => ?_)
        · have he : i = 48 := by omega
          subst he
          refine V.iconst (q := 98) F dX7_deals_97 rfl ?_
          refine V.istore (q := 100) (lo' := [_, _, _, _, _, _, _]) F dX7_deals_98 rfl (Nat.le_of_ble_eq_true rfl) rfl rfl ?_
          have L100 : ∀ (nq : Nat) (i : Int) (S O : Int → Int) (hi2 : 0 ≤ i ∧ (i ≤ mis a r ∨ i = 0)) (hSO : ∀ j, 0 ≤ j → j < 48 → S j = (dlN (srm a r) (shq a r, fun _ => 0) i.toNat).1 j ∧ O j = oth (srm a r) (dlN (srm a r) (shq a r, fun _ => 0) i.toNat).2 j), (mis a r - i).toNat < nq → V X (YX7_deals l G) 0 0 100 [some (.ref hm), some (.int (zI r)), some (.int (zI (a (25344 + r)))), some (.int (zI (mis a r))), some (.int (zI i)), none, none] [] [(hm, .inr (7, [.ref ms, .ref mp, .int (zI kn), .ref mq, .int (zI kp), .ref mt, .int (zI ln), .ref mpa, .ref msh, .ref mo, .ref mtu])), (ms, aJ G 7157 sv), (mpa, aI G 48 (fil (pthz a r) pa 48)), (msh, aI G 48 S), (mo, aI G 48 O)] := by
            intro n100
            induction n100 with
            | zero => intro i S O hi2 hSO hm100; exact absurd hm100 (Nat.not_lt_zero _)
            | succ n100 ih100 =>
              intro i S O hi2 hSO hm100
              have hOr : ∀ j, 0 ≤ j → j < 48 → -1 ≤ O j ∧ O j < 10000 := fun j h3 h4 => by
                rw [(hSO j h3 h4).2]
                have := srm_rng hI h1 (p := j) ⟨h3, h4⟩
                unfold oth
                split <;> omega
              refine V.iload (q := 102) F dX7_deals_100 rfl rfl ?_
              refine V.iload_n (q := 103) F dX7_deals_102 rfl rfl rfl ?_
              refine V.icmp_ge (q := 106) (tgt := 176) F dX7_deals_103 rfl (by decide) (by omega) (fun k103 => ?_) (fun k103 => ?_)
              · refine V.vret F T dX7_deals_176 ⟨_, _, _, rfl, rfl, fun j h3 h4 => ?_⟩ [hm, ms, mpa, msh, mo] rfl rfl
                rw [(hSO j h3 h4).1, show i.toNat = (mis a r).toNat by omega]; rfl
              · refine V.iconst (q := 107) F dX7_deals_106 rfl ?_
                refine V.istore (q := 109) (lo' := [_, _, _, _, _, _, _]) F dX7_deals_107 rfl (Nat.le_of_ble_eq_true rfl) rfl rfl ?_
                refine V.iconst (q := 110) F dX7_deals_109 rfl ?_
                refine V.istore (q := 112) (lo' := [_, _, _, _, _, _, _]) F dX7_deals_110 rfl (Nat.le_of_ble_eq_true rfl) rfl rfl ?_
                have L112 : ∀ (nq : Nat) (k b : Int) (hk : 1 ≤ k ∧ k ≤ 48) (hb : b = bmz O k.toNat) (hb3 : 0 ≤ b ∧ b < 48), (48 - k).toNat < nq → V X (YX7_deals l G) 0 0 112 [some (.ref hm), some (.int (zI r)), some (.int (zI (a (25344 + r)))), some (.int (zI (mis a r))), some (.int (zI i)), some (.int (zI b)), some (.int (zI k))] [] [(hm, .inr (7, [.ref ms, .ref mp, .int (zI kn), .ref mq, .int (zI kp), .ref mt, .int (zI ln), .ref mpa, .ref msh, .ref mo, .ref mtu])), (ms, aJ G 7157 sv), (mpa, aI G 48 (fil (pthz a r) pa 48)), (msh, aI G 48 S), (mo, aI G 48 O)] := by
                  intro n112
                  induction n112 with
                  | zero => intro k b hk hb hb3 hm112; exact absurd hm112 (Nat.not_lt_zero _)
                  | succ n112 ih112 =>
                    intro k b hk hb hb3 hm112
                    have hO1 := hOr b hb3.1 hb3.2
                    have hO2 := hOr k (by omega)
                    refine V.iload (q := 114) F dX7_deals_112 rfl rfl ?_
                    refine V.bipush (q := 116) F dX7_deals_114 rfl (by decide) ?_
                    refine V.icmp_ge (q := 119) (tgt := 151) F dX7_deals_116 rfl (by decide) (by omega) (fun k116 => ?_) (fun k116 => ?_)
                    · have he : k = 48 := by omega
                      subst he
                      have hbq := best_eq (m := srm a r) (s := (shq a r, fun _ => 0)) hmn h00 h01 (n := i.toNat) (by omega)
                      have hbe : b = bsi (srm a r) (dlN (srm a r) (shq a r, fun _ => 0) i.toNat).2 48 := by
                        rw [hb, ← hbq.2]; exact bmz_congr (fun j h3 h4 => (hSO j h3 h4).2) 48 (Nat.le_refl _)
                      refine V.aload_n (q := 152) F dX7_deals_151 rfl rfl rfl ?_
                      refine V.get (q := 155) F 0 8 dX7_deals_152 rfl rfl rfl inX7_deals_X7 (by decide) (List.mem_of_getElem? (i := 1) rfl) rfl ?_
                      refine V.iload (q := 157) F dX7_deals_155 rfl rfl ?_
                      refine V.dup2 (q := 158) F dX7_deals_157 rfl rfl rfl ?_
                      refine V.iald (q := 159) F 3 dX7_deals_158 rfl rfl (by decide) (by omega) ?_
                      refine V.iconst (q := 160) F dX7_deals_159 rfl ?_
                      refine V.iadd (q := 161) F dX7_deals_160 rfl ?_
                      refine V.iast (q := 162) (ws' := [_, _, _, _, _]) F 3 dX7_deals_161 rfl rfl (by decide) (by omega) rfl ?_
                      refine V.aload_n (q := 163) F dX7_deals_162 rfl rfl rfl ?_
                      refine V.get (q := 166) F 0 9 dX7_deals_163 rfl rfl rfl inX7_deals_X7 (by decide) (List.mem_of_getElem? (i := 3) rfl) rfl ?_
                      refine V.iload (q := 168) F dX7_deals_166 rfl rfl ?_
                      refine V.iconst (q := 169) F dX7_deals_168 rfl ?_
                      refine V.iast (q := 170) (ws' := [_, _, _, _, _]) F 4 dX7_deals_169 rfl rfl (by decide) (by omega) rfl ?_
                      have hnext : ∀ j, 0 ≤ j → j < 48 → upz S b (S b + 1) j = (dlN (srm a r) (shq a r, fun _ => 0) (i + 1).toNat).1 j ∧ upz O b (-1) j = oth (srm a r) (dlN (srm a r) (shq a r, fun _ => 0) (i + 1).toNat).2 j := by
                        intro j h3 h4
                        rw [show (i + 1).toNat = i.toNat + 1 by omega, dlN, dlS, if_pos hbq.1, ← hbe]
                        show _ = upz _ b _ j ∧ _ = oth _ (upz _ b 1) j
                        rw [← oth_put]
                        have hSb := (hSO b hb3.1 hb3.2).1
                        simp only [upz]
                        by_cases hj : j = b
                        · rw [if_pos hj, if_pos hj, if_pos hj, if_pos hj, hSb]; exact ⟨rfl, rfl⟩
                        · rw [if_neg hj, if_neg hj, if_neg hj, if_neg hj]; exact hSO j h3 h4
                      refine V.iinc (q := 173) (lo' := [_, _, _, _, _, _, _]) F dX7_deals_170 rfl rfl (Nat.le_of_ble_eq_true rfl) rfl rfl ?_
                      refine V.goto (tgt := 100) F dX7_deals_173 (by decide) ?_
                      refine V.mask [true, true, true, true, true, false, false] (lo' := [_, _, _, _, _, _, _]) rfl ?_
                      exact ih100 (i + 1) _ _ (by omega) hnext (by omega)
                    · have J143 : ∀ (b2 : Int) (hb2 : b2 = bmz O (k + 1).toNat), V X (YX7_deals l G) 0 0 143 [some (.ref hm), some (.int (zI r)), some (.int (zI (a (25344 + r)))), some (.int (zI (mis a r))), some (.int (zI i)), some (.int (zI b)), some (.int (zI k))] [.int (zI b2)] [(hm, .inr (7, [.ref ms, .ref mp, .int (zI kn), .ref mq, .int (zI kp), .ref mt, .int (zI ln), .ref mpa, .ref msh, .ref mo, .ref mtu])), (ms, aJ G 7157 sv), (mpa, aI G 48 (fil (pthz a r) pa 48)), (msh, aI G 48 S), (mo, aI G 48 O)] := by
                        intro b2 hb2
                        refine V.istore (q := 145) (lo' := [_, _, _, _, _, _, _]) F dX7_deals_143 rfl (Nat.le_of_ble_eq_true rfl) rfl rfl ?_
                        refine V.iinc (q := 148) (lo' := [_, _, _, _, _, _, _]) F dX7_deals_145 rfl rfl (Nat.le_of_ble_eq_true rfl) rfl rfl ?_
                        refine V.goto (tgt := 112) F dX7_deals_148 (by decide) ?_
                        exact ih112 (k + 1) _ (by omega) hb2 (by rw [hb2]; have := bmz_rng O (k + 1).toNat; have := this.2 (by omega); omega) (by omega)
                      refine V.aload_n (q := 120) F dX7_deals_119 rfl rfl rfl ?_
                      refine V.get (q := 123) F 0 9 dX7_deals_120 rfl rfl rfl inX7_deals_X7 (by decide) (List.mem_of_getElem? (i := 3) rfl) rfl ?_
                      refine V.iload (q := 125) F dX7_deals_123 rfl rfl ?_
                      refine V.iald (q := 126) F 4 dX7_deals_125 rfl rfl (by decide) (by omega) ?_
                      refine V.aload_n (q := 127) F dX7_deals_126 rfl rfl rfl ?_
                      refine V.get (q := 130) F 0 9 dX7_deals_127 rfl rfl rfl inX7_deals_X7 (by decide) (List.mem_of_getElem? (i := 3) rfl) rfl ?_
                      refine V.iload (q := 132) F dX7_deals_130 rfl rfl ?_
                      refine V.iald (q := 133) F 4 dX7_deals_132 rfl rfl (by decide) (by omega) ?_
                      refine V.icmp_le (q := 136) (tgt := 141) F dX7_deals_133 rfl (by decide) (by omega) (fun k133 => ?_) (fun k133 => ?_)
                      · refine V.iload (q := 143) F dX7_deals_141 rfl rfl ?_
                        exact J143 _ (by rw [bmz_s (by omega), ← hb]; first | rw [if_pos (by omega)] | rw [if_neg (by omega)])
                      · refine V.iload (q := 138) F dX7_deals_136 rfl rfl ?_
                        refine V.goto (tgt := 143) F dX7_deals_138 (by decide) ?_
                        exact J143 _ (by rw [bmz_s (by omega), ← hb]; first | rw [if_pos (by omega)] | rw [if_neg (by omega)])
                exact L112 _ 1 0 (by omega) (by rw [show (1 : Int).toNat = 0 + 1 from rfl, bmz, bmz]; show (0 : Int) = if O 0 < O 0 then 0 else 0; rw [if_neg (Int.lt_irrefl _)]) (by omega) (Nat.lt_succ_self _)
          have hmq : mm = mis a r := by
            rw [hmm]; unfold mis
            by_cases hw0 : 0 < a (25344 + r)
            · rw [if_neg (by omega), if_pos hw0]
            · rw [if_pos (by omega), if_neg hw0, sz_zero (f := shq a r) (fun j _ _ => if_neg hw0)]; rfl
          subst hmq
          refine V.mask [true, true, true, true, true, false, false] (lo' := [_, _, _, _, _, _, _]) rfl ?_
          exact L100 _ 0 _ _ (by omega) (fun j h3 h4 => ⟨fil_in _ _ h3 h4, fil_in _ _ h3 h4⟩) (Nat.lt_succ_self _)
        · have J53 : ∀ (y : Int) (hy : y = shq a r i), V X (YX7_deals l G) 0 0 53 [some (.ref hm), some (.int (zI r)), some (.int (zI (a (25344 + r)))), some (.int (zI mm)), some (.int (zI i)), none, none] [.int (zI y), .int (zI i), .ref msh] [(hm, .inr (7, [.ref ms, .ref mp, .int (zI kn), .ref mq, .int (zI kp), .ref mt, .int (zI ln), .ref mpa, .ref msh, .ref mo, .ref mtu])), (ms, aJ G 7157 sv), (mpa, aI G 48 (fil (pthz a r) pa 48)), (msh, aI G 48 (fil (shq a r) sh i)), (mo, aI G 48 (fil (srm a r) ot i))] := by
            intro y hy
            refine V.iast (q := 54) (ws' := [_, _, _, _, _]) F 3 dX7_deals_53 rfl rfl (by decide) (by omega) rfl ?_
            have J80 : ∀ (z : Int) (hz : z = srm a r i), V X (YX7_deals l G) 0 0 80 [some (.ref hm), some (.int (zI r)), some (.int (zI (a (25344 + r)))), some (.int (zI mm)), some (.int (zI i)), none, none] [.int (zI z), .int (zI i), .ref mo] [(hm, .inr (7, [.ref ms, .ref mp, .int (zI kn), .ref mq, .int (zI kp), .ref mt, .int (zI ln), .ref mpa, .ref msh, .ref mo, .ref mtu])), (ms, aJ G 7157 sv), (mpa, aI G 48 (fil (pthz a r) pa 48)), (msh, aI G 48 (fil (shq a r) sh (i + 1))), (mo, aI G 48 (fil (srm a r) ot i))] := by
              intro z hz
              refine V.iast (q := 81) (ws' := [_, _, _, _, _]) F 4 dX7_deals_80 rfl rfl (by decide) (by omega) rfl ?_
              rw [fil_s (srm a r) ot hi.1 hz]
              refine V.iload_n (q := 82) F dX7_deals_81 rfl rfl rfl ?_
              refine V.aload_n (q := 83) F dX7_deals_82 rfl rfl rfl ?_
              refine V.get (q := 86) F 0 8 dX7_deals_83 rfl rfl rfl inX7_deals_X7 (by decide) (List.mem_of_getElem? (i := 1) rfl) rfl ?_
              refine V.iload (q := 88) F dX7_deals_86 rfl rfl ?_
              refine V.iald (q := 89) F 3 dX7_deals_88 rfl rfl (by decide) (by omega) ?_
              rw [fil_in (shq a r) sh hi.1 (show i < i + 1 by omega)]
              refine V.isub (q := 90) F dX7_deals_89 rfl ?_
              refine V.istore_n (q := 91) (lo' := [_, _, _, _, _, _, _]) F dX7_deals_90 rfl rfl (Nat.le_of_ble_eq_true rfl) rfl rfl ?_
              refine V.iinc (q := 94) (lo' := [_, _, _, _, _, _, _]) F dX7_deals_91 rfl rfl (Nat.le_of_ble_eq_true rfl) rfl rfl ?_
              refine V.goto (tgt := 20) F dX7_deals_94 (by decide) ?_
              exact ih20 (i + 1) _ (by omega) (by rw [sz_succ _ hi.1, hmm]; omega) (by omega)
            rw [fil_s (shq a r) sh hi.1 hy]
            refine V.aload_n (q := 55) F dX7_deals_54 rfl rfl rfl ?_
            refine V.get (q := 58) F 0 9 dX7_deals_55 rfl rfl rfl inX7_deals_X7 (by decide) (List.mem_of_getElem? (i := 3) rfl) rfl ?_
            refine V.iload (q := 60) F dX7_deals_58 rfl rfl ?_
            refine V.iload_n (q := 61) F dX7_deals_60 rfl rfl rfl ?_
            refine V.if_ne (q := 64) (tgt := 68) F dX7_deals_61 rfl (by decide) (by omega) (fun k61 => ?_) (fun k61 => ?_)
            · refine V.bipush (q := 70) F dX7_deals_68 rfl (by decide) ?_
              refine V.aload_n (q := 71) F dX7_deals_70 rfl rfl rfl ?_
              refine V.get (q := 74) F 0 7 dX7_deals_71 rfl rfl rfl inX7_deals_X7 (by decide) (List.mem_of_getElem? (i := 2) rfl) rfl ?_
              refine V.iload (q := 76) F dX7_deals_74 rfl rfl ?_
              refine V.iald (q := 77) F 2 dX7_deals_76 rfl rfl (by decide) (by omega) ?_
              have hpq := hpi (by omega)
              have hfp := fil_in (pthz a r) pa hi.1 (show i < 48 by omega)
              refine V.imul (q := 78) F dX7_deals_77 rfl ?_
              refine V.iload_n (q := 79) F dX7_deals_78 rfl rfl rfl ?_
              refine V.irem (q := 80) F dX7_deals_79 rfl ⟨by rw [hfp]; omega, by omega⟩ ?_
              exact J80 _ (by unfold srm; first | rw [if_neg (by omega)] | rw [if_pos (by omega), fil_in (pthz a r) pa (by omega) (by omega)])
            · refine V.iconst (q := 65) F dX7_deals_64 rfl ?_
              refine V.goto (tgt := 80) F dX7_deals_65 (by decide) ?_
              exact J80 _ (by unfold srm; first | rw [if_neg (by omega)] | rw [if_pos (by omega), fil_in (pthz a r) pa (by omega) (by omega)])
          refine V.aload_n (q := 28) F dX7_deals_27 rfl rfl rfl ?_
          refine V.get (q := 31) F 0 8 dX7_deals_28 rfl rfl rfl inX7_deals_X7 (by decide) (List.mem_of_getElem? (i := 1) rfl) rfl ?_
          refine V.iload (q := 33) F dX7_deals_31 rfl rfl ?_
          refine V.iload_n (q := 34) F dX7_deals_33 rfl rfl rfl ?_
          refine V.if_ne (q := 37) (tgt := 41) F dX7_deals_34 rfl (by decide) (by omega) (fun k34 => ?_) (fun k34 => ?_)
          · refine V.bipush (q := 43) F dX7_deals_41 rfl (by decide) ?_
            refine V.aload_n (q := 44) F dX7_deals_43 rfl rfl rfl ?_
            refine V.get (q := 47) F 0 7 dX7_deals_44 rfl rfl rfl inX7_deals_X7 (by decide) (List.mem_of_getElem? (i := 2) rfl) rfl ?_
            refine V.iload (q := 49) F dX7_deals_47 rfl rfl ?_
            refine V.iald (q := 50) F 2 dX7_deals_49 rfl rfl (by decide) (by omega) ?_
            have hpq := hpi (by omega)
            have hfp := fil_in (pthz a r) pa hi.1 (show i < 48 by omega)
            refine V.imul (q := 51) F dX7_deals_50 rfl ?_
            refine V.iload_n (q := 52) F dX7_deals_51 rfl rfl rfl ?_
            refine V.idiv (q := 53) F dX7_deals_52 rfl ⟨by rw [hfp]; omega, by omega⟩ ?_
            exact J53 _ (by unfold shq; first | rw [if_neg (by omega)] | rw [if_pos (by omega), fil_in (pthz a r) pa (by omega) (by omega)])
          · refine V.iconst (q := 38) F dX7_deals_37 rfl ?_
            refine V.goto (tgt := 53) F dX7_deals_38 (by decide) ?_
            exact J53 _ (by unfold shq; first | rw [if_neg (by omega)] | rw [if_pos (by omega), fil_in (pthz a r) pa (by omega) (by omega)])
    refine V.mask [true, true, true, true, true, false, false] (lo' := [_, _, _, _, _, _, _]) rfl ?_
    refine V.eq (pc' := 20) (lo' := [_, _, _, _, _, _, _]) (st' := []) (ws' := [_, _, _, (msh, aI G 48 (fil (shq a r) sh 0)), (mo, aI G 48 (fil (srm a r) ot 0))]) rfl rfl rfl (by rw [fil_0, fil_0]) ?_
    exact L20 _ 0 _ (by omega) (by rw [sz_self, hx]; omega) (Nat.lt_succ_self _)
  refine V.iload_n (q := 7) F dX7_deals_6 rfl rfl rfl ?_
  refine V.if_ne (q := 10) (tgt := 14) F dX7_deals_7 rfl (by decide) (by omega) (fun k7 => ?_) (fun k7 => ?_)
  · refine V.bipush (q := 16) F dX7_deals_14 rfl (by decide) ?_
    exact J16 _ (by omega)
  · refine V.iconst (q := 11) F dX7_deals_10 rfl ?_
    refine V.goto (tgt := 16) F dX7_deals_11 (by decide) ?_
    exact J16 _ (by omega)

abbrev YX7_petalOf (l : Launch) (G : Gx) : Sx := (cX7_petalOf, 3, RX7, wsX7_petalOf, rmD 1, l, G)
theorem ydX7_petalOf : ydOk yX7_petalOf 2 := by decide +kernel
set_option maxHeartbeats 1000000 in
set_option maxRecDepth 20000 in
theorem c_X7_petalOf (l : Launch) (G : Gx) (hm ms mp mq mt mpa msh mo mtu : Nat) (a sv : Int → Int) (kn kp ln r k : Int) (hR : Rel a sv) (h1 : 0 ≤ r ∧ r < 16) (h2 : 0 ≤ k ∧ k < 48) : Ct l G yX7_petalOf wsX7_petalOf (rmD 1) [.ref hm, .int (zI r), .int (zI k)] [(hm, .inr (7, [.ref ms, .ref mp, .int (zI kn), .ref mq, .int (zI kp), .ref mt, .int (zI ln), .ref mpa, .ref msh, .ref mo, .ref mtu])), (ms, aJ G 7157 sv)] (Fn (some (.int (zI (a (25376 + r * 48 + k))))) [(hm, .inr (7, [.ref ms, .ref mp, .int (zI kn), .ref mq, .int (zI kp), .ref mt, .int (zI ln), .ref mpa, .ref msh, .ref mo, .ref mtu])), (ms, aJ G 7157 sv)]) := by
  refine Ct.intro (cc := cX7_petalOf) (maxL := 3) (ret := (some .int)) (lo0 := [some (.ref hm), some (.int (zI r)), some (.int (zI k))]) (by decide +kernel) rfl ⟨rfl, rfl⟩ (Nat.le_of_ble_eq_true rfl) rfl ?_
  intro X F T
  change Fx X (YX7_petalOf l G) at F
  change V X (YX7_petalOf l G) 0 0 0 _ _ _
  refine V.aload_n (q := 1) F dX7_petalOf_0 rfl rfl rfl ?_
  refine V.sipush (q := 4) F dX7_petalOf_1 rfl (by decide) ?_
  refine V.bipush (q := 6) F dX7_petalOf_4 rfl (by decide) ?_
  refine V.iload_n (q := 7) F dX7_petalOf_6 rfl rfl rfl ?_
  refine V.imul (q := 8) F dX7_petalOf_7 rfl ?_
  refine V.iadd (q := 9) F dX7_petalOf_8 rfl ?_
  refine V.iload_n (q := 10) F dX7_petalOf_9 rfl rfl rfl ?_
  refine V.iadd (q := 11) F dX7_petalOf_10 rfl ?_
  refine V.callV (q := 14) F [0, 1] 0 dX7_petalOf_11 rfl (c_X7_num l G hm ms mp mq mt mpa msh mo mtu _ _ _ _ _ (by omega)) gX7_petalOf_X7_num rfl rfl ydX7_num ⟨Nat.le_of_ble_eq_true rfl, Nat.le_of_ble_eq_true rfl⟩ (ci := 7) rfl rfl rfl rfl (Nat.le_of_ble_eq_true rfl) rfl rfl ⟨Nat.zero_le _, Nat.zero_le _⟩ (kkf (st' := [_]) (ws' := [_, _]) rfl rfl ?_)
  exact V.iret F T dX7_petalOf_14 (fnI (hR.pet h1 h2) rfl) [hm, ms] rfl rfl

abbrev YX7_differs (l : Launch) (G : Gx) : Sx := (cX7_differs, 4, RX7, wsX7_differs, rmD 5, l, G)
theorem ydX7_differs : ydOk yX7_differs 1 := by decide +kernel
theorem inX7_differs_X7 : ∀ w ∈ wsX70, w ∈ wsX7_differs := fun _ h => List.mem_cons_of_mem _ (List.mem_append_right _ h)
set_option maxHeartbeats 1000000 in
set_option maxRecDepth 20000 in
theorem c_X7_differs (l : Launch) (G : Gx) (hm ms mp mq mt mpa msh mo mtu : Nat) (a sv pa sh : Int → Int) (kn kp ln r : Int) (hR : Rel a sv) (hI : Inv a) (h1 : 0 ≤ r ∧ r < 16) : Ct l G yX7_differs wsX7_differs (rmD 5) [.ref hm, .int (zI r)] [(hm, .inr (7, [.ref ms, .ref mp, .int (zI kn), .ref mq, .int (zI kp), .ref mt, .int (zI ln), .ref mpa, .ref msh, .ref mo, .ref mtu])), (ms, aJ G 7157 sv), (mpa, aI G 48 pa), (msh, aI G 48 sh)] (Fn (some (.int (zI (difz a r)))) [(hm, .inr (7, [.ref ms, .ref mp, .int (zI kn), .ref mq, .int (zI kp), .ref mt, .int (zI ln), .ref mpa, .ref msh, .ref mo, .ref mtu])), (ms, aJ G 7157 sv), (mpa, aI G 48 (fil (pthz a r) pa 48)), (msh, aI G 48 (fil (shr a r) sh 48))]) := by
  refine Ct.intro (cc := cX7_differs) (maxL := 4) (ret := (some .int)) (lo0 := [some (.ref hm), some (.int (zI r)), none, none]) (by decide +kernel) rfl ⟨rfl, rfl⟩ (Nat.le_of_ble_eq_true rfl) rfl ?_
  intro X F T
  change Fx X (YX7_differs l G) at F
  change V X (YX7_differs l G) 0 0 0 _ _ _
  have hw := hI.w h1
  have hgc := hI.p (j := 26144 + r) (by omega) (by omega)
  have hgs := cshz_rng hI h1
  have c1 := hR.cir h1
  have J22 : ∀ (x : Int) (hx : x = if a (26144 + r) = cshz a r then 0 else 1), V X (YX7_differs l G) 0 0 22 [some (.ref hm), some (.int (zI r)), none, none] [.int (zI x)] [(hm, .inr (7, [.ref ms, .ref mp, .int (zI kn), .ref mq, .int (zI kp), .ref mt, .int (zI ln), .ref mpa, .ref msh, .ref mo, .ref mtu])), (ms, aJ G 7157 sv), (mpa, aI G 48 (fil (pthz a r) pa 48)), (msh, aI G 48 sh)] := by
    intro x hx
    refine V.istore_n (q := 23) (lo' := [_, _, _, _]) F dX7_differs_22 rfl rfl (Nat.le_of_ble_eq_true rfl) rfl rfl ?_
    refine V.aload_n (q := 24) F dX7_differs_23 rfl rfl rfl ?_
    refine V.iload_n (q := 25) F dX7_differs_24 rfl rfl rfl ?_
    refine V.callV (q := 28) F [0, 1, 2, 3] 0 dX7_differs_25 rfl (c_X7_finds l G hm ms mp mq mt mpa msh mo mtu _ _ _ _ _ _ _ _ hR hI (by omega)) gX7_differs_X7_finds rfl rfl ydX7_finds ⟨Nat.le_of_ble_eq_true rfl, Nat.le_of_ble_eq_true rfl⟩ (ci := 7) rfl rfl rfl rfl (Nat.le_of_ble_eq_true rfl) rfl rfl ⟨Nat.zero_le _, Nat.zero_le _⟩ (kkf (st' := []) (ws' := [_, _, _, _]) rfl rfl ?_)
    refine V.iconst (q := 29) F dX7_differs_28 rfl ?_
    refine V.istore_n (q := 30) (lo' := [_, _, _, _]) F dX7_differs_29 rfl rfl (Nat.le_of_ble_eq_true rfl) rfl rfl ?_
    have L30 : ∀ (nq : Nat) (i S : Int) (hi : 0 ≤ i ∧ i ≤ 48) (hS : S = x + sz (fun p => if a (25376 + r * 48 + p) = shr a r p then 0 else 1) 0 i), (48 - i).toNat < nq → V X (YX7_differs l G) 0 0 30 [some (.ref hm), some (.int (zI r)), some (.int (zI S)), some (.int (zI i))] [] [(hm, .inr (7, [.ref ms, .ref mp, .int (zI kn), .ref mq, .int (zI kp), .ref mt, .int (zI ln), .ref mpa, .ref msh, .ref mo, .ref mtu])), (ms, aJ G 7157 sv), (mpa, aI G 48 (fil (pthz a r) (fil (pthz a r) pa 48) 48)), (msh, aI G 48 (fil (shr a r) sh 48))] := by
      intro n30
      induction n30 with
      | zero => intro i S hi hS hm30; exact absurd hm30 (Nat.not_lt_zero _)
      | succ n30 ih30 =>
        intro i S hi hS hm30
        have hgp := fun h : i < 48 => hI.p (j := 25376 + r * 48 + i) (by omega) (by omega)
        have hgq := fun h : i < 48 => shr_rng hI h1 (p := i) (by omega)
        refine V.iload_n (q := 31) F dX7_differs_30 rfl rfl rfl ?_
        refine V.bipush (q := 33) F dX7_differs_31 rfl (by decide) ?_
        refine V.icmp_ge (q := 36) (tgt := 65) F dX7_differs_33 rfl (by decide) (by omega) (fun k33 => ?_) (fun k33 => ?_)
        · refine V.iload_n (q := 66) F dX7_differs_65 rfl rfl rfl ?_
          exact V.iret F T dX7_differs_66 (fnI (by rw [hS, show i = 48 by omega, hx]; unfold difz; omega) (wcons rfl (wcons rfl (wcons (arEqI (fil_fil _ _ _ _)) (wcons rfl rfl))))) [hm, ms, mpa, msh] rfl rfl
        · have J57 : ∀ (y : Int) (hy : y = if a (25376 + r * 48 + i) = shr a r i then 0 else 1), V X (YX7_differs l G) 0 0 57 [some (.ref hm), some (.int (zI r)), some (.int (zI S)), some (.int (zI i))] [.int (zI y), .int (zI S)] [(hm, .inr (7, [.ref ms, .ref mp, .int (zI kn), .ref mq, .int (zI kp), .ref mt, .int (zI ln), .ref mpa, .ref msh, .ref mo, .ref mtu])), (ms, aJ G 7157 sv), (mpa, aI G 48 (fil (pthz a r) (fil (pthz a r) pa 48) 48)), (msh, aI G 48 (fil (shr a r) sh 48))] := by
            intro y hy
            refine V.iadd (q := 58) F dX7_differs_57 rfl ?_
            refine V.istore_n (q := 59) (lo' := [_, _, _, _]) F dX7_differs_58 rfl rfl (Nat.le_of_ble_eq_true rfl) rfl rfl ?_
            refine V.iinc (q := 62) (lo' := [_, _, _, _]) F dX7_differs_59 rfl rfl (Nat.le_of_ble_eq_true rfl) rfl rfl ?_
            refine V.goto (tgt := 30) F dX7_differs_62 (by decide) ?_
            exact ih30 (i + 1) _ (by omega) (by rw [sz_succ _ hi.1, hS, Int.add_assoc, hy]) (by omega)
          refine V.iload_n (q := 37) F dX7_differs_36 rfl rfl rfl ?_
          refine V.aload_n (q := 38) F dX7_differs_37 rfl rfl rfl ?_
          refine V.iload_n (q := 39) F dX7_differs_38 rfl rfl rfl ?_
          refine V.iload_n (q := 40) F dX7_differs_39 rfl rfl rfl ?_
          refine V.callV (q := 43) F [0, 1] 0 dX7_differs_40 rfl (c_X7_petalOf l G hm ms mp mq mt mpa msh mo mtu _ _ _ _ _ _ _ hR (by omega) (by omega)) gX7_differs_X7_petalOf rfl rfl ydX7_petalOf ⟨Nat.le_of_ble_eq_true rfl, Nat.le_of_ble_eq_true rfl⟩ (ci := 7) rfl rfl rfl rfl (Nat.le_of_ble_eq_true rfl) rfl rfl ⟨Nat.zero_le _, Nat.zero_le _⟩ (kkf (st' := [_, _]) (ws' := [_, _, _, _]) rfl rfl ?_)
          refine V.aload_n (q := 44) F dX7_differs_43 rfl rfl rfl ?_
          refine V.get (q := 47) F 0 8 dX7_differs_44 rfl rfl rfl inX7_differs_X7 (by decide) (List.mem_of_getElem? (i := 1) rfl) rfl ?_
          refine V.iload_n (q := 48) F dX7_differs_47 rfl rfl rfl ?_
          refine V.iald (q := 49) F 3 dX7_differs_48 rfl rfl (by decide) (by omega) ?_
          rw [fil_in (shr a r) sh hi.1 (show i < 48 by omega)]
          refine V.icmp_ne (q := 52) (tgt := 56) F dX7_differs_49 rfl (by decide) (by omega) (fun k49 => ?_) (fun k49 => ?_)
          · refine V.iconst (q := 57) F dX7_differs_56 rfl ?_
            exact J57 _ (by omega)
          · refine V.iconst (q := 53) F dX7_differs_52 rfl ?_
            refine V.goto (tgt := 57) F dX7_differs_53 (by decide) ?_
            exact J57 _ (by omega)
    exact L30 _ 0 _ (by omega) (by rw [sz_self, Int.add_zero]) (Nat.lt_succ_self _)
  refine V.aload_n (q := 1) F dX7_differs_0 rfl rfl rfl ?_
  refine V.sipush (q := 4) F dX7_differs_1 rfl (by decide) ?_
  refine V.iload_n (q := 5) F dX7_differs_4 rfl rfl rfl ?_
  refine V.iadd (q := 6) F dX7_differs_5 rfl ?_
  refine V.callV (q := 9) F [0, 1] 0 dX7_differs_6 rfl (c_X7_num l G hm ms mp mq mt mpa msh mo mtu _ _ _ _ _ (by omega)) gX7_differs_X7_num rfl rfl ydX7_num ⟨Nat.le_of_ble_eq_true rfl, Nat.le_of_ble_eq_true rfl⟩ (ci := 7) rfl rfl rfl rfl (Nat.le_of_ble_eq_true rfl) rfl rfl ⟨Nat.zero_le _, Nat.zero_le _⟩ (kkf (st' := [_]) (ws' := [_, _, _, _]) rfl rfl ?_)
  rw [c1]
  refine V.aload_n (q := 10) F dX7_differs_9 rfl rfl rfl ?_
  refine V.iload_n (q := 11) F dX7_differs_10 rfl rfl rfl ?_
  refine V.callV (q := 14) F [0, 1, 2] 0 dX7_differs_11 rfl (c_X7_calmShare l G hm ms mp mq mt mpa msh mo mtu _ _ _ _ _ _ _ hR hI (by omega)) gX7_differs_X7_calmShare rfl rfl ydX7_calmShare ⟨Nat.le_of_ble_eq_true rfl, Nat.le_of_ble_eq_true rfl⟩ (ci := 7) rfl rfl rfl rfl (Nat.le_of_ble_eq_true rfl) rfl rfl ⟨Nat.zero_le _, Nat.zero_le _⟩ (kkf (st' := [_, _]) (ws' := [_, _, _, _]) rfl rfl ?_)
  refine V.icmp_ne (q := 17) (tgt := 21) F dX7_differs_14 rfl (by decide) (by omega) (fun k14 => ?_) (fun k14 => ?_)
  · refine V.iconst (q := 22) F dX7_differs_21 rfl ?_
    exact J22 _ (by omega)
  · refine V.iconst (q := 18) F dX7_differs_17 rfl ?_
    refine V.goto (tgt := 22) F dX7_differs_18 (by decide) ?_
    exact J22 _ (by omega)

abbrev YX7_needs (l : Launch) (G : Gx) : Sx := (cX7_needs, 4, RX7, wsX7_needs, rmD 5, l, G)
theorem ydX7_needs : ydOk yX7_needs 1 := by decide +kernel
theorem inX7_needs_X7 : ∀ w ∈ wsX70, w ∈ wsX7_needs := fun _ h => List.mem_cons_of_mem _ (List.mem_append_right _ h)
set_option maxHeartbeats 1000000 in
set_option maxRecDepth 20000 in
theorem c_X7_needs (l : Launch) (G : Gx) (hm ms mp mq mt mpa msh mo mtu : Nat) (a sv pa sh : Int → Int) (kn kp ln r : Int) (hR : Rel a sv) (hI : Inv a) (h1 : 0 ≤ r ∧ r < 16) : Ct l G yX7_needs wsX7_needs (rmD 5) [.ref hm, .int (zI r)] [(hm, .inr (7, [.ref ms, .ref mp, .int (zI kn), .ref mq, .int (zI kp), .ref mt, .int (zI ln), .ref mpa, .ref msh, .ref mo, .ref mtu])), (ms, aJ G 7157 sv), (mpa, aI G 48 pa), (msh, aI G 48 sh)] (Fn (some (.int (zI (scrz a r)))) [(hm, .inr (7, [.ref ms, .ref mp, .int (zI kn), .ref mq, .int (zI kp), .ref mt, .int (zI ln), .ref mpa, .ref msh, .ref mo, .ref mtu])), (ms, aJ G 7157 sv), (mpa, aI G 48 (fil (pthz a r) pa 48)), (msh, aI G 48 (fil (shr a r) sh 48))]) := by
  refine Ct.intro (cc := cX7_needs) (maxL := 4) (ret := (some .int)) (lo0 := [some (.ref hm), some (.int (zI r)), none, none]) (by decide +kernel) rfl ⟨rfl, rfl⟩ (Nat.le_of_ble_eq_true rfl) rfl ?_
  intro X F T
  change Fx X (YX7_needs l G) at F
  change V X (YX7_needs l G) 0 0 0 _ _ _
  have hw := hI.w h1
  have hgc := hI.p (j := 26144 + r) (by omega) (by omega)
  have hgs := cshz_rng hI h1
  have c1 := hR.cir h1
  have J22 : ∀ (x : Int) (hx : x = if cshz a r < a (26144 + r) then 1 else 0), V X (YX7_needs l G) 0 0 22 [some (.ref hm), some (.int (zI r)), none, none] [.int (zI x)] [(hm, .inr (7, [.ref ms, .ref mp, .int (zI kn), .ref mq, .int (zI kp), .ref mt, .int (zI ln), .ref mpa, .ref msh, .ref mo, .ref mtu])), (ms, aJ G 7157 sv), (mpa, aI G 48 (fil (pthz a r) pa 48)), (msh, aI G 48 sh)] := by
    intro x hx
    refine V.istore_n (q := 23) (lo' := [_, _, _, _]) F dX7_needs_22 rfl rfl (Nat.le_of_ble_eq_true rfl) rfl rfl ?_
    refine V.aload_n (q := 24) F dX7_needs_23 rfl rfl rfl ?_
    refine V.iload_n (q := 25) F dX7_needs_24 rfl rfl rfl ?_
    refine V.callV (q := 28) F [0, 1, 2, 3] 0 dX7_needs_25 rfl (c_X7_finds l G hm ms mp mq mt mpa msh mo mtu _ _ _ _ _ _ _ _ hR hI (by omega)) gX7_needs_X7_finds rfl rfl ydX7_finds ⟨Nat.le_of_ble_eq_true rfl, Nat.le_of_ble_eq_true rfl⟩ (ci := 7) rfl rfl rfl rfl (Nat.le_of_ble_eq_true rfl) rfl rfl ⟨Nat.zero_le _, Nat.zero_le _⟩ (kkf (st' := []) (ws' := [_, _, _, _]) rfl rfl ?_)
    refine V.iconst (q := 29) F dX7_needs_28 rfl ?_
    refine V.istore_n (q := 30) (lo' := [_, _, _, _]) F dX7_needs_29 rfl rfl (Nat.le_of_ble_eq_true rfl) rfl rfl ?_
    have L30 : ∀ (nq : Nat) (i S : Int) (hi : 0 ≤ i ∧ i ≤ 48) (hS : S = x + sz (fun p => if shr a r p < a (25376 + r * 48 + p) then 1 else 0) 0 i), (48 - i).toNat < nq → V X (YX7_needs l G) 0 0 30 [some (.ref hm), some (.int (zI r)), some (.int (zI S)), some (.int (zI i))] [] [(hm, .inr (7, [.ref ms, .ref mp, .int (zI kn), .ref mq, .int (zI kp), .ref mt, .int (zI ln), .ref mpa, .ref msh, .ref mo, .ref mtu])), (ms, aJ G 7157 sv), (mpa, aI G 48 (fil (pthz a r) (fil (pthz a r) pa 48) 48)), (msh, aI G 48 (fil (shr a r) sh 48))] := by
      intro n30
      induction n30 with
      | zero => intro i S hi hS hm30; exact absurd hm30 (Nat.not_lt_zero _)
      | succ n30 ih30 =>
        intro i S hi hS hm30
        have hgp := fun h : i < 48 => hI.p (j := 25376 + r * 48 + i) (by omega) (by omega)
        have hgq := fun h : i < 48 => shr_rng hI h1 (p := i) (by omega)
        refine V.iload_n (q := 31) F dX7_needs_30 rfl rfl rfl ?_
        refine V.bipush (q := 33) F dX7_needs_31 rfl (by decide) ?_
        refine V.icmp_ge (q := 36) (tgt := 65) F dX7_needs_33 rfl (by decide) (by omega) (fun k33 => ?_) (fun k33 => ?_)
        · refine V.iload_n (q := 66) F dX7_needs_65 rfl rfl rfl ?_
          exact V.iret F T dX7_needs_66 (fnI (by rw [hS, show i = 48 by omega, hx]; unfold scrz; omega) (wcons rfl (wcons rfl (wcons (arEqI (fil_fil _ _ _ _)) (wcons rfl rfl))))) [hm, ms, mpa, msh] rfl rfl
        · have J57 : ∀ (y : Int) (hy : y = if shr a r i < a (25376 + r * 48 + i) then 1 else 0), V X (YX7_needs l G) 0 0 57 [some (.ref hm), some (.int (zI r)), some (.int (zI S)), some (.int (zI i))] [.int (zI y), .int (zI S)] [(hm, .inr (7, [.ref ms, .ref mp, .int (zI kn), .ref mq, .int (zI kp), .ref mt, .int (zI ln), .ref mpa, .ref msh, .ref mo, .ref mtu])), (ms, aJ G 7157 sv), (mpa, aI G 48 (fil (pthz a r) (fil (pthz a r) pa 48) 48)), (msh, aI G 48 (fil (shr a r) sh 48))] := by
            intro y hy
            refine V.iadd (q := 58) F dX7_needs_57 rfl ?_
            refine V.istore_n (q := 59) (lo' := [_, _, _, _]) F dX7_needs_58 rfl rfl (Nat.le_of_ble_eq_true rfl) rfl rfl ?_
            refine V.iinc (q := 62) (lo' := [_, _, _, _]) F dX7_needs_59 rfl rfl (Nat.le_of_ble_eq_true rfl) rfl rfl ?_
            refine V.goto (tgt := 30) F dX7_needs_62 (by decide) ?_
            exact ih30 (i + 1) _ (by omega) (by rw [sz_succ _ hi.1, hS, Int.add_assoc, hy]) (by omega)
          refine V.iload_n (q := 37) F dX7_needs_36 rfl rfl rfl ?_
          refine V.aload_n (q := 38) F dX7_needs_37 rfl rfl rfl ?_
          refine V.iload_n (q := 39) F dX7_needs_38 rfl rfl rfl ?_
          refine V.iload_n (q := 40) F dX7_needs_39 rfl rfl rfl ?_
          refine V.callV (q := 43) F [0, 1] 0 dX7_needs_40 rfl (c_X7_petalOf l G hm ms mp mq mt mpa msh mo mtu _ _ _ _ _ _ _ hR (by omega) (by omega)) gX7_needs_X7_petalOf rfl rfl ydX7_petalOf ⟨Nat.le_of_ble_eq_true rfl, Nat.le_of_ble_eq_true rfl⟩ (ci := 7) rfl rfl rfl rfl (Nat.le_of_ble_eq_true rfl) rfl rfl ⟨Nat.zero_le _, Nat.zero_le _⟩ (kkf (st' := [_, _]) (ws' := [_, _, _, _]) rfl rfl ?_)
          refine V.aload_n (q := 44) F dX7_needs_43 rfl rfl rfl ?_
          refine V.get (q := 47) F 0 8 dX7_needs_44 rfl rfl rfl inX7_needs_X7 (by decide) (List.mem_of_getElem? (i := 1) rfl) rfl ?_
          refine V.iload_n (q := 48) F dX7_needs_47 rfl rfl rfl ?_
          refine V.iald (q := 49) F 3 dX7_needs_48 rfl rfl (by decide) (by omega) ?_
          rw [fil_in (shr a r) sh hi.1 (show i < 48 by omega)]
          refine V.icmp_le (q := 52) (tgt := 56) F dX7_needs_49 rfl (by decide) (by omega) (fun k49 => ?_) (fun k49 => ?_)
          · refine V.iconst (q := 57) F dX7_needs_56 rfl ?_
            exact J57 _ (by omega)
          · refine V.iconst (q := 53) F dX7_needs_52 rfl ?_
            refine V.goto (tgt := 57) F dX7_needs_53 (by decide) ?_
            exact J57 _ (by omega)
    exact L30 _ 0 _ (by omega) (by rw [sz_self, Int.add_zero]) (Nat.lt_succ_self _)
  refine V.aload_n (q := 1) F dX7_needs_0 rfl rfl rfl ?_
  refine V.sipush (q := 4) F dX7_needs_1 rfl (by decide) ?_
  refine V.iload_n (q := 5) F dX7_needs_4 rfl rfl rfl ?_
  refine V.iadd (q := 6) F dX7_needs_5 rfl ?_
  refine V.callV (q := 9) F [0, 1] 0 dX7_needs_6 rfl (c_X7_num l G hm ms mp mq mt mpa msh mo mtu _ _ _ _ _ (by omega)) gX7_needs_X7_num rfl rfl ydX7_num ⟨Nat.le_of_ble_eq_true rfl, Nat.le_of_ble_eq_true rfl⟩ (ci := 7) rfl rfl rfl rfl (Nat.le_of_ble_eq_true rfl) rfl rfl ⟨Nat.zero_le _, Nat.zero_le _⟩ (kkf (st' := [_]) (ws' := [_, _, _, _]) rfl rfl ?_)
  rw [c1]
  refine V.aload_n (q := 10) F dX7_needs_9 rfl rfl rfl ?_
  refine V.iload_n (q := 11) F dX7_needs_10 rfl rfl rfl ?_
  refine V.callV (q := 14) F [0, 1, 2] 0 dX7_needs_11 rfl (c_X7_calmShare l G hm ms mp mq mt mpa msh mo mtu _ _ _ _ _ _ _ hR hI (by omega)) gX7_needs_X7_calmShare rfl rfl ydX7_calmShare ⟨Nat.le_of_ble_eq_true rfl, Nat.le_of_ble_eq_true rfl⟩ (ci := 7) rfl rfl rfl rfl (Nat.le_of_ble_eq_true rfl) rfl rfl ⟨Nat.zero_le _, Nat.zero_le _⟩ (kkf (st' := [_, _]) (ws' := [_, _, _, _]) rfl rfl ?_)
  refine V.icmp_le (q := 17) (tgt := 21) F dX7_needs_14 rfl (by decide) (by omega) (fun k14 => ?_) (fun k14 => ?_)
  · refine V.iconst (q := 22) F dX7_needs_21 rfl ?_
    exact J22 _ (by omega)
  · refine V.iconst (q := 18) F dX7_needs_17 rfl ?_
    refine V.goto (tgt := 22) F dX7_needs_18 (by decide) ?_
    exact J22 _ (by omega)

abbrev YX7_farOff (l : Launch) (G : Gx) : Sx := (cX7_farOff, 5, RX7, wsX7_farOff, rmD 5, l, G)
theorem ydX7_farOff : ydOk yX7_farOff 1 := by decide +kernel
theorem inX7_farOff_X7 : ∀ w ∈ wsX70, w ∈ wsX7_farOff := fun _ h => List.mem_cons_of_mem _ (List.mem_append_right _ h)
set_option maxHeartbeats 1000000 in
set_option maxRecDepth 20000 in
theorem c_X7_farOff (l : Launch) (G : Gx) (hm ms mp mq mt mpa msh mo mtu : Nat) (a sv pa sh : Int → Int) (kn kp ln r : Int) (hR : Rel a sv) (hI : Inv a) (h1 : 0 ≤ r ∧ r < 16) : Ct l G yX7_farOff wsX7_farOff (rmD 5) [.ref hm, .int (zI r)] [(hm, .inr (7, [.ref ms, .ref mp, .int (zI kn), .ref mq, .int (zI kp), .ref mt, .int (zI ln), .ref mpa, .ref msh, .ref mo, .ref mtu])), (ms, aJ G 7157 sv), (mpa, aI G 48 pa), (msh, aI G 48 sh)] (Fn (some (.int (zI (disz a r)))) [(hm, .inr (7, [.ref ms, .ref mp, .int (zI kn), .ref mq, .int (zI kp), .ref mt, .int (zI ln), .ref mpa, .ref msh, .ref mo, .ref mtu])), (ms, aJ G 7157 sv), (mpa, aI G 48 (fil (pthz a r) pa 48)), (msh, aI G 48 (fil (shr a r) sh 48))]) := by
  refine Ct.intro (cc := cX7_farOff) (maxL := 5) (ret := (some .int)) (lo0 := [some (.ref hm), some (.int (zI r)), none, none, none]) (by decide +kernel) rfl ⟨rfl, rfl⟩ (Nat.le_of_ble_eq_true rfl) rfl ?_
  intro X F T
  change Fx X (YX7_farOff l G) at F
  change V X (YX7_farOff l G) 0 0 0 _ _ _
  have hw := hI.w h1
  have hgc := hI.p (j := 26144 + r) (by omega) (by omega)
  have hgs := cshz_rng hI h1
  have c1 := hR.cir h1
  refine V.aload_n (q := 1) F dX7_farOff_0 rfl rfl rfl ?_
  refine V.sipush (q := 4) F dX7_farOff_1 rfl (by decide) ?_
  refine V.iload_n (q := 5) F dX7_farOff_4 rfl rfl rfl ?_
  refine V.iadd (q := 6) F dX7_farOff_5 rfl ?_
  refine V.callV (q := 9) F [0, 1] 0 dX7_farOff_6 rfl (c_X7_num l G hm ms mp mq mt mpa msh mo mtu _ _ _ _ _ (by omega)) gX7_farOff_X7_num rfl rfl ydX7_num ⟨Nat.le_of_ble_eq_true rfl, Nat.le_of_ble_eq_true rfl⟩ (ci := 7) rfl rfl rfl rfl (Nat.le_of_ble_eq_true rfl) rfl rfl ⟨Nat.zero_le _, Nat.zero_le _⟩ (kkf (st' := [_]) (ws' := [_, _, _, _]) rfl rfl ?_)
  rw [c1]
  refine V.aload_n (q := 10) F dX7_farOff_9 rfl rfl rfl ?_
  refine V.iload_n (q := 11) F dX7_farOff_10 rfl rfl rfl ?_
  refine V.callV (q := 14) F [0, 1, 2] 0 dX7_farOff_11 rfl (c_X7_calmShare l G hm ms mp mq mt mpa msh mo mtu _ _ _ _ _ _ _ hR hI (by omega)) gX7_farOff_X7_calmShare rfl rfl ydX7_calmShare ⟨Nat.le_of_ble_eq_true rfl, Nat.le_of_ble_eq_true rfl⟩ (ci := 7) rfl rfl rfl rfl (Nat.le_of_ble_eq_true rfl) rfl rfl ⟨Nat.zero_le _, Nat.zero_le _⟩ (kkf (st' := [_, _]) (ws' := [_, _, _, _]) rfl rfl ?_)
  refine V.isub (q := 15) F dX7_farOff_14 rfl ?_
  refine V.istore_n (q := 16) (lo' := [_, _, _, _, _]) F dX7_farOff_15 rfl rfl (Nat.le_of_ble_eq_true rfl) rfl rfl ?_
  have J26 : ∀ (x : Int) (hx : x = absz (a (26144 + r) - cshz a r)), V X (YX7_farOff l G) 0 0 26 [some (.ref hm), some (.int (zI r)), some (.int (zI (a (26144 + r) - cshz a r))), none, none] [.int (zI x)] [(hm, .inr (7, [.ref ms, .ref mp, .int (zI kn), .ref mq, .int (zI kp), .ref mt, .int (zI ln), .ref mpa, .ref msh, .ref mo, .ref mtu])), (ms, aJ G 7157 sv), (mpa, aI G 48 (fil (pthz a r) pa 48)), (msh, aI G 48 sh)] := by
    intro x hx
    refine V.istore_n (q := 27) (lo' := [_, _, _, _, _]) F dX7_farOff_26 rfl rfl (Nat.le_of_ble_eq_true rfl) rfl rfl ?_
    refine V.aload_n (q := 28) F dX7_farOff_27 rfl rfl rfl ?_
    refine V.iload_n (q := 29) F dX7_farOff_28 rfl rfl rfl ?_
    refine V.callV (q := 32) F [0, 1, 2, 3] 0 dX7_farOff_29 rfl (c_X7_finds l G hm ms mp mq mt mpa msh mo mtu _ _ _ _ _ _ _ _ hR hI (by omega)) gX7_farOff_X7_finds rfl rfl ydX7_finds ⟨Nat.le_of_ble_eq_true rfl, Nat.le_of_ble_eq_true rfl⟩ (ci := 7) rfl rfl rfl rfl (Nat.le_of_ble_eq_true rfl) rfl rfl ⟨Nat.zero_le _, Nat.zero_le _⟩ (kkf (st' := []) (ws' := [_, _, _, _]) rfl rfl ?_)
    refine V.iconst (q := 33) F dX7_farOff_32 rfl ?_
    refine V.istore (q := 35) (lo' := [_, _, _, _, _]) F dX7_farOff_33 rfl (Nat.le_of_ble_eq_true rfl) rfl rfl ?_
    have L35 : ∀ (nq : Nat) (i S : Int) (hi : 0 ≤ i ∧ i ≤ 48) (hS : S = x + sz (fun p => absz (a (25376 + r * 48 + p) - shr a r p)) 0 i), (48 - i).toNat < nq → V X (YX7_farOff l G) 0 0 35 [some (.ref hm), some (.int (zI r)), none, some (.int (zI S)), some (.int (zI i))] [] [(hm, .inr (7, [.ref ms, .ref mp, .int (zI kn), .ref mq, .int (zI kp), .ref mt, .int (zI ln), .ref mpa, .ref msh, .ref mo, .ref mtu])), (ms, aJ G 7157 sv), (mpa, aI G 48 (fil (pthz a r) (fil (pthz a r) pa 48) 48)), (msh, aI G 48 (fil (shr a r) sh 48))] := by
      intro n35
      induction n35 with
      | zero => intro i S hi hS hm35; exact absurd hm35 (Nat.not_lt_zero _)
      | succ n35 ih35 =>
        intro i S hi hS hm35
        have hgp := fun h : i < 48 => hI.p (j := 25376 + r * 48 + i) (by omega) (by omega)
        have hgq := fun h : i < 48 => shr_rng hI h1 (p := i) (by omega)
        refine V.iload (q := 37) F dX7_farOff_35 rfl rfl ?_
        refine V.bipush (q := 39) F dX7_farOff_37 rfl (by decide) ?_
        refine V.icmp_ge (q := 42) (tgt := 77) F dX7_farOff_39 rfl (by decide) (by omega) (fun k39 => ?_) (fun k39 => ?_)
        · refine V.iload_n (q := 78) F dX7_farOff_77 rfl rfl rfl ?_
          exact V.iret F T dX7_farOff_78 (fnI (by rw [hS, show i = 48 by omega, hx]; unfold disz; omega) (wcons rfl (wcons rfl (wcons (arEqI (fil_fil _ _ _ _)) (wcons rfl rfl))))) [hm, ms, mpa, msh] rfl rfl
        · refine V.aload_n (q := 43) F dX7_farOff_42 rfl rfl rfl ?_
          refine V.iload_n (q := 44) F dX7_farOff_43 rfl rfl rfl ?_
          refine V.iload (q := 46) F dX7_farOff_44 rfl rfl ?_
          refine V.callV (q := 49) F [0, 1] 0 dX7_farOff_46 rfl (c_X7_petalOf l G hm ms mp mq mt mpa msh mo mtu _ _ _ _ _ _ _ hR (by omega) (by omega)) gX7_farOff_X7_petalOf rfl rfl ydX7_petalOf ⟨Nat.le_of_ble_eq_true rfl, Nat.le_of_ble_eq_true rfl⟩ (ci := 7) rfl rfl rfl rfl (Nat.le_of_ble_eq_true rfl) rfl rfl ⟨Nat.zero_le _, Nat.zero_le _⟩ (kkf (st' := [_]) (ws' := [_, _, _, _]) rfl rfl ?_)
          refine V.aload_n (q := 50) F dX7_farOff_49 rfl rfl rfl ?_
          refine V.get (q := 53) F 0 8 dX7_farOff_50 rfl rfl rfl inX7_farOff_X7 (by decide) (List.mem_of_getElem? (i := 1) rfl) rfl ?_
          refine V.iload (q := 55) F dX7_farOff_53 rfl rfl ?_
          refine V.iald (q := 56) F 3 dX7_farOff_55 rfl rfl (by decide) (by omega) ?_
          rw [fil_in (shr a r) sh hi.1 (show i < 48 by omega)]
          refine V.isub (q := 57) F dX7_farOff_56 rfl ?_
          refine V.istore_n (q := 58) (lo' := [_, _, _, _, _]) F dX7_farOff_57 rfl rfl (Nat.le_of_ble_eq_true rfl) rfl rfl ?_
          have J69 : ∀ (y : Int) (hy : y = absz (a (25376 + r * 48 + i) - shr a r i)), V X (YX7_farOff l G) 0 0 69 [some (.ref hm), some (.int (zI r)), some (.int (zI (a (25376 + r * 48 + i) - shr a r i))), some (.int (zI S)), some (.int (zI i))] [.int (zI y), .int (zI S)] [(hm, .inr (7, [.ref ms, .ref mp, .int (zI kn), .ref mq, .int (zI kp), .ref mt, .int (zI ln), .ref mpa, .ref msh, .ref mo, .ref mtu])), (ms, aJ G 7157 sv), (mpa, aI G 48 (fil (pthz a r) (fil (pthz a r) pa 48) 48)), (msh, aI G 48 (fil (shr a r) sh 48))] := by
            intro y hy
            refine V.iadd (q := 70) F dX7_farOff_69 rfl ?_
            refine V.istore_n (q := 71) (lo' := [_, _, _, _, _]) F dX7_farOff_70 rfl rfl (Nat.le_of_ble_eq_true rfl) rfl rfl ?_
            refine V.iinc (q := 74) (lo' := [_, _, _, _, _]) F dX7_farOff_71 rfl rfl (Nat.le_of_ble_eq_true rfl) rfl rfl ?_
            refine V.goto (tgt := 35) F dX7_farOff_74 (by decide) ?_
            refine V.mask [true, true, false, true, true] (lo' := [_, _, _, _, _]) rfl ?_
            exact ih35 (i + 1) _ (by omega) (by rw [sz_succ _ hi.1, hS, Int.add_assoc, hy]) (by omega)
          refine V.iload_n (q := 59) F dX7_farOff_58 rfl rfl rfl ?_
          refine V.iload_n (q := 60) F dX7_farOff_59 rfl rfl rfl ?_
          refine V.if_ge (q := 63) (tgt := 68) F dX7_farOff_60 rfl (by decide) (by omega) (fun k60 => ?_) (fun k60 => ?_)
          · refine V.iload_n (q := 69) F dX7_farOff_68 rfl rfl rfl ?_
            exact J69 _ (by unfold absz; first | rw [if_neg (by omega)] | rw [if_pos (by omega)])
          · refine V.iload_n (q := 64) F dX7_farOff_63 rfl rfl rfl ?_
            refine V.ineg (q := 65) F dX7_farOff_64 rfl ?_
            refine V.goto (tgt := 69) F dX7_farOff_65 (by decide) ?_
            exact J69 _ (by unfold absz; first | rw [if_neg (by omega)] | rw [if_pos (by omega)])
    refine V.mask [true, true, false, true, true] (lo' := [_, _, _, _, _]) rfl ?_
    exact L35 _ 0 _ (by omega) (by rw [sz_self, Int.add_zero]) (Nat.lt_succ_self _)
  refine V.iload_n (q := 17) F dX7_farOff_16 rfl rfl rfl ?_
  refine V.if_ge (q := 20) (tgt := 25) F dX7_farOff_17 rfl (by decide) (by omega) (fun k17 => ?_) (fun k17 => ?_)
  · refine V.iload_n (q := 26) F dX7_farOff_25 rfl rfl rfl ?_
    exact J26 _ (by unfold absz; first | rw [if_neg (by omega)] | rw [if_pos (by omega)])
  · refine V.iload_n (q := 21) F dX7_farOff_20 rfl rfl rfl ?_
    refine V.ineg (q := 22) F dX7_farOff_21 rfl ?_
    refine V.goto (tgt := 26) F dX7_farOff_22 (by decide) ?_
    exact J26 _ (by unfold absz; first | rw [if_neg (by omega)] | rw [if_pos (by omega)])

abbrev YX7_isTooMuch (l : Launch) (G : Gx) : Sx := (cX7_isTooMuch, 3, RX7, wsX7_isTooMuch, rmD 6, l, G)
theorem ydX7_isTooMuch : ydOk yX7_isTooMuch 1 := by decide +kernel
theorem inX7_isTooMuch_X7 : ∀ w ∈ wsX70, w ∈ wsX7_isTooMuch := fun _ h => List.mem_cons_of_mem _ (List.mem_append_right _ h)
set_option maxHeartbeats 1000000 in
set_option maxRecDepth 20000 in
theorem c_X7_isTooMuch (l : Launch) (G : Gx) (hm ms mp mq mt mpa msh mo mtu : Nat) (a sv pa sh : Int → Int) (kn kp ln r : Int) (hR : Rel a sv) (hI : Inv a) (h1 : 0 ≤ r ∧ r < 16) : Ct l G yX7_isTooMuch wsX7_isTooMuch (rmD 6) [.ref hm, .int (zI r)] [(hm, .inr (7, [.ref ms, .ref mp, .int (zI kn), .ref mq, .int (zI kp), .ref mt, .int (zI ln), .ref mpa, .ref msh, .ref mo, .ref mtu])), (ms, aJ G 7157 sv), (mpa, aI G 48 pa), (msh, aI G 48 sh)] (Fn (some (.int (zI (if 0 < scrz a r ∧ a 26178 < a (26160 + r) + scrz a r then 1 else 0)))) [(hm, .inr (7, [.ref ms, .ref mp, .int (zI kn), .ref mq, .int (zI kp), .ref mt, .int (zI ln), .ref mpa, .ref msh, .ref mo, .ref mtu])), (ms, aJ G 7157 sv), (mpa, aI G 48 (fil (pthz a r) pa 48)), (msh, aI G 48 (fil (shr a r) sh 48))]) := by
  refine Ct.intro (cc := cX7_isTooMuch) (maxL := 3) (ret := (some .boolean)) (lo0 := [some (.ref hm), some (.int (zI r)), none]) (by decide +kernel) rfl ⟨rfl, rfl⟩ (Nat.le_of_ble_eq_true rfl) rfl ?_
  intro X F T
  change Fx X (YX7_isTooMuch l G) at F
  change V X (YX7_isTooMuch l G) 0 0 0 _ _ _
  have hgz := scrz_rng (a := a) r
  have c1 := hR.scr h1
  have c2 : sv 7154 = a 26178 := hR.at (by omega)
  have hgc := hI.p (j := 26160 + r) (by omega) (by omega)
  have hset2 := hI.2.2.1.2.2.2
  have hset3 := hI.1 26178
  refine V.aload_n (q := 1) F dX7_isTooMuch_0 rfl rfl rfl ?_
  refine V.iload_n (q := 2) F dX7_isTooMuch_1 rfl rfl rfl ?_
  refine V.callV (q := 5) F [0, 1, 2, 3] 0 dX7_isTooMuch_2 rfl (c_X7_needs l G hm ms mp mq mt mpa msh mo mtu _ _ _ _ _ _ _ _ hR hI (by omega)) gX7_isTooMuch_X7_needs rfl rfl ydX7_needs ⟨Nat.le_of_ble_eq_true rfl, Nat.le_of_ble_eq_true rfl⟩ (ci := 7) rfl rfl rfl rfl (Nat.le_of_ble_eq_true rfl) rfl rfl ⟨Nat.zero_le _, Nat.zero_le _⟩ (kkf (st' := [_]) (ws' := [_, _, _, _]) rfl rfl ?_)
  refine V.istore_n (q := 6) (lo' := [_, _, _]) F dX7_isTooMuch_5 rfl rfl (Nat.le_of_ble_eq_true rfl) rfl rfl ?_
  refine V.iload_n (q := 7) F dX7_isTooMuch_6 rfl rfl rfl ?_
  refine V.if_le (q := 10) (tgt := 39) F dX7_isTooMuch_7 rfl (by decide) (by omega) (fun k7 => ?_) (fun k7 => ?_)
  · refine V.iconst (q := 40) F dX7_isTooMuch_39 rfl ?_
    exact V.zret F T (by omega) dX7_isTooMuch_40 (fnI (by omega) rfl) [hm, ms, mpa, msh] rfl rfl
  · refine V.aload_n (q := 11) F dX7_isTooMuch_10 rfl rfl rfl ?_
    refine V.get (q := 14) F 0 0 dX7_isTooMuch_11 rfl rfl rfl inX7_isTooMuch_X7 (by decide) (List.mem_of_getElem? (i := 1) rfl) rfl ?_
    refine V.sipush (q := 17) F dX7_isTooMuch_14 rfl (by decide) ?_
    refine V.iload_n (q := 18) F dX7_isTooMuch_17 rfl rfl rfl ?_
    refine V.iadd (q := 19) F dX7_isTooMuch_18 rfl ?_
    refine V.lald (q := 20) F 1 dX7_isTooMuch_19 rfl rfl (by decide) (by omega) ?_
    rw [c1]
    refine V.iload_n (q := 21) F dX7_isTooMuch_20 rfl rfl rfl ?_
    refine V.i2l (q := 22) F dX7_isTooMuch_21 rfl (by omega) ?_
    refine V.ladd (q := 23) F dX7_isTooMuch_22 rfl ?_
    refine V.aload_n (q := 24) F dX7_isTooMuch_23 rfl rfl rfl ?_
    refine V.get (q := 27) F 0 0 dX7_isTooMuch_24 rfl rfl rfl inX7_isTooMuch_X7 (by decide) (List.mem_of_getElem? (i := 1) rfl) rfl ?_
    refine V.sipush (q := 30) F dX7_isTooMuch_27 rfl (by decide) ?_
    refine V.lald (q := 31) F 1 dX7_isTooMuch_30 rfl rfl (by decide) (by omega) ?_
    rw [c2]
    refine V.lcmp (q := 32) F dX7_isTooMuch_31 rfl (by omega) (fun c31 c31a c31b c31c c31d => ?_)
    refine V.if_le (q := 35) (tgt := 39) F dX7_isTooMuch_32 rfl (by decide) (by omega) (fun k32 => ?_) (fun k32 => ?_)
    · refine V.iconst (q := 40) F dX7_isTooMuch_39 rfl ?_
      exact V.zret F T (by omega) dX7_isTooMuch_40 (fnI (by omega) rfl) [hm, ms, mpa, msh] rfl rfl
    · refine V.iconst (q := 36) F dX7_isTooMuch_35 rfl ?_
      refine V.goto (tgt := 40) F dX7_isTooMuch_36 (by decide) ?_
      exact V.zret F T (by omega) dX7_isTooMuch_40 (fnI (by omega) rfl) [hm, ms, mpa, msh] rfl rfl

abbrev YX7_reasonOf (l : Launch) (G : Gx) : Sx := (cX7_reasonOf, 2, RX7, wsX7_reasonOf, rmD 7, l, G)
theorem ydX7_reasonOf : ydOk yX7_reasonOf 1 := by decide +kernel
set_option maxHeartbeats 1000000 in
set_option maxRecDepth 20000 in
theorem c_X7_reasonOf (l : Launch) (G : Gx) (hm ms mp mq mt mpa msh mo mtu : Nat) (a sv pa sh : Int → Int) (kn kp ln r : Int) (hR : Rel a sv) (hI : Inv a) (h1 : 0 ≤ r ∧ r < 16) : Ct l G yX7_reasonOf wsX7_reasonOf (rmD 7) [.ref hm, .int (zI r)] [(hm, .inr (7, [.ref ms, .ref mp, .int (zI kn), .ref mq, .int (zI kp), .ref mt, .int (zI ln), .ref mpa, .ref msh, .ref mo, .ref mtu])), (ms, aJ G 7157 sv), (mpa, aI G 48 pa), (msh, aI G 48 sh)] (M4p G hm ms mp mq mt mpa msh mo mtu sv kn kp ln (obsz a r)) := by
  refine Ct.intro (cc := cX7_reasonOf) (maxL := 2) (ret := (some .int)) (lo0 := [some (.ref hm), some (.int (zI r))]) (by decide +kernel) rfl ⟨rfl, rfl⟩ (Nat.le_of_ble_eq_true rfl) rfl ?_
  intro X F T
  change Fx X (YX7_reasonOf l G) at F
  change V X (YX7_reasonOf l G) 0 0 0 _ _ _
  have hw := hI.w h1
  have hdr := difz_rng (a := a) r
  have hsr := scrz_rng (a := a) r
  have eo : obsz a r = if allz a r = 0 then 1 else if difz a r = 0 then 2 else if 0 < scrz a r ∧ a 26178 < a (26160 + r) + scrz a r then 3 else 0 := rfl
  have ea : allz a r = a (25344 + r) + a (25360 + r) := rfl
  refine V.aload_n (q := 1) F dX7_reasonOf_0 rfl rfl rfl ?_
  refine V.iload_n (q := 2) F dX7_reasonOf_1 rfl rfl rfl ?_
  refine V.callV (q := 5) F [0, 1, 2] 0 dX7_reasonOf_2 rfl (c_X7_hoursOf l G hm ms mp mq mt mpa msh mo mtu _ _ _ _ _ _ _ hR hI (by omega)) gX7_reasonOf_X7_hoursOf rfl rfl ydX7_hoursOf ⟨Nat.le_of_ble_eq_true rfl, Nat.le_of_ble_eq_true rfl⟩ (ci := 7) rfl rfl rfl rfl (Nat.le_of_ble_eq_true rfl) rfl rfl ⟨Nat.zero_le _, Nat.zero_le _⟩ (kkf (st' := [_]) (ws' := [_, _, _, _]) rfl rfl ?_)
  refine V.if_ne (q := 8) (tgt := 12) F dX7_reasonOf_5 rfl (by decide) (by omega) (fun k5 => ?_) (fun k5 => ?_)
  · refine V.aload_n (q := 13) F dX7_reasonOf_12 rfl rfl rfl ?_
    refine V.iload_n (q := 14) F dX7_reasonOf_13 rfl rfl rfl ?_
    refine V.callV (q := 17) F [0, 1, 2, 3] 0 dX7_reasonOf_14 rfl (c_X7_differs l G hm ms mp mq mt mpa msh mo mtu _ _ _ _ _ _ _ _ hR hI (by omega)) gX7_reasonOf_X7_differs rfl rfl ydX7_differs ⟨Nat.le_of_ble_eq_true rfl, Nat.le_of_ble_eq_true rfl⟩ (ci := 7) rfl rfl rfl rfl (Nat.le_of_ble_eq_true rfl) rfl rfl ⟨Nat.zero_le _, Nat.zero_le _⟩ (kkf (st' := [_]) (ws' := [_, _, _, _]) rfl rfl ?_)
    refine V.if_ne (q := 20) (tgt := 24) F dX7_reasonOf_17 rfl (by decide) (by omega) (fun k17 => ?_) (fun k17 => ?_)
    · refine V.aload_n (q := 25) F dX7_reasonOf_24 rfl rfl rfl ?_
      refine V.iload_n (q := 26) F dX7_reasonOf_25 rfl rfl rfl ?_
      refine V.callV (q := 29) F [0, 1, 2, 3] 0 dX7_reasonOf_26 rfl (c_X7_isTooMuch l G hm ms mp mq mt mpa msh mo mtu _ _ _ _ _ _ _ _ hR hI (by omega)) gX7_reasonOf_X7_isTooMuch rfl rfl ydX7_isTooMuch ⟨Nat.le_of_ble_eq_true rfl, Nat.le_of_ble_eq_true rfl⟩ (ci := 7) rfl rfl rfl rfl (Nat.le_of_ble_eq_true rfl) rfl rfl ⟨Nat.zero_le _, Nat.zero_le _⟩ (kkf (st' := [_]) (ws' := [_, _, _, _]) rfl rfl ?_)
      refine V.if_eq (q := 32) (tgt := 36) F dX7_reasonOf_29 rfl (by decide) (by omega) (fun k29 => ?_) (fun k29 => ?_)
      · refine V.iconst (q := 37) F dX7_reasonOf_36 rfl ?_
        exact V.iret F T dX7_reasonOf_37 ⟨_, _, iEq (by omega), rfl⟩ [hm, ms, mpa, msh] rfl rfl
      · refine V.iconst (q := 33) F dX7_reasonOf_32 rfl ?_
        refine V.goto (tgt := 37) F dX7_reasonOf_33 (by decide) ?_
        exact V.iret F T dX7_reasonOf_37 ⟨_, _, iEq (by omega), rfl⟩ [hm, ms, mpa, msh] rfl rfl
    · refine V.iconst (q := 21) F dX7_reasonOf_20 rfl ?_
      refine V.goto (tgt := 37) F dX7_reasonOf_21 (by decide) ?_
      exact V.iret F T dX7_reasonOf_37 ⟨_, _, iEq (by omega), rfl⟩ [hm, ms, mpa, msh] rfl rfl
  · refine V.iconst (q := 9) F dX7_reasonOf_8 rfl ?_
    refine V.goto (tgt := 37) F dX7_reasonOf_9 (by decide) ?_
    exact V.iret F T dX7_reasonOf_37 ⟨_, _, iEq (by omega), rfl⟩ [hm, ms, mpa, msh] rfl rfl

abbrev YX7_petals (l : Launch) (G : Gx) : Sx := (cX7_petals, 4, RX7, wsX7_petals, rmD 2, l, G)
theorem ydX7_petals : ydOk yX7_petals 1 := by decide +kernel
set_option maxHeartbeats 1000000 in
set_option maxRecDepth 20000 in
theorem c_X7_petals (l : Launch) (G : Gx) (hm ms mp mq mt mpa msh mo mtu : Nat) (a sv : Int → Int) (kn kp ln r : Int) (hR : Rel a sv) (hI : Inv a) (h1 : 0 ≤ r ∧ r < 16) : Ct l G yX7_petals wsX7_petals (rmD 2) [.ref hm, .int (zI r)] [(hm, .inr (7, [.ref ms, .ref mp, .int (zI kn), .ref mq, .int (zI kp), .ref mt, .int (zI ln), .ref mpa, .ref msh, .ref mo, .ref mtu])), (ms, aJ G 7157 sv)] (Fn (some (.int (zI (cutz a r)))) [(hm, .inr (7, [.ref ms, .ref mp, .int (zI kn), .ref mq, .int (zI kp), .ref mt, .int (zI ln), .ref mpa, .ref msh, .ref mo, .ref mtu])), (ms, aJ G 7157 sv)]) := by
  refine Ct.intro (cc := cX7_petals) (maxL := 4) (ret := (some .int)) (lo0 := [some (.ref hm), some (.int (zI r)), none, none]) (by decide +kernel) rfl ⟨rfl, rfl⟩ (Nat.le_of_ble_eq_true rfl) rfl ?_
  intro X F T
  change Fx X (YX7_petals l G) at F
  change V X (YX7_petals l G) 0 0 0 _ _ _
  refine V.iconst (q := 1) F dX7_petals_0 rfl ?_
  refine V.istore_n (q := 2) (lo' := [_, _, _, _]) F dX7_petals_1 rfl rfl (Nat.le_of_ble_eq_true rfl) rfl rfl ?_
  refine V.iconst (q := 3) F dX7_petals_2 rfl ?_
  refine V.istore_n (q := 4) (lo' := [_, _, _, _]) F dX7_petals_3 rfl rfl (Nat.le_of_ble_eq_true rfl) rfl rfl ?_
  have L4 : ∀ (nq : Nat) (i S : Int) (hi : 0 ≤ i ∧ i ≤ 48) (hS : S = sz (fun p => if 0 < a (25376 + r * 48 + p) then 1 else 0) 0 i), (48 - i).toNat < nq → V X (YX7_petals l G) 0 0 4 [some (.ref hm), some (.int (zI r)), some (.int (zI S)), some (.int (zI i))] [] [(hm, .inr (7, [.ref ms, .ref mp, .int (zI kn), .ref mq, .int (zI kp), .ref mt, .int (zI ln), .ref mpa, .ref msh, .ref mo, .ref mtu])), (ms, aJ G 7157 sv)] := by
    intro n4
    induction n4 with
    | zero => intro i S hi hS hm4; exact absurd hm4 (Nat.not_lt_zero _)
    | succ n4 ih4 =>
      intro i S hi hS hm4
      have hgp := fun h : i < 48 => hI.p (j := 25376 + r * 48 + i) (by omega) (by omega)
      refine V.iload_n (q := 5) F dX7_petals_4 rfl rfl rfl ?_
      refine V.bipush (q := 7) F dX7_petals_5 rfl (by decide) ?_
      refine V.icmp_ge (q := 10) (tgt := 33) F dX7_petals_7 rfl (by decide) (by omega) (fun k7 => ?_) (fun k7 => ?_)
      · refine V.iload_n (q := 34) F dX7_petals_33 rfl rfl rfl ?_
        exact V.iret F T dX7_petals_34 (fnI (by rw [hS, show i = 48 by omega]; rfl) rfl) [hm, ms] rfl rfl
      · have J25 : ∀ (x : Int) (hx : x = if 0 < a (25376 + r * 48 + i) then 1 else 0), V X (YX7_petals l G) 0 0 25 [some (.ref hm), some (.int (zI r)), some (.int (zI S)), some (.int (zI i))] [.int (zI x), .int (zI S)] [(hm, .inr (7, [.ref ms, .ref mp, .int (zI kn), .ref mq, .int (zI kp), .ref mt, .int (zI ln), .ref mpa, .ref msh, .ref mo, .ref mtu])), (ms, aJ G 7157 sv)] := by
          intro x hx
          refine V.iadd (q := 26) F dX7_petals_25 rfl ?_
          refine V.istore_n (q := 27) (lo' := [_, _, _, _]) F dX7_petals_26 rfl rfl (Nat.le_of_ble_eq_true rfl) rfl rfl ?_
          refine V.iinc (q := 30) (lo' := [_, _, _, _]) F dX7_petals_27 rfl rfl (Nat.le_of_ble_eq_true rfl) rfl rfl ?_
          refine V.goto (tgt := 4) F dX7_petals_30 (by decide) ?_
          exact ih4 (i + 1) _ (by omega) (by rw [sz_succ _ hi.1, ← hS, hx]) (by omega)
        refine V.iload_n (q := 11) F dX7_petals_10 rfl rfl rfl ?_
        refine V.aload_n (q := 12) F dX7_petals_11 rfl rfl rfl ?_
        refine V.iload_n (q := 13) F dX7_petals_12 rfl rfl rfl ?_
        refine V.iload_n (q := 14) F dX7_petals_13 rfl rfl rfl ?_
        refine V.callV (q := 17) F [0, 1] 0 dX7_petals_14 rfl (c_X7_petalOf l G hm ms mp mq mt mpa msh mo mtu _ _ _ _ _ _ _ hR (by omega) (by omega)) gX7_petals_X7_petalOf rfl rfl ydX7_petalOf ⟨Nat.le_of_ble_eq_true rfl, Nat.le_of_ble_eq_true rfl⟩ (ci := 7) rfl rfl rfl rfl (Nat.le_of_ble_eq_true rfl) rfl rfl ⟨Nat.zero_le _, Nat.zero_le _⟩ (kkf (st' := [_, _]) (ws' := [_, _]) rfl rfl ?_)
        refine V.if_le (q := 20) (tgt := 24) F dX7_petals_17 rfl (by decide) (by omega) (fun k17 => ?_) (fun k17 => ?_)
        · refine V.iconst (q := 25) F dX7_petals_24 rfl ?_
          exact J25 _ (by omega)
        · refine V.iconst (q := 21) F dX7_petals_20 rfl ?_
          refine V.goto (tgt := 25) F dX7_petals_21 (by decide) ?_
          exact J25 _ (by omega)
  exact L4 _ 0 0 (by omega) (sz_self _ _).symm (Nat.lt_succ_self _)

abbrev YX7_longest (l : Launch) (G : Gx) : Sx := (cX7_longest, 4, RX7, wsX7_longest, rmD 2, l, G)
theorem ydX7_longest : ydOk yX7_longest 1 := by decide +kernel
set_option maxHeartbeats 1000000 in
set_option maxRecDepth 20000 in
theorem c_X7_longest (l : Launch) (G : Gx) (hm ms mp mq mt mpa msh mo mtu : Nat) (a sv : Int → Int) (kn kp ln r : Int) (hR : Rel a sv) (hI : Inv a) (h1 : 0 ≤ r ∧ r < 16) : Ct l G yX7_longest wsX7_longest (rmD 2) [.ref hm, .int (zI r)] [(hm, .inr (7, [.ref ms, .ref mp, .int (zI kn), .ref mq, .int (zI kp), .ref mt, .int (zI ln), .ref mpa, .ref msh, .ref mo, .ref mtu])), (ms, aJ G 7157 sv)] (Fn (some (.int (zI (longz a r)))) [(hm, .inr (7, [.ref ms, .ref mp, .int (zI kn), .ref mq, .int (zI kp), .ref mt, .int (zI ln), .ref mpa, .ref msh, .ref mo, .ref mtu])), (ms, aJ G 7157 sv)]) := by
  refine Ct.intro (cc := cX7_longest) (maxL := 4) (ret := (some .int)) (lo0 := [some (.ref hm), some (.int (zI r)), none, none]) (by decide +kernel) rfl ⟨rfl, rfl⟩ (Nat.le_of_ble_eq_true rfl) rfl ?_
  intro X F T
  change Fx X (YX7_longest l G) at F
  change V X (YX7_longest l G) 0 0 0 _ _ _
  refine V.iconst (q := 1) F dX7_longest_0 rfl ?_
  refine V.istore_n (q := 2) (lo' := [_, _, _, _]) F dX7_longest_1 rfl rfl (Nat.le_of_ble_eq_true rfl) rfl rfl ?_
  refine V.iconst (q := 3) F dX7_longest_2 rfl ?_
  refine V.istore_n (q := 4) (lo' := [_, _, _, _]) F dX7_longest_3 rfl rfl (Nat.le_of_ble_eq_true rfl) rfl rfl ?_
  have L4 : ∀ (nq : Nat) (i S : Int) (hi : 0 ≤ i ∧ i ≤ 48) (hS : S = mxz (fun p => a (25376 + r * 48 + p)) i.toNat) (hS2 : 0 ≤ S ∧ S < 1000), (48 - i).toNat < nq → V X (YX7_longest l G) 0 0 4 [some (.ref hm), some (.int (zI r)), some (.int (zI S)), some (.int (zI i))] [] [(hm, .inr (7, [.ref ms, .ref mp, .int (zI kn), .ref mq, .int (zI kp), .ref mt, .int (zI ln), .ref mpa, .ref msh, .ref mo, .ref mtu])), (ms, aJ G 7157 sv)] := by
    intro n4
    induction n4 with
    | zero => intro i S hi hS hS2 hm4; exact absurd hm4 (Nat.not_lt_zero _)
    | succ n4 ih4 =>
      intro i S hi hS hS2 hm4
      have hgp := fun h : i < 48 => hI.p (j := 25376 + r * 48 + i) (by omega) (by omega)
      refine V.iload_n (q := 5) F dX7_longest_4 rfl rfl rfl ?_
      refine V.bipush (q := 7) F dX7_longest_5 rfl (by decide) ?_
      refine V.icmp_ge (q := 10) (tgt := 37) F dX7_longest_7 rfl (by decide) (by omega) (fun k7 => ?_) (fun k7 => ?_)
      · refine V.iload_n (q := 38) F dX7_longest_37 rfl rfl rfl ?_
        exact V.iret F T dX7_longest_38 (fnI (by rw [hS, show i = 48 by omega]; rfl) rfl) [hm, ms] rfl rfl
      · have J30 : ∀ (x : Int) (hx : x = if S < a (25376 + r * 48 + i) then a (25376 + r * 48 + i) else S), V X (YX7_longest l G) 0 0 30 [some (.ref hm), some (.int (zI r)), some (.int (zI S)), some (.int (zI i))] [.int (zI x)] [(hm, .inr (7, [.ref ms, .ref mp, .int (zI kn), .ref mq, .int (zI kp), .ref mt, .int (zI ln), .ref mpa, .ref msh, .ref mo, .ref mtu])), (ms, aJ G 7157 sv)] := by
          intro x hx
          refine V.istore_n (q := 31) (lo' := [_, _, _, _]) F dX7_longest_30 rfl rfl (Nat.le_of_ble_eq_true rfl) rfl rfl ?_
          refine V.iinc (q := 34) (lo' := [_, _, _, _]) F dX7_longest_31 rfl rfl (Nat.le_of_ble_eq_true rfl) rfl rfl ?_
          refine V.goto (tgt := 4) F dX7_longest_34 (by decide) ?_
          exact ih4 (i + 1) _ (by omega) (by rw [show (i + 1).toNat = i.toNat + 1 by omega, mxz, ← hS, Int.toNat_of_nonneg hi.1, hx]) (by omega) (by omega)
        refine V.aload_n (q := 11) F dX7_longest_10 rfl rfl rfl ?_
        refine V.iload_n (q := 12) F dX7_longest_11 rfl rfl rfl ?_
        refine V.iload_n (q := 13) F dX7_longest_12 rfl rfl rfl ?_
        refine V.callV (q := 16) F [0, 1] 0 dX7_longest_13 rfl (c_X7_petalOf l G hm ms mp mq mt mpa msh mo mtu _ _ _ _ _ _ _ hR (by omega) (by omega)) gX7_longest_X7_petalOf rfl rfl ydX7_petalOf ⟨Nat.le_of_ble_eq_true rfl, Nat.le_of_ble_eq_true rfl⟩ (ci := 7) rfl rfl rfl rfl (Nat.le_of_ble_eq_true rfl) rfl rfl ⟨Nat.zero_le _, Nat.zero_le _⟩ (kkf (st' := [_]) (ws' := [_, _]) rfl rfl ?_)
        refine V.iload_n (q := 17) F dX7_longest_16 rfl rfl rfl ?_
        refine V.icmp_le (q := 20) (tgt := 29) F dX7_longest_17 rfl (by decide) (by omega) (fun k17 => ?_) (fun k17 => ?_)
        · refine V.iload_n (q := 30) F dX7_longest_29 rfl rfl rfl ?_
          exact J30 _ (by omega)
        · refine V.aload_n (q := 21) F dX7_longest_20 rfl rfl rfl ?_
          refine V.iload_n (q := 22) F dX7_longest_21 rfl rfl rfl ?_
          refine V.iload_n (q := 23) F dX7_longest_22 rfl rfl rfl ?_
          refine V.callV (q := 26) F [0, 1] 0 dX7_longest_23 rfl (c_X7_petalOf l G hm ms mp mq mt mpa msh mo mtu _ _ _ _ _ _ _ hR (by omega) (by omega)) gX7_longest_X7_petalOf rfl rfl ydX7_petalOf ⟨Nat.le_of_ble_eq_true rfl, Nat.le_of_ble_eq_true rfl⟩ (ci := 7) rfl rfl rfl rfl (Nat.le_of_ble_eq_true rfl) rfl rfl ⟨Nat.zero_le _, Nat.zero_le _⟩ (kkf (st' := [_]) (ws' := [_, _]) rfl rfl ?_)
          refine V.goto (tgt := 30) F dX7_longest_26 (by decide) ?_
          exact J30 _ (by omega)
  exact L4 _ 0 0 (by omega) rfl (by omega) (Nat.lt_succ_self _)

theorem Rel.pet {a sv : Int → Int} (hR : Rel a sv) {r k : Int} (hr : 0 ≤ r ∧ r < 16) (hk : 0 ≤ k ∧ k < 48) : sv (6352 + 48 * r + k) = a (25376 + r * 48 + k) := by
  rw [hR.at (by omega)]
  exact congrArg a (by omega)
theorem Rel.clm {a sv : Int → Int} (hR : Rel a sv) {r : Int} (hr : 0 ≤ r ∧ r < 16) : sv (6336 + r) = a (25360 + r) := by
  rw [hR.at (by omega)]
  exact congrArg a (by omega)
theorem Rel.cir {a sv : Int → Int} (hR : Rel a sv) {r : Int} (hr : 0 ≤ r ∧ r < 16) : sv (7120 + r) = a (26144 + r) := by
  rw [hR.at (by omega)]
  exact congrArg a (by omega)
theorem Rel.scr {a sv : Int → Int} (hR : Rel a sv) {r : Int} (hr : 0 ≤ r ∧ r < 16) : sv (7136 + r) = a (26160 + r) := by
  rw [hR.at (by omega)]
  exact congrArg a (by omega)
theorem sz_pt {i v a b : Int} (hi : a ≤ i ∧ i < b) : sz (fun p => if i = p then v else 0) a b = v := by
  rw [sz_split _ hi.1 (by omega : i ≤ b), sz_split _ (by omega : i ≤ i + 1) (by omega : i + 1 ≤ b), sz_one, sz_zero (a := a) (b := i) (fun j h1 h2 => if_neg (by omega)), sz_zero (a := i + 1) (b := b) (fun j h1 h2 => if_neg (by omega)), if_pos rfl]
  omega
theorem qkz_sum (a : Int → Int) (r : Int) (k : Nat) : k ≤ 1584 → sz (fun p => qkz a r k p) 0 48 = sz (fun c => a (r * 1584 + c)) 0 k := by
  induction k with
  | zero =>
    intro _
    rw [show ((0 : Nat) : Int) = 0 from rfl, sz_self]
    exact sz_zero (fun j _ _ => sz_self _ _)
  | succ k ih =>
    intro hk
    have ih := ih (by omega)
    have hn := knd_rng a ((k : Int) % 99 + 1)
    rw [show ((k + 1 : Nat) : Int) = (k : Int) + 1 by omega, sz_succ _ (by omega), ← ih, ← sz_pt (i := (k : Int) / 99 * 3 + knd a ((k : Int) % 99 + 1)) (v := a (r * 1584 + k)) (a := 0) (b := 48) (by omega), ← sz_add]
    exact sz_congr (fun p _ _ => sz_succ _ (by omega))
theorem pthz_sum {a : Int → Int} (hI : Inv a) {r : Int} (hr : 0 ≤ r ∧ r < 16) : sz (fun p => pthz a r p) 0 48 = a (25344 + r) := by
  have h := qkz_sum a r 1584 (by omega)
  rw [show ((1584 : Nat) : Int) = 1584 from rfl, wnd_all hI hr] at h
  rw [← h]
  exact sz_congr (fun p h1 h2 => (qkz_all hI ⟨h1, h2⟩).symm)
theorem sz_mulc (c : Int) (f : Int → Int) (a b : Int) : sz (fun j => c * f j) a b = c * sz f a b := by
  by_cases hab : a ≤ b
  · have key : ∀ n : Nat, sz (fun j => c * f j) a (a + n) = c * sz f a (a + n) := by
      intro n
      induction n with
      | zero => simp [sz_self]
      | succ n ih =>
        rw [show a + ((n + 1 : Nat) : Int) = (a + n) + 1 by omega, sz_succ _ (by omega), sz_succ _ (by omega), ih, Int.mul_add]
    have := key (b - a).toNat
    rw [show a + ((b - a).toNat : Int) = b by omega] at this
    exact this
  · rw [sz_nil _ (by omega), sz_nil _ (by omega), Int.mul_zero]
theorem sz_lef {f g : Int → Int} {a b : Int} (h : ∀ j, a ≤ j → j < b → f j ≤ g j) : sz f a b ≤ sz g a b := by
  by_cases hab : a ≤ b
  · have key : ∀ n : Nat, a + n ≤ b → sz f a (a + n) ≤ sz g a (a + n) := by
      intro n
      induction n with
      | zero => intro _; simp [sz_self]
      | succ n ih =>
        intro hn
        have h1 := ih (by omega)
        have h2 := h (a + n) (by omega) (by omega)
        rw [show a + ((n + 1 : Nat) : Int) = (a + n) + 1 by omega, sz_succ _ (by omega), sz_succ _ (by omega)]; omega
    have := key (b - a).toNat (by omega)
    rw [show a + ((b - a).toNat : Int) = b by omega] at this
    exact this
  · rw [sz_nil _ (by omega), sz_nil _ (by omega)]; exact Int.le_refl 0
/-- the remainders are as many hours as are missing hundredths -/
theorem srm_sum {a : Int → Int} (hI : Inv a) {r : Int} (hr : 0 ≤ r ∧ r < 16) (hw : 0 < a (25344 + r)) : sz (srm a r) 0 48 = a (25344 + r) * mis a r := by
  have e1 : sz (fun p => a (25344 + r) * shq a r p + srm a r p) 0 48 = sz (fun p => 100 * pthz a r p) 0 48 := by
    refine sz_congr (fun p _ _ => ?_)
    unfold shq srm
    rw [if_pos hw, if_pos hw]
    exact Int.mul_ediv_add_emod _ _
  rw [sz_add, sz_mulc, sz_mulc, pthz_sum hI hr] at e1
  have e2 : mis a r = 100 - sz (shq a r) 0 48 := if_pos hw
  have e3 : sz (fun p => srm a r p) 0 48 = sz (srm a r) 0 48 := rfl
  have e4 : sz (fun p => shq a r p) 0 48 = sz (shq a r) 0 48 := rfl
  rw [e3] at e1
  have e5 : a (25344 + r) * (100 - sz (shq a r) 0 48) = 100 * a (25344 + r) - a (25344 + r) * sz (shq a r) 0 48 := by rw [Int.mul_sub, Int.mul_comm]
  rw [e2, e5]
  omega
theorem srm_lt {a : Int → Int} {r p : Int} (hw : 0 < a (25344 + r)) : 0 ≤ srm a r p ∧ srm a r p ≤ a (25344 + r) - 1 := by
  unfold srm
  rw [if_pos hw]
  have := Int.emod_nonneg (100 * pthz a r p) (show a (25344 + r) ≠ 0 by omega)
  have := Int.emod_lt_of_pos (100 * pthz a r p) hw
  omega
theorem mis_47 {a : Int → Int} (hI : Inv a) {r : Int} (hr : 0 ≤ r ∧ r < 16) : mis a r ≤ 47 := by
  by_cases hw : 0 < a (25344 + r)
  · have h1 := sz_le (f := srm a r) (a := 0) (b := 48) (c := a (25344 + r) - 1) (by omega) (by omega) (fun j _ _ => srm_lt hw)
    rw [srm_sum hI hr hw] at h1
    rcases Int.lt_or_le (mis a r) 48 with h | h
    · omega
    · exfalso
      have h2 : a (25344 + r) * 48 ≤ a (25344 + r) * mis a r := Int.mul_le_mul_of_nonneg_left h (by omega)
      omega
  · have : mis a r = 0 := if_neg hw
    omega
theorem shr_key {a : Int → Int} (hI : Inv a) {r p : Int} (hr : 0 ≤ r ∧ r < 16) (hp : 0 ≤ p ∧ p < 48) (hw : 0 < a (25344 + r)) (h0 : srm a r p = 0) : ¬ pah (srm a r) p < mis a r := by
  intro hlt
  have h1 : sz (srm a r) 0 48 ≤ sz (fun o => (a (25344 + r) - 1) * (if srm a r p < srm a r o ∨ (srm a r o = srm a r p ∧ o < p) then 1 else 0)) 0 48 := by
    refine sz_lef (fun o _ _ => ?_)
    have h2 := srm_lt (p := o) hw
    by_cases h3 : 0 < srm a r o
    · rw [if_pos (Or.inl (by omega)), Int.mul_one]; exact h2.2
    · have h4 : (0 : Int) ≤ (a (25344 + r) - 1) * (if srm a r p < srm a r o ∨ (srm a r o = srm a r p ∧ o < p) then 1 else 0) := Int.mul_nonneg (by omega) (by split <;> omega)
      omega
  rw [sz_mulc, srm_sum hI hr hw] at h1
  have h5 : sz (fun o => if srm a r p < srm a r o ∨ (srm a r o = srm a r p ∧ o < p) then 1 else 0) 0 48 = pah (srm a r) p := rfl
  rw [h5] at h1
  have hpr := pah_rng (srm a r) p
  have h6 : (a (25344 + r) - 1) * pah (srm a r) p ≤ a (25344 + r) * pah (srm a r) p := Int.mul_le_mul_of_nonneg_right (by omega) hpr.1
  have h7 : a (25344 + r) * pah (srm a r) p < a (25344 + r) * mis a r := Int.mul_lt_mul_of_pos_left hlt hw
  omega
/-- as the model has it -/
theorem shr_eq {a : Int → Int} (hI : Inv a) {r p : Int} (hr : 0 ≤ r ∧ r < 16) (hp : 0 ≤ p ∧ p < 48) (hw : 0 < a (25344 + r)) : shr a r p = shq a r p + (if pah (srm a r) p < mis a r then 1 else 0) := by
  unfold shr
  by_cases h : pah (srm a r) p < mis a r
  · have h1 : 0 < srm a r p := by
      have := srm_lt (p := p) hw
      rcases Int.lt_or_le 0 (srm a r p) with g | g
      · exact g
      · exact absurd h (shr_key hI hr hp hw (by omega))
    rw [if_pos ⟨h1, h⟩, if_pos h]
  · rw [if_neg (fun z => h z.2), if_neg h]
theorem shr_w0 {a : Int → Int} {r p : Int} (hw : ¬ 0 < a (25344 + r)) : shr a r p = shq a r p := by
  have : srm a r p = 0 := if_neg hw
  unfold shr
  rw [if_neg (by omega), Int.add_zero]
/-- the model's way to the greatest -/
def bmz (f : Int → Int) : Nat → Int
  | 0 => 0
  | n + 1 => if f (bmz f n) < f (n : Int) then (n : Int) else bmz f n
theorem bmz_rng (f : Int → Int) : ∀ n : Nat, 0 ≤ bmz f n ∧ (1 ≤ n → bmz f n < n)
  | 0 => ⟨Int.le_refl 0, fun h => absurd h (by omega)⟩
  | n + 1 => by
    have ih := bmz_rng f n
    rw [bmz]
    split
    · exact ⟨by omega, fun _ => by omega⟩
    · refine ⟨ih.1, fun _ => ?_⟩
      rcases Nat.eq_zero_or_pos n with h | h
      · subst h; show (0 : Int) < _; omega
      · have := ih.2 h; omega
def oth (m g : Int → Int) : Int → Int := fun j => if g j = 0 then m j else -1
theorem bmz_bsi {m g : Int → Int} (hm : ∀ j, 0 ≤ j → j < 48 → 0 ≤ m j) : ∀ i : Nat, i ≤ 48 → (bsi m g i < 0 ∧ bmz (oth m g) i = 0 ∧ ∀ j : Int, 0 ≤ j → j < i → g j ≠ 0) ∨ (0 ≤ bsi m g i ∧ bmz (oth m g) i = bsi m g i ∧ g (bsi m g i) = 0)
  | 0, _ => Or.inl ⟨by show (-1 : Int) < 0; omega, rfl, fun j h1 h2 => absurd h2 (by omega)⟩
  | i + 1, hi => by
    have ih := bmz_bsi (g := g) hm i (by omega)
    have hmi := hm (i : Int) (by omega) (by omega)
    have hoi : oth m g (i : Int) = if g (i : Int) = 0 then m (i : Int) else -1 := rfl
    rw [bsi, bmz]
    rcases ih with ⟨h1, h2, h3⟩ | ⟨h1, h2, h3⟩
    · by_cases hg : g (i : Int) = 0
      · right
        rw [if_pos ⟨hg, Or.inl h1⟩]
        refine ⟨by omega, ?_, hg⟩
        rw [if_pos hg] at hoi
        rcases Nat.eq_zero_or_pos i with h | h
        · subst h
          rw [h2]; split <;> rfl
        · have e0 : oth m g 0 = -1 := if_neg (h3 0 (Int.le_refl 0) (by omega))
          rw [h2, e0, hoi, if_pos (by omega)]
      · left
        rw [if_neg (fun z => hg z.1)]
        rw [if_neg hg] at hoi
        refine ⟨h1, ?_, fun j hj1 hj2 => ?_⟩
        · rw [h2, hoi]
          have : ¬ oth m g 0 < -1 := by
            unfold oth
            have := hm 0 (by omega) (by omega)
            split <;> omega
          rw [if_neg this]
        · by_cases hj : j = i
          · rw [hj]; exact hg
          · exact h3 j hj1 (by omega)
    · have eb : oth m g (bsi m g i) = m (bsi m g i) := if_pos h3
      right
      rw [h2, eb, hoi]
      have hr := bsi_rng m g i
      have hmb := hm (bsi m g i) h1 (by omega)
      by_cases hg : g (i : Int) = 0
      · rw [if_pos hg]
        by_cases hc : m (bsi m g i) < m (i : Int)
        · rw [if_pos ⟨hg, Or.inr hc⟩, if_pos hc]; exact ⟨by omega, rfl, hg⟩
        · rw [if_neg (by omega), if_neg hc]; exact ⟨h1, rfl, h3⟩
      · rw [if_neg hg, if_neg (fun z => hg z.1), if_neg (by omega)]; exact ⟨h1, rfl, h3⟩
theorem dlN_cnt {m : Int → Int} {s : (Int → Int) × (Int → Int)} (h0 : sz s.2 0 48 = 0) (h01 : ∀ j, 0 ≤ j → j < 48 → 0 ≤ s.2 j ∧ s.2 j ≤ 1) : ∀ n : Nat, sz (dlN m s n).2 0 48 ≤ n
  | 0 => by rw [dlN, h0]; omega
  | n + 1 => by
    have ih := dlN_cnt h0 h01 (m := m) n
    rw [dlN, dlS]
    split
    · rename_i hb
      have hr := bsi_rng m (dlN m s n).2 48
      have h1 := dlN_01 m s h01 n _ hb (by omega)
      show sz (upz _ _ 1) 0 48 ≤ _
      rw [sz_upz_in _ hb (by omega)]
      omega
    · omega
/-- while fewer than all have got one, both ways find the same -/
theorem best_eq {m : Int → Int} {s : (Int → Int) × (Int → Int)} (hm : ∀ j, 0 ≤ j → j < 48 → 0 ≤ m j) (h0 : sz s.2 0 48 = 0) (h01 : ∀ j, 0 ≤ j → j < 48 → 0 ≤ s.2 j ∧ s.2 j ≤ 1) {n : Nat} (hn : n < 48) : 0 ≤ bsi m (dlN m s n).2 48 ∧ bmz (oth m (dlN m s n).2) 48 = bsi m (dlN m s n).2 48 := by
  rcases bmz_bsi (g := (dlN m s n).2) hm 48 (Nat.le_refl _) with ⟨h1, h2, h3⟩ | ⟨h1, h2, h3⟩
  · exfalso
    have hc := dlN_cnt h0 h01 (m := m) n
    have h4 : sz (fun _ => 1) 0 48 ≤ sz (dlN m s n).2 0 48 := sz_lef (fun j h5 h6 => by
      have h7 := dlN_01 m s h01 n j h5 h6
      have h8 := h3 j h5 (by omega)
      omega)
    have h5 : sz (fun _ => 1) 0 48 = 48 := by decide +kernel
    omega
  · exact ⟨h1, h2⟩
theorem oth_put {m g : Int → Int} {b : Int} : upz (oth m g) b (-1) = oth m (upz g b 1) := by
  funext j
  show (if j = b then -1 else oth m g j) = (if upz g b 1 j = 0 then m j else -1)
  by_cases h : j = b
  · rw [if_pos h, if_neg (by rw [h, upz_eq]; omega)]
  · rw [if_neg h]
    unfold oth
    simp only [upz_ne g b 1 h]

abbrev YX7_calmOf (l : Launch) (G : Gx) : Sx := (cX7_calmOf, 2, RX7, wsX7_calmOf, rmD 1, l, G)
theorem ydX7_calmOf : ydOk yX7_calmOf 1 := by decide +kernel
set_option maxHeartbeats 1000000 in
set_option maxRecDepth 20000 in
theorem c_X7_calmOf (l : Launch) (G : Gx) (hm ms mp mq mt mpa msh mo mtu : Nat) (a sv : Int → Int) (kn kp ln r : Int) (hR : Rel a sv) (h1 : 0 ≤ r ∧ r < 16) : Ct l G yX7_calmOf wsX7_calmOf (rmD 1) [.ref hm, .int (zI r)] [(hm, .inr (7, [.ref ms, .ref mp, .int (zI kn), .ref mq, .int (zI kp), .ref mt, .int (zI ln), .ref mpa, .ref msh, .ref mo, .ref mtu])), (ms, aJ G 7157 sv)] (Fn (some (.int (zI (a (25360 + r))))) [(hm, .inr (7, [.ref ms, .ref mp, .int (zI kn), .ref mq, .int (zI kp), .ref mt, .int (zI ln), .ref mpa, .ref msh, .ref mo, .ref mtu])), (ms, aJ G 7157 sv)]) := by
  refine Ct.intro (cc := cX7_calmOf) (maxL := 2) (ret := (some .int)) (lo0 := [some (.ref hm), some (.int (zI r))]) (by decide +kernel) rfl ⟨rfl, rfl⟩ (Nat.le_of_ble_eq_true rfl) rfl ?_
  intro X F T
  change Fx X (YX7_calmOf l G) at F
  change V X (YX7_calmOf l G) 0 0 0 _ _ _
  refine V.aload_n (q := 1) F dX7_calmOf_0 rfl rfl rfl ?_
  refine V.sipush (q := 4) F dX7_calmOf_1 rfl (by decide) ?_
  refine V.iload_n (q := 5) F dX7_calmOf_4 rfl rfl rfl ?_
  refine V.iadd (q := 6) F dX7_calmOf_5 rfl ?_
  refine V.callV (q := 9) F [0, 1] 0 dX7_calmOf_6 rfl (c_X7_num l G hm ms mp mq mt mpa msh mo mtu _ _ _ _ _ (by omega)) gX7_calmOf_X7_num rfl rfl ydX7_num ⟨Nat.le_of_ble_eq_true rfl, Nat.le_of_ble_eq_true rfl⟩ (ci := 7) rfl rfl rfl rfl (Nat.le_of_ble_eq_true rfl) rfl rfl ⟨Nat.zero_le _, Nat.zero_le _⟩ (kkf (st' := [_]) (ws' := [_, _]) rfl rfl ?_)
  exact V.iret F T dX7_calmOf_9 (fnI (hR.clm h1) rfl) [hm, ms] rfl rfl

abbrev YX7_hoursOf (l : Launch) (G : Gx) : Sx := (cX7_hoursOf, 2, RX7, wsX7_hoursOf, rmD 3, l, G)
theorem ydX7_hoursOf : ydOk yX7_hoursOf 1 := by decide +kernel
set_option maxHeartbeats 1000000 in
set_option maxRecDepth 20000 in
theorem c_X7_hoursOf (l : Launch) (G : Gx) (hm ms mp mq mt mpa msh mo mtu : Nat) (a sv pa : Int → Int) (kn kp ln r : Int) (hR : Rel a sv) (hI : Inv a) (h1 : 0 ≤ r ∧ r < 16) : Ct l G yX7_hoursOf wsX7_hoursOf (rmD 3) [.ref hm, .int (zI r)] [(hm, .inr (7, [.ref ms, .ref mp, .int (zI kn), .ref mq, .int (zI kp), .ref mt, .int (zI ln), .ref mpa, .ref msh, .ref mo, .ref mtu])), (ms, aJ G 7157 sv), (mpa, aI G 48 pa)] (Fn (some (.int (zI (a (25344 + r) + a (25360 + r))))) [(hm, .inr (7, [.ref ms, .ref mp, .int (zI kn), .ref mq, .int (zI kp), .ref mt, .int (zI ln), .ref mpa, .ref msh, .ref mo, .ref mtu])), (ms, aJ G 7157 sv), (mpa, aI G 48 (fil (pthz a r) pa 48))]) := by
  refine Ct.intro (cc := cX7_hoursOf) (maxL := 2) (ret := (some .int)) (lo0 := [some (.ref hm), some (.int (zI r))]) (by decide +kernel) rfl ⟨rfl, rfl⟩ (Nat.le_of_ble_eq_true rfl) rfl ?_
  intro X F T
  change Fx X (YX7_hoursOf l G) at F
  change V X (YX7_hoursOf l G) 0 0 0 _ _ _
  refine V.aload_n (q := 1) F dX7_hoursOf_0 rfl rfl rfl ?_
  refine V.iload_n (q := 2) F dX7_hoursOf_1 rfl rfl rfl ?_
  refine V.callV (q := 5) F [0, 1, 2] 0 dX7_hoursOf_2 rfl (c_X7_looks l G hm ms mp mq mt mpa msh mo mtu _ _ _ _ _ _ _ hR hI (by omega)) gX7_hoursOf_X7_looks rfl rfl ydX7_looks ⟨Nat.le_of_ble_eq_true rfl, Nat.le_of_ble_eq_true rfl⟩ (ci := 7) rfl rfl rfl rfl (Nat.le_of_ble_eq_true rfl) rfl rfl ⟨Nat.zero_le _, Nat.zero_le _⟩ (kkf (st' := [_]) (ws' := [_, _, _]) rfl rfl ?_)
  refine V.aload_n (q := 6) F dX7_hoursOf_5 rfl rfl rfl ?_
  refine V.iload_n (q := 7) F dX7_hoursOf_6 rfl rfl rfl ?_
  refine V.callV (q := 10) F [0, 1] 0 dX7_hoursOf_7 rfl (c_X7_calmOf l G hm ms mp mq mt mpa msh mo mtu _ _ _ _ _ _ hR (by omega)) gX7_hoursOf_X7_calmOf rfl rfl ydX7_calmOf ⟨Nat.le_of_ble_eq_true rfl, Nat.le_of_ble_eq_true rfl⟩ (ci := 7) rfl rfl rfl rfl (Nat.le_of_ble_eq_true rfl) rfl rfl ⟨Nat.zero_le _, Nat.zero_le _⟩ (kkf (st' := [_, _]) (ws' := [_, _, _]) rfl rfl ?_)
  refine V.iadd (q := 11) F dX7_hoursOf_10 rfl ?_
  exact V.iret F T dX7_hoursOf_11 (fnI rfl rfl) [hm, ms, mpa] rfl rfl

abbrev YX7_calmShare (l : Launch) (G : Gx) : Sx := (cX7_calmShare, 3, RX7, wsX7_calmShare, rmD 4, l, G)
theorem ydX7_calmShare : ydOk yX7_calmShare 1 := by decide +kernel
set_option maxHeartbeats 1000000 in
set_option maxRecDepth 20000 in
theorem c_X7_calmShare (l : Launch) (G : Gx) (hm ms mp mq mt mpa msh mo mtu : Nat) (a sv pa : Int → Int) (kn kp ln r : Int) (hR : Rel a sv) (hI : Inv a) (h1 : 0 ≤ r ∧ r < 16) : Ct l G yX7_calmShare wsX7_calmShare (rmD 4) [.ref hm, .int (zI r)] [(hm, .inr (7, [.ref ms, .ref mp, .int (zI kn), .ref mq, .int (zI kp), .ref mt, .int (zI ln), .ref mpa, .ref msh, .ref mo, .ref mtu])), (ms, aJ G 7157 sv), (mpa, aI G 48 pa)] (Fn (some (.int (zI (cshz a r)))) [(hm, .inr (7, [.ref ms, .ref mp, .int (zI kn), .ref mq, .int (zI kp), .ref mt, .int (zI ln), .ref mpa, .ref msh, .ref mo, .ref mtu])), (ms, aJ G 7157 sv), (mpa, aI G 48 (fil (pthz a r) pa 48))]) := by
  refine Ct.intro (cc := cX7_calmShare) (maxL := 3) (ret := (some .int)) (lo0 := [some (.ref hm), some (.int (zI r)), none]) (by decide +kernel) rfl ⟨rfl, rfl⟩ (Nat.le_of_ble_eq_true rfl) rfl ?_
  intro X F T
  change Fx X (YX7_calmShare l G) at F
  change V X (YX7_calmShare l G) 0 0 0 _ _ _
  have hw := hI.w h1
  refine V.aload_n (q := 1) F dX7_calmShare_0 rfl rfl rfl ?_
  refine V.iload_n (q := 2) F dX7_calmShare_1 rfl rfl rfl ?_
  refine V.callV (q := 5) F [0, 1, 2] 0 dX7_calmShare_2 rfl (c_X7_hoursOf l G hm ms mp mq mt mpa msh mo mtu _ _ _ _ _ _ _ hR hI (by omega)) gX7_calmShare_X7_hoursOf rfl rfl ydX7_hoursOf ⟨Nat.le_of_ble_eq_true rfl, Nat.le_of_ble_eq_true rfl⟩ (ci := 7) rfl rfl rfl rfl (Nat.le_of_ble_eq_true rfl) rfl rfl ⟨Nat.zero_le _, Nat.zero_le _⟩ (kkf (st' := [_]) (ws' := [_, _, _]) rfl rfl ?_)
  refine V.istore_n (q := 6) (lo' := [_, _, _]) F dX7_calmShare_5 rfl rfl (Nat.le_of_ble_eq_true rfl) rfl rfl ?_
  refine V.iload_n (q := 7) F dX7_calmShare_6 rfl rfl rfl ?_
  refine V.if_ne (q := 10) (tgt := 14) F dX7_calmShare_7 rfl (by decide) (by omega) (fun k7 => ?_) (fun k7 => ?_)
  · refine V.bipush (q := 16) F dX7_calmShare_14 rfl (by decide) ?_
    refine V.aload_n (q := 17) F dX7_calmShare_16 rfl rfl rfl ?_
    refine V.iload_n (q := 18) F dX7_calmShare_17 rfl rfl rfl ?_
    refine V.callV (q := 21) F [0, 1] 0 dX7_calmShare_18 rfl (c_X7_calmOf l G hm ms mp mq mt mpa msh mo mtu _ _ _ _ _ _ hR (by omega)) gX7_calmShare_X7_calmOf rfl rfl ydX7_calmOf ⟨Nat.le_of_ble_eq_true rfl, Nat.le_of_ble_eq_true rfl⟩ (ci := 7) rfl rfl rfl rfl (Nat.le_of_ble_eq_true rfl) rfl rfl ⟨Nat.zero_le _, Nat.zero_le _⟩ (kkf (st' := [_, _]) (ws' := [_, _, _]) rfl rfl ?_)
    refine V.imul (q := 22) F dX7_calmShare_21 rfl ?_
    refine V.iload_n (q := 23) F dX7_calmShare_22 rfl rfl rfl ?_
    refine V.idiv (q := 24) F dX7_calmShare_23 rfl ⟨by omega, by omega⟩ ?_
    exact V.iret F T dX7_calmShare_24 (fnI (by unfold cshz allz; first | rw [if_pos (by omega)] | rw [if_neg (by omega)]) rfl) [hm, ms, mpa] rfl rfl
  · refine V.iconst (q := 11) F dX7_calmShare_10 rfl ?_
    refine V.goto (tgt := 24) F dX7_calmShare_11 (by decide) ?_
    exact V.iret F T dX7_calmShare_24 (fnI (by unfold cshz allz; first | rw [if_pos (by omega)] | rw [if_neg (by omega)]) rfl) [hm, ms, mpa] rfl rfl

abbrev YX7_ahead (l : Launch) (G : Gx) : Sx := (cX7_ahead, 7, RX7, wsX7_ahead, rmD 0, l, G)
theorem ydX7_ahead : ydOk yX7_ahead 2 := by decide +kernel
theorem inX7_ahead_X7 : ∀ w ∈ wsX70, w ∈ wsX7_ahead := fun _ h => List.mem_cons_of_mem _ (List.mem_append_right _ h)
set_option maxHeartbeats 1000000 in
set_option maxRecDepth 20000 in
theorem c_X7_ahead (l : Launch) (G : Gx) (hm ms mp mq mt mpa msh mo mtu : Nat) (pa : Int → Int) (kn kp ln p w : Int) (hp : ∀ j, 0 ≤ j → j < 48 → 0 ≤ pa j ∧ pa j ≤ 9999) (h1 : 0 ≤ p ∧ p < 48) (hw : 0 < w ∧ w ≤ 9999) : Ct l G yX7_ahead wsX7_ahead (rmD 0) [.ref hm, .int (zI p), .int (zI w)] [(hm, .inr (7, [.ref ms, .ref mp, .int (zI kn), .ref mq, .int (zI kp), .ref mt, .int (zI ln), .ref mpa, .ref msh, .ref mo, .ref mtu])), (mpa, aI G 48 pa)] (Fn (some (.int (zI (pah (fun k => 100 * pa k % w) p)))) [(hm, .inr (7, [.ref ms, .ref mp, .int (zI kn), .ref mq, .int (zI kp), .ref mt, .int (zI ln), .ref mpa, .ref msh, .ref mo, .ref mtu])), (mpa, aI G 48 pa)]) := by
  refine Ct.intro (cc := cX7_ahead) (maxL := 7) (ret := (some .int)) (lo0 := [some (.ref hm), some (.int (zI p)), some (.int (zI w)), none, none, none, none]) (by decide +kernel) rfl ⟨rfl, rfl⟩ (Nat.le_of_ble_eq_true rfl) rfl ?_
  intro X F T
  change Fx X (YX7_ahead l G) at F
  change V X (YX7_ahead l G) 0 0 0 _ _ _
  have hpp := hp p h1.1 h1.2
  have m1 := Int.emod_nonneg (100 * pa p) (show w ≠ 0 by omega)
  have m2 := Int.emod_lt_of_pos (100 * pa p) hw.1
  refine V.iconst (q := 1) F dX7_ahead_0 rfl ?_
  refine V.istore_n (q := 2) (lo' := [_, _, _, _, _, _, _]) F dX7_ahead_1 rfl rfl (Nat.le_of_ble_eq_true rfl) rfl rfl ?_
  refine V.bipush (q := 4) F dX7_ahead_2 rfl (by decide) ?_
  refine V.aload_n (q := 5) F dX7_ahead_4 rfl rfl rfl ?_
  refine V.get (q := 8) F 0 7 dX7_ahead_5 rfl rfl rfl inX7_ahead_X7 (by decide) (List.mem_of_getElem? (i := 1) rfl) rfl ?_
  refine V.iload_n (q := 9) F dX7_ahead_8 rfl rfl rfl ?_
  refine V.iald (q := 10) F 1 dX7_ahead_9 rfl rfl (by decide) (by omega) ?_
  refine V.imul (q := 11) F dX7_ahead_10 rfl ?_
  refine V.iload_n (q := 12) F dX7_ahead_11 rfl rfl rfl ?_
  refine V.irem (q := 13) F dX7_ahead_12 rfl ⟨by omega, by omega⟩ ?_
  refine V.istore (q := 15) (lo' := [_, _, _, _, _, _, _]) F dX7_ahead_13 rfl (Nat.le_of_ble_eq_true rfl) rfl rfl ?_
  refine V.iconst (q := 16) F dX7_ahead_15 rfl ?_
  refine V.istore (q := 18) (lo' := [_, _, _, _, _, _, _]) F dX7_ahead_16 rfl (Nat.le_of_ble_eq_true rfl) rfl rfl ?_
  have L18 : ∀ (nq : Nat) (i S : Int) (hi : 0 ≤ i ∧ i ≤ 48) (hS : S = sz (fun o => if 100 * pa p % w < 100 * pa o % w ∨ (100 * pa o % w = 100 * pa p % w ∧ o < p) then 1 else 0) 0 i), (48 - i).toNat < nq → V X (YX7_ahead l G) 0 0 18 [some (.ref hm), some (.int (zI p)), some (.int (zI w)), some (.int (zI S)), some (.int (zI (100 * pa p % w))), some (.int (zI i)), none] [] [(hm, .inr (7, [.ref ms, .ref mp, .int (zI kn), .ref mq, .int (zI kp), .ref mt, .int (zI ln), .ref mpa, .ref msh, .ref mo, .ref mtu])), (mpa, aI G 48 pa)] := by
    intro n18
    induction n18 with
    | zero => intro i S hi hS hm18; exact absurd hm18 (Nat.not_lt_zero _)
    | succ n18 ih18 =>
      intro i S hi hS hm18
      have hpi := hp i hi.1
      have m3 := Int.emod_nonneg (100 * pa i) (show w ≠ 0 by omega)
      have m4 := Int.emod_lt_of_pos (100 * pa i) hw.1
      refine V.iload (q := 20) F dX7_ahead_18 rfl rfl ?_
      refine V.bipush (q := 22) F dX7_ahead_20 rfl (by decide) ?_
      refine V.icmp_ge (q := 25) (tgt := 73) F dX7_ahead_22 rfl (by decide) (by omega) (fun k22 => ?_) (fun k22 => ?_)
      · refine V.iload_n (q := 74) F dX7_ahead_73 rfl rfl rfl ?_
        exact V.iret F T dX7_ahead_74 (fnI (by rw [hS, show i = 48 by omega]; rfl) rfl) [hm, mpa] rfl rfl
      · refine V.bipush (q := 27) F dX7_ahead_25 rfl (by decide) ?_
        refine V.aload_n (q := 28) F dX7_ahead_27 rfl rfl rfl ?_
        refine V.get (q := 31) F 0 7 dX7_ahead_28 rfl rfl rfl inX7_ahead_X7 (by decide) (List.mem_of_getElem? (i := 1) rfl) rfl ?_
        refine V.iload (q := 33) F dX7_ahead_31 rfl rfl ?_
        refine V.iald (q := 34) F 1 dX7_ahead_33 rfl rfl (by decide) (by omega) ?_
        refine V.imul (q := 35) F dX7_ahead_34 rfl ?_
        refine V.iload_n (q := 36) F dX7_ahead_35 rfl rfl rfl ?_
        refine V.irem (q := 37) F dX7_ahead_36 rfl ⟨by omega, by omega⟩ ?_
        refine V.istore (q := 39) (lo' := [_, _, _, _, _, _, _]) F dX7_ahead_37 rfl (Nat.le_of_ble_eq_true rfl) rfl rfl ?_
        have J65 : ∀ (x : Int) (hx : x = if 100 * pa p % w < 100 * pa i % w ∨ (100 * pa i % w = 100 * pa p % w ∧ i < p) then 1 else 0), V X (YX7_ahead l G) 0 0 65 [some (.ref hm), some (.int (zI p)), some (.int (zI w)), some (.int (zI S)), some (.int (zI (100 * pa p % w))), some (.int (zI i)), some (.int (zI (100 * pa i % w)))] [.int (zI x), .int (zI S)] [(hm, .inr (7, [.ref ms, .ref mp, .int (zI kn), .ref mq, .int (zI kp), .ref mt, .int (zI ln), .ref mpa, .ref msh, .ref mo, .ref mtu])), (mpa, aI G 48 pa)] := by
          intro x hx
          refine V.iadd (q := 66) F dX7_ahead_65 rfl ?_
          refine V.istore_n (q := 67) (lo' := [_, _, _, _, _, _, _]) F dX7_ahead_66 rfl rfl (Nat.le_of_ble_eq_true rfl) rfl rfl ?_
          refine V.iinc (q := 70) (lo' := [_, _, _, _, _, _, _]) F dX7_ahead_67 rfl rfl (Nat.le_of_ble_eq_true rfl) rfl rfl ?_
          refine V.goto (tgt := 18) F dX7_ahead_70 (by decide) ?_
          refine V.mask [true, true, true, true, true, true, false] (lo' := [_, _, _, _, _, _, _]) rfl ?_
          exact ih18 (i + 1) _ (by omega) (by rw [sz_succ _ hi.1, ← hS, hx]) (by omega)
        refine V.iload_n (q := 40) F dX7_ahead_39 rfl rfl rfl ?_
        refine V.iload (q := 42) F dX7_ahead_40 rfl rfl ?_
        refine V.iload (q := 44) F dX7_ahead_42 rfl rfl ?_
        refine V.icmp_gt (q := 47) (tgt := 60) F dX7_ahead_44 rfl (by decide) (by omega) (fun k44 => ?_) (fun k44 => ?_)
        · refine V.iconst (q := 61) F dX7_ahead_60 rfl ?_
          refine V.goto (tgt := 65) F dX7_ahead_61 (by decide) ?_
          exact J65 _ (by omega)
        · refine V.iload (q := 49) F dX7_ahead_47 rfl rfl ?_
          refine V.iload (q := 51) F dX7_ahead_49 rfl rfl ?_
          refine V.icmp_ne (q := 54) (tgt := 64) F dX7_ahead_51 rfl (by decide) (by omega) (fun k51 => ?_) (fun k51 => ?_)
          · refine V.iconst (q := 65) F dX7_ahead_64 rfl ?_
            exact J65 _ (by omega)
          · refine V.iload (q := 56) F dX7_ahead_54 rfl rfl ?_
            refine V.iload_n (q := 57) F dX7_ahead_56 rfl rfl rfl ?_
            refine V.icmp_ge (q := 60) (tgt := 64) F dX7_ahead_57 rfl (by decide) (by omega) (fun k57 => ?_) (fun k57 => ?_)
            · refine V.iconst (q := 65) F dX7_ahead_64 rfl ?_
              exact J65 _ (by omega)
            · refine V.iconst (q := 61) F dX7_ahead_60 rfl ?_
              refine V.goto (tgt := 65) F dX7_ahead_61 (by decide) ?_
              exact J65 _ (by omega)
  refine V.mask [true, true, true, true, true, true, false] (lo' := [_, _, _, _, _, _, _]) rfl ?_
  exact L18 _ 0 0 (by omega) (sz_self _ _).symm (Nat.lt_succ_self _)

abbrev YX7_finds (l : Launch) (G : Gx) : Sx := (cX7_finds, 5, RX7, wsX7_finds, rmD 3, l, G)
theorem ydX7_finds : ydOk yX7_finds 1 := by decide +kernel
theorem inX7_finds_X7 : ∀ w ∈ wsX70, w ∈ wsX7_finds := fun _ h => List.mem_cons_of_mem _ (List.mem_append_right _ h)
set_option maxHeartbeats 1000000 in
set_option maxRecDepth 20000 in
theorem c_X7_finds (l : Launch) (G : Gx) (hm ms mp mq mt mpa msh mo mtu : Nat) (a sv pa sh : Int → Int) (kn kp ln r : Int) (hR : Rel a sv) (hI : Inv a) (h1 : 0 ≤ r ∧ r < 16) : Ct l G yX7_finds wsX7_finds (rmD 3) [.ref hm, .int (zI r)] [(hm, .inr (7, [.ref ms, .ref mp, .int (zI kn), .ref mq, .int (zI kp), .ref mt, .int (zI ln), .ref mpa, .ref msh, .ref mo, .ref mtu])), (ms, aJ G 7157 sv), (mpa, aI G 48 pa), (msh, aI G 48 sh)] (Fn none [(hm, .inr (7, [.ref ms, .ref mp, .int (zI kn), .ref mq, .int (zI kp), .ref mt, .int (zI ln), .ref mpa, .ref msh, .ref mo, .ref mtu])), (ms, aJ G 7157 sv), (mpa, aI G 48 (fil (pthz a r) pa 48)), (msh, aI G 48 (fil (shr a r) sh 48))]) := by
  refine Ct.intro (cc := cX7_finds) (maxL := 5) (ret := none) (lo0 := [some (.ref hm), some (.int (zI r)), none, none, none]) (by decide +kernel) rfl ⟨rfl, rfl⟩ (Nat.le_of_ble_eq_true rfl) rfl ?_
  intro X F T
  change Fx X (YX7_finds l G) at F
  change V X (YX7_finds l G) 0 0 0 _ _ _
  have hw := hI.w h1
  have hml := mis_rng hI h1
  refine V.aload_n (q := 1) F dX7_finds_0 rfl rfl rfl ?_
  refine V.iload_n (q := 2) F dX7_finds_1 rfl rfl rfl ?_
  refine V.callV (q := 5) F [0, 1, 2] 0 dX7_finds_2 rfl (c_X7_looks l G hm ms mp mq mt mpa msh mo mtu _ _ _ _ _ _ _ hR hI (by omega)) gX7_finds_X7_looks rfl rfl ydX7_looks ⟨Nat.le_of_ble_eq_true rfl, Nat.le_of_ble_eq_true rfl⟩ (ci := 7) rfl rfl rfl rfl (Nat.le_of_ble_eq_true rfl) rfl rfl ⟨Nat.zero_le _, Nat.zero_le _⟩ (kkf (st' := [_]) (ws' := [_, _, _, _]) rfl rfl ?_)
  refine V.istore_n (q := 6) (lo' := [_, _, _, _, _]) F dX7_finds_5 rfl rfl (Nat.le_of_ble_eq_true rfl) rfl rfl ?_
  have J16 : ∀ (x : Int) (hx : x = if a (25344 + r) = 0 then 0 else 100), V X (YX7_finds l G) 0 0 16 [some (.ref hm), some (.int (zI r)), some (.int (zI (a (25344 + r)))), none, none] [.int (zI x)] [(hm, .inr (7, [.ref ms, .ref mp, .int (zI kn), .ref mq, .int (zI kp), .ref mt, .int (zI ln), .ref mpa, .ref msh, .ref mo, .ref mtu])), (ms, aJ G 7157 sv), (mpa, aI G 48 (fil (pthz a r) pa 48)), (msh, aI G 48 sh)] := by
    intro x hx
    refine V.istore_n (q := 17) (lo' := [_, _, _, _, _]) F dX7_finds_16 rfl rfl (Nat.le_of_ble_eq_true rfl) rfl rfl ?_
    refine V.iconst (q := 18) F dX7_finds_17 rfl ?_
    refine V.istore (q := 20) (lo' := [_, _, _, _, _]) F dX7_finds_18 rfl (Nat.le_of_ble_eq_true rfl) rfl rfl ?_
    have L20 : ∀ (nq : Nat) (i mm : Int) (hi : 0 ≤ i ∧ i ≤ 48) (hmm : mm = (if a (25344 + r) = 0 then 0 else 100) - sz (shq a r) 0 i), (48 - i).toNat < nq → V X (YX7_finds l G) 0 0 20 [some (.ref hm), some (.int (zI r)), some (.int (zI (a (25344 + r)))), some (.int (zI mm)), some (.int (zI i))] [] [(hm, .inr (7, [.ref ms, .ref mp, .int (zI kn), .ref mq, .int (zI kp), .ref mt, .int (zI ln), .ref mpa, .ref msh, .ref mo, .ref mtu])), (ms, aJ G 7157 sv), (mpa, aI G 48 (fil (pthz a r) pa 48)), (msh, aI G 48 (fil (shq a r) sh i))] := by
      intro n20
      induction n20 with
      | zero => intro i mm hi hmm hm20; exact absurd hm20 (Nat.not_lt_zero _)
      | succ n20 ih20 =>
        intro i mm hi hmm hm20
        have hpi := fun h : i < 48 => pthz_rng hI h1 (p := i) ⟨hi.1, h⟩
        refine V.iload (q := 22) F dX7_finds_20 rfl rfl ?_
        refine V.bipush (q := 24) F dX7_finds_22 rfl (by decide) ?_
        refine V.icmp_ge (q := 27) (tgt := 70) F dX7_finds_24 rfl (by decide) (by omega) (fun k24 => ?_) (fun k24 => ?_)
        · have he : i = 48 := by omega
          subst he
          refine V.iconst (q := 71) F dX7_finds_70 rfl ?_
          refine V.istore (q := 73) (lo' := [_, _, _, _, _]) F dX7_finds_71 rfl (Nat.le_of_ble_eq_true rfl) rfl rfl ?_
          have L73 : ∀ (nq : Nat) (i : Int) (hi : 0 ≤ i ∧ i ≤ 48) (hi0 : 0 < a (25344 + r) ∨ i = 0), (48 - i).toNat < nq → V X (YX7_finds l G) 0 0 73 [some (.ref hm), some (.int (zI r)), some (.int (zI (a (25344 + r)))), some (.int (zI (mis a r))), some (.int (zI i))] [] [(hm, .inr (7, [.ref ms, .ref mp, .int (zI kn), .ref mq, .int (zI kp), .ref mt, .int (zI ln), .ref mpa, .ref msh, .ref mo, .ref mtu])), (ms, aJ G 7157 sv), (mpa, aI G 48 (fil (pthz a r) pa 48)), (msh, aI G 48 (fil (shr a r) (fil (shq a r) sh 48) i))] := by
            intro n73
            induction n73 with
            | zero => intro i hi hi0 hm73; exact absurd hm73 (Nat.not_lt_zero _)
            | succ n73 ih73 =>
              intro i hi hi0 hm73
              have hpl := pah_rng (srm a r) i
              refine V.iload (q := 75) F dX7_finds_73 rfl rfl ?_
              refine V.bipush (q := 77) F dX7_finds_75 rfl (by decide) ?_
              refine V.icmp_ge (q := 80) (tgt := 116) F dX7_finds_77 rfl (by decide) (by omega) (fun k77 => ?_) (fun k77 => ?_)
              · have hfin : fil (shr a r) (fil (shq a r) sh 48) i = fil (shr a r) sh 48 := by
                  by_cases hw0 : 0 < a (25344 + r)
                  · rw [show i = 48 by omega, fil_fil]
                  · rw [show i = 0 by omega, fil_0]; exact fil_congr (fun j _ _ => (shr_w0 hw0).symm)
                exact V.vret F T dX7_finds_116 ⟨rfl, (wcons rfl (wcons rfl (wcons rfl (wcons (arEqI hfin) rfl))))⟩ [hm, ms, mpa, msh] rfl rfl
              · refine V.iload_n (q := 81) F dX7_finds_80 rfl rfl rfl ?_
                refine V.if_le (q := 84) (tgt := 116) F dX7_finds_81 rfl (by decide) (by omega) (fun k81 => ?_) (fun k81 => ?_)
                · have hfin : fil (shr a r) (fil (shq a r) sh 48) i = fil (shr a r) sh 48 := by
                    by_cases hw0 : 0 < a (25344 + r)
                    · rw [show i = 48 by omega, fil_fil]
                    · rw [show i = 0 by omega, fil_0]; exact fil_congr (fun j _ _ => (shr_w0 hw0).symm)
                  exact V.vret F T dX7_finds_116 ⟨rfl, (wcons rfl (wcons rfl (wcons rfl (wcons (arEqI hfin) rfl))))⟩ [hm, ms, mpa, msh] rfl rfl
                · have J108 : ∀ (z : Int) (hz : z = if pah (srm a r) i < mis a r then 1 else 0), V X (YX7_finds l G) 0 0 108 [some (.ref hm), some (.int (zI r)), some (.int (zI (a (25344 + r)))), some (.int (zI (mis a r))), some (.int (zI i))] [.int (zI z), .int (zI (fil (shr a r) (fil (shq a r) sh 48) i i)), .int (zI i), .ref msh] [(hm, .inr (7, [.ref ms, .ref mp, .int (zI kn), .ref mq, .int (zI kp), .ref mt, .int (zI ln), .ref mpa, .ref msh, .ref mo, .ref mtu])), (ms, aJ G 7157 sv), (mpa, aI G 48 (fil (pthz a r) pa 48)), (msh, aI G 48 (fil (shr a r) (fil (shq a r) sh 48) i))] := by
                    intro z hz
                    refine V.iadd (q := 109) F dX7_finds_108 rfl ?_
                    refine V.iast (q := 110) (ws' := [_, _, _, _]) F 3 dX7_finds_109 rfl rfl (by decide) (by omega) rfl ?_
                    rw [fil_s (shr a r) _ hi.1 (by rw [fil_out _ _ (Or.inr (Int.le_refl i)), fil_in _ _ hi.1 (by omega), hz, shr_eq hI h1 ⟨hi.1, by omega⟩ (by omega)])]
                    refine V.iinc (q := 113) (lo' := [_, _, _, _, _]) F dX7_finds_110 rfl rfl (Nat.le_of_ble_eq_true rfl) rfl rfl ?_
                    refine V.goto (tgt := 73) F dX7_finds_113 (by decide) ?_
                    exact ih73 (i + 1) (by omega) (by omega) (by omega)
                  refine V.aload_n (q := 85) F dX7_finds_84 rfl rfl rfl ?_
                  refine V.get (q := 88) F 0 8 dX7_finds_85 rfl rfl rfl inX7_finds_X7 (by decide) (List.mem_of_getElem? (i := 1) rfl) rfl ?_
                  refine V.iload (q := 90) F dX7_finds_88 rfl rfl ?_
                  refine V.dup2 (q := 91) F dX7_finds_90 rfl rfl rfl ?_
                  refine V.iald (q := 92) F 3 dX7_finds_91 rfl rfl (by decide) (by omega) ?_
                  refine V.aload_n (q := 93) F dX7_finds_92 rfl rfl rfl ?_
                  refine V.iload (q := 95) F dX7_finds_93 rfl rfl ?_
                  refine V.iload_n (q := 96) F dX7_finds_95 rfl rfl rfl ?_
                  refine V.callV (q := 99) F [0, 2] 0 dX7_finds_96 rfl (c_X7_ahead l G hm ms mp mq mt mpa msh mo mtu _ _ _ _ _ _ (fun j h3 h4 => by rw [fil_in _ _ h3 h4]; have := pthz_rng hI h1 (p := j) ⟨h3, h4⟩; omega) (by omega) (by omega)) gX7_finds_X7_ahead rfl rfl ydX7_ahead ⟨Nat.le_of_ble_eq_true rfl, Nat.le_of_ble_eq_true rfl⟩ (ci := 7) rfl rfl rfl rfl (Nat.le_of_ble_eq_true rfl) rfl rfl ⟨Nat.zero_le _, Nat.zero_le _⟩ (kkf (st' := [_, _, _, _]) (ws' := [_, _, _, _]) rfl rfl ?_)
                  rw [pah_congr (m' := srm a r) (fun j h3 h4 => by show 100 * fil (pthz a r) pa 48 j % a (25344 + r) = srm a r j; rw [fil_in _ _ h3 h4]; exact (if_pos (by omega)).symm) (show 0 ≤ i ∧ i < 48 by omega)]
                  refine V.iload_n (q := 100) F dX7_finds_99 rfl rfl rfl ?_
                  refine V.icmp_ge (q := 103) (tgt := 107) F dX7_finds_100 rfl (by decide) (by omega) (fun k100 => ?_) (fun k100 => ?_)
                  · refine V.iconst (q := 108) F dX7_finds_107 rfl ?_
                    exact J108 _ (by omega)
                  · refine V.iconst (q := 104) F dX7_finds_103 rfl ?_
                    refine V.goto (tgt := 108) F dX7_finds_104 (by decide) ?_
                    exact J108 _ (by omega)
          have hmq : mm = mis a r := by
            rw [hmm]; unfold mis
            by_cases hw0 : 0 < a (25344 + r)
            · rw [if_neg (by omega), if_pos hw0]
            · rw [if_pos (by omega), if_neg hw0, sz_zero (f := shq a r) (fun j _ _ => if_neg hw0)]; rfl
          subst hmq
          refine V.eq (pc' := 73) (lo' := [_, _, _, _, _]) (st' := []) (ws' := [_, _, _, (msh, aI G 48 (fil (shr a r) (fil (shq a r) sh 48) 0))]) rfl rfl rfl (by rw [fil_0]) ?_
          exact L73 _ 0 (by omega) (by omega) (Nat.lt_succ_self _)
        · have J53 : ∀ (y : Int) (hy : y = shq a r i), V X (YX7_finds l G) 0 0 53 [some (.ref hm), some (.int (zI r)), some (.int (zI (a (25344 + r)))), some (.int (zI mm)), some (.int (zI i))] [.int (zI y), .int (zI i), .ref msh] [(hm, .inr (7, [.ref ms, .ref mp, .int (zI kn), .ref mq, .int (zI kp), .ref mt, .int (zI ln), .ref mpa, .ref msh, .ref mo, .ref mtu])), (ms, aJ G 7157 sv), (mpa, aI G 48 (fil (pthz a r) pa 48)), (msh, aI G 48 (fil (shq a r) sh i))] := by
            intro y hy
            refine V.iast (q := 54) (ws' := [_, _, _, _]) F 3 dX7_finds_53 rfl rfl (by decide) (by omega) rfl ?_
            rw [fil_s (shq a r) sh hi.1 hy]
            refine V.iload_n (q := 55) F dX7_finds_54 rfl rfl rfl ?_
            refine V.aload_n (q := 56) F dX7_finds_55 rfl rfl rfl ?_
            refine V.get (q := 59) F 0 8 dX7_finds_56 rfl rfl rfl inX7_finds_X7 (by decide) (List.mem_of_getElem? (i := 1) rfl) rfl ?_
            refine V.iload (q := 61) F dX7_finds_59 rfl rfl ?_
            refine V.iald (q := 62) F 3 dX7_finds_61 rfl rfl (by decide) (by omega) ?_
            rw [fil_in (shq a r) sh hi.1 (show i < i + 1 by omega)]
            refine V.isub (q := 63) F dX7_finds_62 rfl ?_
            refine V.istore_n (q := 64) (lo' := [_, _, _, _, _]) F dX7_finds_63 rfl rfl (Nat.le_of_ble_eq_true rfl) rfl rfl ?_
            refine V.iinc (q := 67) (lo' := [_, _, _, _, _]) F dX7_finds_64 rfl rfl (Nat.le_of_ble_eq_true rfl) rfl rfl ?_
            refine V.goto (tgt := 20) F dX7_finds_67 (by decide) ?_
            exact ih20 (i + 1) _ (by omega) (by rw [sz_succ _ hi.1, hmm]; omega) (by omega)
          refine V.aload_n (q := 28) F dX7_finds_27 rfl rfl rfl ?_
          refine V.get (q := 31) F 0 8 dX7_finds_28 rfl rfl rfl inX7_finds_X7 (by decide) (List.mem_of_getElem? (i := 1) rfl) rfl ?_
          refine V.iload (q := 33) F dX7_finds_31 rfl rfl ?_
          refine V.iload_n (q := 34) F dX7_finds_33 rfl rfl rfl ?_
          refine V.if_ne (q := 37) (tgt := 41) F dX7_finds_34 rfl (by decide) (by omega) (fun k34 => ?_) (fun k34 => ?_)
          · refine V.bipush (q := 43) F dX7_finds_41 rfl (by decide) ?_
            refine V.aload_n (q := 44) F dX7_finds_43 rfl rfl rfl ?_
            refine V.get (q := 47) F 0 7 dX7_finds_44 rfl rfl rfl inX7_finds_X7 (by decide) (List.mem_of_getElem? (i := 2) rfl) rfl ?_
            refine V.iload (q := 49) F dX7_finds_47 rfl rfl ?_
            refine V.iald (q := 50) F 2 dX7_finds_49 rfl rfl (by decide) (by omega) ?_
            have hpq := hpi (by omega)
            have hfp := fil_in (pthz a r) pa hi.1 (show i < 48 by omega)
            refine V.imul (q := 51) F dX7_finds_50 rfl ?_
            refine V.iload_n (q := 52) F dX7_finds_51 rfl rfl rfl ?_
            refine V.idiv (q := 53) F dX7_finds_52 rfl ⟨by rw [hfp]; omega, by omega⟩ ?_
            exact J53 _ (by unfold shq; first | rw [if_neg (by omega)] | rw [if_pos (by omega), fil_in (pthz a r) pa (by omega) (by omega)])
          · refine V.iconst (q := 38) F dX7_finds_37 rfl ?_
            refine V.goto (tgt := 53) F dX7_finds_38 (by decide) ?_
            exact J53 _ (by unfold shq; first | rw [if_neg (by omega)] | rw [if_pos (by omega), fil_in (pthz a r) pa (by omega) (by omega)])
    refine V.eq (pc' := 20) (lo' := [_, _, _, _, _]) (st' := []) (ws' := [_, _, _, (msh, aI G 48 (fil (shq a r) sh 0))]) rfl rfl rfl (by rw [fil_0]) ?_
    exact L20 _ 0 _ (by omega) (by rw [sz_self, hx]; omega) (Nat.lt_succ_self _)
  refine V.iload_n (q := 7) F dX7_finds_6 rfl rfl rfl ?_
  refine V.if_ne (q := 10) (tgt := 14) F dX7_finds_7 rfl (by decide) (by omega) (fun k7 => ?_) (fun k7 => ?_)
  · refine V.bipush (q := 16) F dX7_finds_14 rfl (by decide) ?_
    exact J16 _ (by omega)
  · refine V.iconst (q := 11) F dX7_finds_10 rfl ?_
    refine V.goto (tgt := 16) F dX7_finds_11 (by decide) ?_
    exact J16 _ (by omega)

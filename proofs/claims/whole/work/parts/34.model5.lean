/-! what holds of a desk's row behind every act -/
theorem Rel.wnd {a sv : Int → Int} (hR : Rel a sv) {r x : Int} (hr : 0 ≤ r ∧ r < 16) : Rel (upz a (25344 + r) x) sv := by
  intro q h1 h2
  rw [hR q h1 h2]
  unfold pkd
  by_cases h3 : q < 6336
  · rw [if_pos h3, if_pos h3, upz_ne _ _ _ (by omega), upz_ne _ _ _ (by omega), upz_ne _ _ _ (by omega), upz_ne _ _ _ (by omega)]
  · rw [if_neg h3, if_neg h3, upz_ne _ _ _ (by omega)]
theorem Inv.aW {a : Int → Int} (hI : Inv a) {r d v h : Int} (hr : 0 ≤ r ∧ r < 16) (hd : 0 ≤ d ∧ d < 16) (hv : 1 ≤ v ∧ v ≤ 99) (h0 : 0 ≤ a (r * 1584 + d * 99 + v - 1) + h) (ht : a (25344 + r) + a (25360 + r) + h ≤ 9999) : Inv (addW a r d v h) := by
  have hA := addW_w (a := a) (h := h) hr hd hv
  have e : ∀ j, addW a r d v h j = if j = 25344 + r then a (25344 + r) + h else if j = r * 1584 + d * 99 + v - 1 then a (r * 1584 + d * 99 + v - 1) + h else a j := by
    intro j
    by_cases hj : j = 25344 + r
    · rw [if_pos hj, hj, hA.1]
    · rw [if_neg hj]
      unfold addW
      rw [upz_ne _ _ _ hj]
      rfl
  have hs : ∀ r' : Int, 0 ≤ r' → r' < 16 → sz (addW a r d v h) (r' * 1584) (r' * 1584 + 1584) = sz a (r' * 1584) (r' * 1584 + 1584) + (if r' = r then h else 0) := by
    intro r' h1 h2
    rw [sz_congr (g := upz a (r * 1584 + d * 99 + v - 1) (a (r * 1584 + d * 99 + v - 1) + h)) (fun j h3 h4 => by rw [e, if_neg (by omega)]; rfl)]
    by_cases hr' : r' = r
    · rw [if_pos hr', sz_upz_in _ (by omega) (by omega)]; omega
    · rw [if_neg hr', sz_upz_out _ (by omega), Int.add_zero]
  have hw0 : 0 ≤ a (25344 + r) + h := by
    have h1 := hI.2.1 r hr.1 hr.2
    have h2 := sz_mem (f := a) (a := r * 1584) (b := r * 1584 + 1584) (i := r * 1584 + d * 99 + v - 1) (fun j _ _ => hI.1 j) (by omega) (by omega)
    omega
  refine ⟨fun j => ?_, fun r' h1 h2 => ?_, ?_, fun j h1 h2 => ?_⟩
  · rw [e]
    have := hI.1 j
    split
    · exact hw0
    · split
      · exact h0
      · exact this
  · rw [hs r' h1 h2, e, e, if_neg (show ¬ (25360 + r' : Int) = 25344 + r by omega), if_neg (show ¬ (25360 + r' : Int) = r * 1584 + d * 99 + v - 1 by omega)]
    have h3 := hI.2.1 r' h1 h2
    by_cases hr' : r' = r
    · subst hr'
      rw [if_pos rfl, if_pos rfl]; omega
    · rw [if_neg (by omega), if_neg (by omega), if_neg hr']; omega
  · rw [e, e, e]
    rw [if_neg (by omega), if_neg (by omega), if_neg (by omega), if_neg (by omega), if_neg (by omega), if_neg (by omega)]
    exact hI.2.2.1
  · rw [e, if_neg (by omega), if_neg (by omega)]
    exact hI.2.2.2 j h1 h2
/-- a change behind the log's cells and totals -/
theorem Inv.upd {a b : Int → Int} (hI : Inv a) (hlo : ∀ j, 0 ≤ j → j < 25376 → b j = a j) (h0 : ∀ j, 0 ≤ b j) (hs : 1 ≤ b 26176 ∧ b 26176 < b 26177 ∧ b 26177 ≤ 99 ∧ b 26178 ≤ 9) (hp : ∀ j, 25376 ≤ j → j < 26176 → b j ≤ 100) : Inv b := by
  refine ⟨h0, fun r h1 h2 => ?_, hs, hp⟩
  rw [hlo _ (by omega) (by omega), hlo _ (by omega) (by omega), sz_congr (g := a) (fun j h3 h4 => hlo j (by omega) (by omega))]
  exact hI.2.1 r h1 h2
theorem Inv.calm {a : Int → Int} (hI : Inv a) {r h : Int} (hr : 0 ≤ r ∧ r < 16) (h0 : 0 ≤ h) (ht : a (25344 + r) + a (25360 + r) + h ≤ 9999) : Inv (upz a (25360 + r) (a (25360 + r) + h)) := by
  refine ⟨fun j => ?_, fun r' h1 h2 => ?_, ?_, fun j h1 h2 => ?_⟩
  · have h1 := hI.1 j
    have h2 := hI.1 (25360 + r)
    unfold upz
    split <;> omega
  · rw [sz_upz_out _ (by omega), upz_ne _ _ _ (show (25344 + r' : Int) ≠ 25360 + r by omega)]
    have h3 := hI.2.1 r' h1 h2
    by_cases hr' : r' = r
    · subst hr'
      rw [upz_eq]; omega
    · rw [upz_ne _ _ _ (by omega)]; exact h3
  · rw [upz_ne _ _ _ (by omega), upz_ne _ _ _ (by omega), upz_ne _ _ _ (by omega)]
    exact hI.2.2.1
  · rw [upz_ne _ _ _ (by omega)]
    exact hI.2.2.2 j h1 h2
theorem Inv.ent {a : Int → Int} (hI : Inv a) {r d v h : Int} (hr : 0 ≤ r ∧ r < 16) (hd : d = -1 ∨ (0 ≤ d ∧ d < 16 ∧ 1 ≤ v ∧ v ≤ 99)) (h0 : 0 ≤ h) (ht : a (25344 + r) + a (25360 + r) + h ≤ 9999) : Inv (entA a r d v h) ∧ ∀ r', 0 ≤ r' → r' < 16 → entA a r d v h (25344 + r') + entA a r d v h (25360 + r') = a (25344 + r') + a (25360 + r') + (if r = r' then h else 0) := by
  unfold entA
  by_cases hc : d = -1
  · rw [if_pos hc]
    refine ⟨hI.calm hr h0 ht, fun r' h1 h2 => ?_⟩
    rw [upz_ne _ _ _ (show (25344 + r' : Int) ≠ 25360 + r by omega)]
    by_cases hr' : r = r'
    · subst hr'
      rw [upz_eq, if_pos rfl]; omega
    · rw [upz_ne _ _ _ (by omega), if_neg hr']; omega
  · rw [if_neg hc]
    have hd2 : 0 ≤ d ∧ d < 16 ∧ 1 ≤ v ∧ v ≤ 99 := by omega
    have hc0 := hI.1 (r * 1584 + d * 99 + v - 1)
    refine ⟨hI.aW hr ⟨hd2.1, hd2.2.1⟩ hd2.2.2 (by omega) ht, fun r' h1 h2 => ?_⟩
    have hA := addW_w (a := a) (h := h) hr ⟨hd2.1, hd2.2.1⟩ hd2.2.2
    by_cases hr' : r = r'
    · subst hr'
      rw [hA.1, hA.2, if_pos rfl]; omega
    · rw [if_neg hr']
      unfold addW
      rw [upz_ne _ _ _ (by omega), upz_ne _ _ _ (by omega), upz_ne _ _ _ (by omega), upz_ne _ _ _ (by omega)]
      omega
theorem foA_inv {a t : Int → Int} {n : Int} {K : Nat} (hI : Inv a) (hent : ∀ k : Nat, k ≤ K → (0 ≤ rov t n (plz t n k) ∧ rov t n (plz t n k) < 16) ∧ (1 ≤ hov t n (plz t n k) ∧ hov t n (plz t n k) ≤ 99) ∧ (wdv t n (plz t n k + 4) = -1 ∨ (0 ≤ wdv t n (plz t n k + 4) ∧ wdv t n (plz t n k + 4) < 16 ∧ 1 ≤ wsv t n (plz t n k + 4) ∧ wsv t n (plz t n k + 4) ≤ 99)))
    (hful : ∀ r, 0 ≤ r → r < 16 → a (25344 + r) + a (25360 + r) + tsz t n K r ≤ 9999) : ∀ k : Nat, k ≤ K + 1 → Inv (foA t n a k) ∧ ∀ r, 0 ≤ r → r < 16 → foA t n a k (25344 + r) + foA t n a k (25360 + r) = a (25344 + r) + a (25360 + r) + sz (fun j => if rov t n (plz t n j.toNat) = r then hov t n (plz t n j.toNat) else 0) 0 k
  | 0, _ => ⟨hI, fun r _ _ => by rw [show ((0 : Nat) : Int) = 0 from rfl, sz_self, Int.add_zero]; rfl⟩
  | k + 1, hk => by
    have ih := foA_inv hI hent hful k (by omega)
    have hk2 := hent k (by omega)
    have hs : ∀ r, sz (fun j => if rov t n (plz t n j.toNat) = r then hov t n (plz t n j.toNat) else 0) 0 ((k + 1 : Nat) : Int) = sz (fun j => if rov t n (plz t n j.toNat) = r then hov t n (plz t n j.toNat) else 0) 0 k + (if rov t n (plz t n k) = r then hov t n (plz t n k) else 0) := by
      intro r
      rw [show ((k + 1 : Nat) : Int) = (k : Int) + 1 by omega, sz_succ _ (by omega)]
      rfl
    have hm : sz (fun j => if rov t n (plz t n j.toNat) = rov t n (plz t n k) then hov t n (plz t n j.toNat) else 0) 0 ((k + 1 : Nat) : Int) ≤ tsz t n K (rov t n (plz t n k)) := sz_mono (fun j h1 h2 => by
      have := hent j.toNat (by omega)
      split <;> omega) (Int.le_refl 0) (by omega) (by omega)
    rw [hs, if_pos rfl] at hm
    have h1 := hful _ hk2.1.1 hk2.1.2
    have h2 := ih.2 _ hk2.1.1 hk2.1.2
    have h3 := ih.1.ent (v := wsv t n (plz t n k + 4)) (h := hov t n (plz t n k)) hk2.1 hk2.2.2 (by omega) (by omega)
    refine ⟨h3.1, fun r h4 h5 => ?_⟩
    rw [hs, show foA t n a (k + 1) = entA (foA t n a k) (rov t n (plz t n k)) (wdv t n (plz t n k + 4)) (wsv t n (plz t n k + 4)) (hov t n (plz t n k)) from rfl, h3.2 r h4 h5, ih.2 r h4 h5]
    omega
/-! the model's reading of the text -/
theorem nez_b {t : Int → Int} {n p lo hi B : Int} (h : -B ≤ p ∧ p ≤ B) : -(B + 1) ≤ nez t n p lo hi ∧ nez t n p lo hi ≤ B + 2 := by
  unfold nez
  split
  · omega
  · split
    · omega
    · split <;> omega
theorem bez_b {t : Int → Int} {n p c B : Int} (h : -B ≤ p ∧ p ≤ B) : -(B + 1) ≤ bez t n p c ∧ bez t n p c ≤ B + 1 := by
  unfold bez
  split
  · omega
  · split <;> omega
theorem wez_b {t : Int → Int} {n p B : Int} (h : -B ≤ p ∧ p ≤ B) : -(B + 9) ≤ wez t n p ∧ wez t n p ≤ B + 9 := by
  have h1 := nez_b (t := t) (n := n) (lo := 0) (hi := 15) h
  have h2 := bez_b (t := t) (n := n) (c := 64) (p := nez t n p 0 15) (B := B + 2) (by omega)
  have h3 := nez_b (t := t) (n := n) (lo := 1) (hi := 99) (p := bez t n (nez t n p 0 15) 64) (B := B + 3) (by omega)
  unfold wez
  split
  · omega
  · split
    · omega
    · omega
def nin (t : Int → Int) (n p e : Int) : Int := if e = p + 1 then dgz t n p else 10 * dgz t n p + dgz t n (p + 1)
def fltz (t : Int → Int) (n : Int) (K : Nat) : Int := if iez t n (plz t n K) < 0 then -1 - iez t n (plz t n K) else if iez t n (plz t n K) = n then -5 else iez t n (plz t n K)
theorem hov_in {t : Int → Int} {n p : Int} (hp : 0 ≤ p) (hn : p ≤ n) (h : 0 ≤ iez t n p) : hov t n p = if sgz t n (wez t n (p + 4)) = 42 then nin t n (wez t n (p + 4) + 1) (iez t n p) else 1 := by
  have h1 := iez_rng t n hp hn
  have h2 : 0 ≤ wez t n (p + 4) ∧ iez t n p = hoz t n (wez t n (p + 4)) := by omega
  unfold hov hvz
  by_cases hs : sgz t n (wez t n (p + 4)) = 42
  · rw [if_pos hs, if_pos hs]
    have e : hoz t n (wez t n (p + 4)) = nez t n (wez t n (p + 4) + 1) 1 99 := if_pos ⟨h2.1, hs⟩
    unfold nvz nin
    rw [h2.2, e, if_pos (by omega)]
  · rw [if_neg hs, if_neg hs]
theorem nvz_in {t : Int → Int} {n p lo hi : Int} (h : 0 ≤ nez t n p lo hi) : nvz t n p lo hi = nin t n p (nez t n p lo hi) := if_pos h

abbrev YX7_sign (l : Launch) (G : Gx) : Sx := (cX7_sign, 2, RX7, wsX7_sign, rmD 0, l, G)
theorem ydX7_sign : ydOk yX7_sign 1 := by decide +kernel
theorem inX7_sign_X7 : ∀ w ∈ wsX70, w ∈ wsX7_sign := fun _ h => List.mem_cons_of_mem _ (List.mem_append_right _ h)
set_option maxHeartbeats 1000000 in
set_option maxRecDepth 20000 in
theorem c_X7_sign (l : Launch) (G : Gx) (hm ms mp mq mt mpa msh mo mtu : Nat) (t : Int → Int) (kn kp n p : Int) (hn : 0 ≤ n ∧ n ≤ 80) (ht : ∀ j, 0 ≤ t j ∧ t j < 65536) (hp : 0 ≤ p ∧ p ≤ 1000) : Ct l G yX7_sign wsX7_sign (rmD 0) [.ref hm, .int (zI p)] [(hm, .inr (7, [.ref ms, .ref mp, .int (zI kn), .ref mq, .int (zI kp), .ref mt, .int (zI n), .ref mpa, .ref msh, .ref mo, .ref mtu])), (mt, aI G 80 t)] (Fn (some (.int (zI (sgz t n p)))) [(hm, .inr (7, [.ref ms, .ref mp, .int (zI kn), .ref mq, .int (zI kp), .ref mt, .int (zI n), .ref mpa, .ref msh, .ref mo, .ref mtu])), (mt, aI G 80 t)]) := by
  refine Ct.intro (cc := cX7_sign) (maxL := 2) (ret := (some .int)) (lo0 := [some (.ref hm), some (.int (zI p))]) (by decide +kernel) rfl ⟨rfl, rfl⟩ (Nat.le_of_ble_eq_true rfl) rfl ?_
  intro X F T
  change Fx X (YX7_sign l G) at F
  change V X (YX7_sign l G) 0 0 0 _ _ _
  have hg : sgz t n p = if p < n then t p else -1 := rfl
  have htp := ht p
  refine V.iload_n (q := 1) F dX7_sign_0 rfl rfl rfl ?_
  refine V.aload_n (q := 2) F dX7_sign_1 rfl rfl rfl ?_
  refine V.get (q := 5) F 0 6 dX7_sign_2 rfl rfl rfl inX7_sign_X7 (by decide) (List.mem_of_getElem? (i := 1) rfl) rfl ?_
  refine V.icmp_ge (q := 8) (tgt := 17) F dX7_sign_5 rfl (by decide) (by omega) (fun k5 => ?_) (fun k5 => ?_)
  · refine V.iconst (q := 18) F dX7_sign_17 rfl ?_
    exact V.iret F T dX7_sign_18 (fnI (by omega) rfl) [hm, mt] rfl rfl
  · refine V.aload_n (q := 9) F dX7_sign_8 rfl rfl rfl ?_
    refine V.get (q := 12) F 0 5 dX7_sign_9 rfl rfl rfl inX7_sign_X7 (by decide) (List.mem_of_getElem? (i := 2) rfl) rfl ?_
    refine V.iload_n (q := 13) F dX7_sign_12 rfl rfl rfl ?_
    refine V.iald (q := 14) F 1 dX7_sign_13 rfl rfl (by decide) (by omega) ?_
    refine V.goto (tgt := 18) F dX7_sign_14 (by decide) ?_
    exact V.iret F T dX7_sign_18 (fnI (by omega) rfl) [hm, mt] rfl rfl

abbrev YX7_digit (l : Launch) (G : Gx) : Sx := (cX7_digit, 2, RX7, wsX7_digit, rmD 1, l, G)
theorem ydX7_digit : ydOk yX7_digit 1 := by decide +kernel
set_option maxHeartbeats 1000000 in
set_option maxRecDepth 20000 in
theorem c_X7_digit (l : Launch) (G : Gx) (hm ms mp mq mt mpa msh mo mtu : Nat) (t : Int → Int) (kn kp n p : Int) (hn : 0 ≤ n ∧ n ≤ 80) (ht : ∀ j, 0 ≤ t j ∧ t j < 65536) (hp : 0 ≤ p ∧ p ≤ 1000) : Ct l G yX7_digit wsX7_digit (rmD 1) [.ref hm, .int (zI p)] [(hm, .inr (7, [.ref ms, .ref mp, .int (zI kn), .ref mq, .int (zI kp), .ref mt, .int (zI n), .ref mpa, .ref msh, .ref mo, .ref mtu])), (mt, aI G 80 t)] (Fn (some (.int (zI (dgz t n p)))) [(hm, .inr (7, [.ref ms, .ref mp, .int (zI kn), .ref mq, .int (zI kp), .ref mt, .int (zI n), .ref mpa, .ref msh, .ref mo, .ref mtu])), (mt, aI G 80 t)]) := by
  refine Ct.intro (cc := cX7_digit) (maxL := 2) (ret := (some .int)) (lo0 := [some (.ref hm), some (.int (zI p))]) (by decide +kernel) rfl ⟨rfl, rfl⟩ (Nat.le_of_ble_eq_true rfl) rfl ?_
  intro X F T
  change Fx X (YX7_digit l G) at F
  change V X (YX7_digit l G) 0 0 0 _ _ _
  have hg : sgz t n p = if p < n then t p else -1 := rfl
  have htp := ht p
  have hd : dgz t n p = if 48 ≤ sgz t n p ∧ sgz t n p ≤ 57 then sgz t n p - 48 else -1 := rfl
  refine V.aload_n (q := 1) F dX7_digit_0 rfl rfl rfl ?_
  refine V.iload_n (q := 2) F dX7_digit_1 rfl rfl rfl ?_
  refine V.callV (q := 5) F [0, 1] 0 dX7_digit_2 rfl (c_X7_sign l G hm ms mp mq mt mpa msh mo mtu _ _ _ _ _ (by omega) ht (by omega)) gX7_digit_X7_sign rfl rfl ydX7_sign ⟨Nat.le_of_ble_eq_true rfl, Nat.le_of_ble_eq_true rfl⟩ (ci := 7) rfl rfl rfl rfl (Nat.le_of_ble_eq_true rfl) rfl rfl ⟨Nat.zero_le _, Nat.zero_le _⟩ (kkf (st' := [_]) (ws' := [_, _]) rfl rfl ?_)
  refine V.bipush (q := 7) F dX7_digit_5 rfl (by decide) ?_
  refine V.bipush (q := 9) F dX7_digit_7 rfl (by decide) ?_
  refine V.callS (q := 12) F [] dX7_digit_9 rfl (c_X7_in l G  _ _ _ (by omega) (by omega) (by omega)) gX7_digit_X7_in rfl ydX7_in ⟨Nat.le_of_ble_eq_true rfl, Nat.le_of_ble_eq_true rfl⟩ rfl rfl (Nat.le_of_ble_eq_true rfl) rfl rfl ⟨Nat.zero_le _, Nat.zero_le _⟩ (kkf (st' := [_]) (ws' := [_, _]) rfl rfl ?_)
  refine V.if_eq (q := 15) (tgt := 26) F dX7_digit_12 rfl (by decide) (by omega) (fun k12 => ?_) (fun k12 => ?_)
  · refine V.iconst (q := 27) F dX7_digit_26 rfl ?_
    exact V.iret F T dX7_digit_27 (fnI (by omega) rfl) [hm, mt] rfl rfl
  · refine V.aload_n (q := 16) F dX7_digit_15 rfl rfl rfl ?_
    refine V.iload_n (q := 17) F dX7_digit_16 rfl rfl rfl ?_
    refine V.callV (q := 20) F [0, 1] 0 dX7_digit_17 rfl (c_X7_sign l G hm ms mp mq mt mpa msh mo mtu _ _ _ _ _ (by omega) ht (by omega)) gX7_digit_X7_sign rfl rfl ydX7_sign ⟨Nat.le_of_ble_eq_true rfl, Nat.le_of_ble_eq_true rfl⟩ (ci := 7) rfl rfl rfl rfl (Nat.le_of_ble_eq_true rfl) rfl rfl ⟨Nat.zero_le _, Nat.zero_le _⟩ (kkf (st' := [_]) (ws' := [_, _]) rfl rfl ?_)
    refine V.bipush (q := 22) F dX7_digit_20 rfl (by decide) ?_
    refine V.isub (q := 23) F dX7_digit_22 rfl ?_
    refine V.goto (tgt := 27) F dX7_digit_23 (by decide) ?_
    exact V.iret F T dX7_digit_27 (fnI (by omega) rfl) [hm, mt] rfl rfl

abbrev YX7_numberEnd (l : Launch) (G : Gx) : Sx := (cX7_numberEnd, 5, RX7, wsX7_numberEnd, rmD 2, l, G)
theorem ydX7_numberEnd : ydOk yX7_numberEnd 3 := by decide +kernel
set_option maxHeartbeats 1000000 in
set_option maxRecDepth 20000 in
theorem c_X7_numberEnd (l : Launch) (G : Gx) (hm ms mp mq mt mpa msh mo mtu : Nat) (t : Int → Int) (kn kp n p lo hi : Int) (hn : 0 ≤ n ∧ n ≤ 80) (ht : ∀ j, 0 ≤ t j ∧ t j < 65536) (hp : -900 ≤ p ∧ p ≤ 900) (hl : 0 ≤ lo ∧ lo ≤ 1 ∧ 1 ≤ hi ∧ hi ≤ 99) : Ct l G yX7_numberEnd wsX7_numberEnd (rmD 2) [.ref hm, .int (zI p), .int (zI lo), .int (zI hi)] [(hm, .inr (7, [.ref ms, .ref mp, .int (zI kn), .ref mq, .int (zI kp), .ref mt, .int (zI n), .ref mpa, .ref msh, .ref mo, .ref mtu])), (mt, aI G 80 t)] (Fn (some (.int (zI (nez t n p lo hi)))) [(hm, .inr (7, [.ref ms, .ref mp, .int (zI kn), .ref mq, .int (zI kp), .ref mt, .int (zI n), .ref mpa, .ref msh, .ref mo, .ref mtu])), (mt, aI G 80 t)]) := by
  refine Ct.intro (cc := cX7_numberEnd) (maxL := 5) (ret := (some .int)) (lo0 := [some (.ref hm), some (.int (zI p)), some (.int (zI lo)), some (.int (zI hi)), none]) (by decide +kernel) rfl ⟨rfl, rfl⟩ (Nat.le_of_ble_eq_true rfl) rfl ?_
  intro X F T
  change Fx X (YX7_numberEnd l G) at F
  change V X (YX7_numberEnd l G) 0 0 0 _ _ _
  have d1 := dgz_rng t n p
  have d2 := dgz_rng t n (p + 1)
  have e1 : nez t n p lo hi = if p < 0 then p else if (dgz t n p < lo ∧ dgz t n p < 1) ∨ hi < dgz t n p then -1 - p else if 0 < dgz t n p ∧ 0 ≤ dgz t n (p + 1) ∧ 10 * dgz t n p + dgz t n (p + 1) ≤ hi then p + 2 else p + 1 := rfl
  refine V.iload_n (q := 1) F dX7_numberEnd_0 rfl rfl rfl ?_
  refine V.if_ge (q := 4) (tgt := 6) F dX7_numberEnd_1 rfl (by decide) (by omega) (fun k1 => ?_) (fun k1 => ?_)
  · refine V.aload_n (q := 7) F dX7_numberEnd_6 rfl rfl rfl ?_
    refine V.iload_n (q := 8) F dX7_numberEnd_7 rfl rfl rfl ?_
    refine V.callV (q := 11) F [0, 1] 0 dX7_numberEnd_8 rfl (c_X7_digit l G hm ms mp mq mt mpa msh mo mtu _ _ _ _ _ (by omega) ht (by omega)) gX7_numberEnd_X7_digit rfl rfl ydX7_digit ⟨Nat.le_of_ble_eq_true rfl, Nat.le_of_ble_eq_true rfl⟩ (ci := 7) rfl rfl rfl rfl (Nat.le_of_ble_eq_true rfl) rfl rfl ⟨Nat.zero_le _, Nat.zero_le _⟩ (kkf (st' := [_]) (ws' := [_, _]) rfl rfl ?_)
    refine V.iload_n (q := 12) F dX7_numberEnd_11 rfl rfl rfl ?_
    refine V.icmp_ge (q := 15) (tgt := 24) F dX7_numberEnd_12 rfl (by decide) (by omega) (fun k12 => ?_) (fun k12 => ?_)
    · refine V.aload_n (q := 25) F dX7_numberEnd_24 rfl rfl rfl ?_
      refine V.iload_n (q := 26) F dX7_numberEnd_25 rfl rfl rfl ?_
      refine V.callV (q := 29) F [0, 1] 0 dX7_numberEnd_26 rfl (c_X7_digit l G hm ms mp mq mt mpa msh mo mtu _ _ _ _ _ (by omega) ht (by omega)) gX7_numberEnd_X7_digit rfl rfl ydX7_digit ⟨Nat.le_of_ble_eq_true rfl, Nat.le_of_ble_eq_true rfl⟩ (ci := 7) rfl rfl rfl rfl (Nat.le_of_ble_eq_true rfl) rfl rfl ⟨Nat.zero_le _, Nat.zero_le _⟩ (kkf (st' := [_]) (ws' := [_, _]) rfl rfl ?_)
      refine V.iload_n (q := 30) F dX7_numberEnd_29 rfl rfl rfl ?_
      refine V.icmp_le (q := 33) (tgt := 37) F dX7_numberEnd_30 rfl (by decide) (by omega) (fun k30 => ?_) (fun k30 => ?_)
      · have J80 : ∀ (x : Int) (hx : x = if 0 < dgz t n p ∧ 0 ≤ dgz t n (p + 1) ∧ 10 * dgz t n p + dgz t n (p + 1) ≤ hi then 1 else 0), V X (YX7_numberEnd l G) 0 0 80 [some (.ref hm), some (.int (zI p)), some (.int (zI lo)), some (.int (zI hi)), none] [.int (zI x)] [(hm, .inr (7, [.ref ms, .ref mp, .int (zI kn), .ref mq, .int (zI kp), .ref mt, .int (zI n), .ref mpa, .ref msh, .ref mo, .ref mtu])), (mt, aI G 80 t)] := by
          intro x hx
          refine V.istore (q := 82) (lo' := [_, _, _, _, _]) F dX7_numberEnd_80 rfl (Nat.le_of_ble_eq_true rfl) rfl rfl ?_
          refine V.iload (q := 84) F dX7_numberEnd_82 rfl rfl ?_
          refine V.if_eq (q := 87) (tgt := 93) F dX7_numberEnd_84 rfl (by decide) (by omega) (fun k84 => ?_) (fun k84 => ?_)
          · refine V.iload_n (q := 94) F dX7_numberEnd_93 rfl rfl rfl ?_
            refine V.iconst (q := 95) F dX7_numberEnd_94 rfl ?_
            refine V.iadd (q := 96) F dX7_numberEnd_95 rfl ?_
            exact V.iret F T dX7_numberEnd_96 (fnI (by omega) rfl) [hm, mt] rfl rfl
          · refine V.iload_n (q := 88) F dX7_numberEnd_87 rfl rfl rfl ?_
            refine V.iconst (q := 89) F dX7_numberEnd_88 rfl ?_
            refine V.iadd (q := 90) F dX7_numberEnd_89 rfl ?_
            refine V.goto (tgt := 96) F dX7_numberEnd_90 (by decide) ?_
            exact V.iret F T dX7_numberEnd_96 (fnI (by omega) rfl) [hm, mt] rfl rfl
        refine V.aload_n (q := 38) F dX7_numberEnd_37 rfl rfl rfl ?_
        refine V.iload_n (q := 39) F dX7_numberEnd_38 rfl rfl rfl ?_
        refine V.callV (q := 42) F [0, 1] 0 dX7_numberEnd_39 rfl (c_X7_digit l G hm ms mp mq mt mpa msh mo mtu _ _ _ _ _ (by omega) ht (by omega)) gX7_numberEnd_X7_digit rfl rfl ydX7_digit ⟨Nat.le_of_ble_eq_true rfl, Nat.le_of_ble_eq_true rfl⟩ (ci := 7) rfl rfl rfl rfl (Nat.le_of_ble_eq_true rfl) rfl rfl ⟨Nat.zero_le _, Nat.zero_le _⟩ (kkf (st' := [_]) (ws' := [_, _]) rfl rfl ?_)
        refine V.if_le (q := 45) (tgt := 79) F dX7_numberEnd_42 rfl (by decide) (by omega) (fun k42 => ?_) (fun k42 => ?_)
        · refine V.iconst (q := 80) F dX7_numberEnd_79 rfl ?_
          exact J80 _ (by omega)
        · refine V.aload_n (q := 46) F dX7_numberEnd_45 rfl rfl rfl ?_
          refine V.iload_n (q := 47) F dX7_numberEnd_46 rfl rfl rfl ?_
          refine V.iconst (q := 48) F dX7_numberEnd_47 rfl ?_
          refine V.iadd (q := 49) F dX7_numberEnd_48 rfl ?_
          refine V.callV (q := 52) F [0, 1] 0 dX7_numberEnd_49 rfl (c_X7_digit l G hm ms mp mq mt mpa msh mo mtu _ _ _ _ _ (by omega) ht (by omega)) gX7_numberEnd_X7_digit rfl rfl ydX7_digit ⟨Nat.le_of_ble_eq_true rfl, Nat.le_of_ble_eq_true rfl⟩ (ci := 7) rfl rfl rfl rfl (Nat.le_of_ble_eq_true rfl) rfl rfl ⟨Nat.zero_le _, Nat.zero_le _⟩ (kkf (st' := [_]) (ws' := [_, _]) rfl rfl ?_)
          refine V.if_lt (q := 55) (tgt := 79) F dX7_numberEnd_52 rfl (by decide) (by omega) (fun k52 => ?_) (fun k52 => ?_)
          · refine V.iconst (q := 80) F dX7_numberEnd_79 rfl ?_
            exact J80 _ (by omega)
          · refine V.bipush (q := 57) F dX7_numberEnd_55 rfl (by decide) ?_
            refine V.aload_n (q := 58) F dX7_numberEnd_57 rfl rfl rfl ?_
            refine V.iload_n (q := 59) F dX7_numberEnd_58 rfl rfl rfl ?_
            refine V.callV (q := 62) F [0, 1] 0 dX7_numberEnd_59 rfl (c_X7_digit l G hm ms mp mq mt mpa msh mo mtu _ _ _ _ _ (by omega) ht (by omega)) gX7_numberEnd_X7_digit rfl rfl ydX7_digit ⟨Nat.le_of_ble_eq_true rfl, Nat.le_of_ble_eq_true rfl⟩ (ci := 7) rfl rfl rfl rfl (Nat.le_of_ble_eq_true rfl) rfl rfl ⟨Nat.zero_le _, Nat.zero_le _⟩ (kkf (st' := [_, _]) (ws' := [_, _]) rfl rfl ?_)
            refine V.imul (q := 63) F dX7_numberEnd_62 rfl ?_
            refine V.aload_n (q := 64) F dX7_numberEnd_63 rfl rfl rfl ?_
            refine V.iload_n (q := 65) F dX7_numberEnd_64 rfl rfl rfl ?_
            refine V.iconst (q := 66) F dX7_numberEnd_65 rfl ?_
            refine V.iadd (q := 67) F dX7_numberEnd_66 rfl ?_
            refine V.callV (q := 70) F [0, 1] 0 dX7_numberEnd_67 rfl (c_X7_digit l G hm ms mp mq mt mpa msh mo mtu _ _ _ _ _ (by omega) ht (by omega)) gX7_numberEnd_X7_digit rfl rfl ydX7_digit ⟨Nat.le_of_ble_eq_true rfl, Nat.le_of_ble_eq_true rfl⟩ (ci := 7) rfl rfl rfl rfl (Nat.le_of_ble_eq_true rfl) rfl rfl ⟨Nat.zero_le _, Nat.zero_le _⟩ (kkf (st' := [_, _]) (ws' := [_, _]) rfl rfl ?_)
            refine V.iadd (q := 71) F dX7_numberEnd_70 rfl ?_
            refine V.iload_n (q := 72) F dX7_numberEnd_71 rfl rfl rfl ?_
            refine V.icmp_gt (q := 75) (tgt := 79) F dX7_numberEnd_72 rfl (by decide) (by omega) (fun k72 => ?_) (fun k72 => ?_)
            · refine V.iconst (q := 80) F dX7_numberEnd_79 rfl ?_
              exact J80 _ (by omega)
            · refine V.iconst (q := 76) F dX7_numberEnd_75 rfl ?_
              refine V.goto (tgt := 80) F dX7_numberEnd_76 (by decide) ?_
              exact J80 _ (by omega)
      · refine V.iconst (q := 34) F dX7_numberEnd_33 rfl ?_
        refine V.iload_n (q := 35) F dX7_numberEnd_34 rfl rfl rfl ?_
        refine V.isub (q := 36) F dX7_numberEnd_35 rfl ?_
        exact V.iret F T dX7_numberEnd_36 (fnI (by omega) rfl) [hm, mt] rfl rfl
    · refine V.aload_n (q := 16) F dX7_numberEnd_15 rfl rfl rfl ?_
      refine V.iload_n (q := 17) F dX7_numberEnd_16 rfl rfl rfl ?_
      refine V.callV (q := 20) F [0, 1] 0 dX7_numberEnd_17 rfl (c_X7_digit l G hm ms mp mq mt mpa msh mo mtu _ _ _ _ _ (by omega) ht (by omega)) gX7_numberEnd_X7_digit rfl rfl ydX7_digit ⟨Nat.le_of_ble_eq_true rfl, Nat.le_of_ble_eq_true rfl⟩ (ci := 7) rfl rfl rfl rfl (Nat.le_of_ble_eq_true rfl) rfl rfl ⟨Nat.zero_le _, Nat.zero_le _⟩ (kkf (st' := [_]) (ws' := [_, _]) rfl rfl ?_)
      refine V.iconst (q := 21) F dX7_numberEnd_20 rfl ?_
      refine V.icmp_lt (q := 24) (tgt := 33) F dX7_numberEnd_21 rfl (by decide) (by omega) (fun k21 => ?_) (fun k21 => ?_)
      · refine V.iconst (q := 34) F dX7_numberEnd_33 rfl ?_
        refine V.iload_n (q := 35) F dX7_numberEnd_34 rfl rfl rfl ?_
        refine V.isub (q := 36) F dX7_numberEnd_35 rfl ?_
        exact V.iret F T dX7_numberEnd_36 (fnI (by omega) rfl) [hm, mt] rfl rfl
      · refine V.aload_n (q := 25) F dX7_numberEnd_24 rfl rfl rfl ?_
        refine V.iload_n (q := 26) F dX7_numberEnd_25 rfl rfl rfl ?_
        refine V.callV (q := 29) F [0, 1] 0 dX7_numberEnd_26 rfl (c_X7_digit l G hm ms mp mq mt mpa msh mo mtu _ _ _ _ _ (by omega) ht (by omega)) gX7_numberEnd_X7_digit rfl rfl ydX7_digit ⟨Nat.le_of_ble_eq_true rfl, Nat.le_of_ble_eq_true rfl⟩ (ci := 7) rfl rfl rfl rfl (Nat.le_of_ble_eq_true rfl) rfl rfl ⟨Nat.zero_le _, Nat.zero_le _⟩ (kkf (st' := [_]) (ws' := [_, _]) rfl rfl ?_)
        refine V.iload_n (q := 30) F dX7_numberEnd_29 rfl rfl rfl ?_
        refine V.icmp_le (q := 33) (tgt := 37) F dX7_numberEnd_30 rfl (by decide) (by omega) (fun k30 => ?_) (fun k30 => ?_)
        · have J80 : ∀ (x : Int) (hx : x = if 0 < dgz t n p ∧ 0 ≤ dgz t n (p + 1) ∧ 10 * dgz t n p + dgz t n (p + 1) ≤ hi then 1 else 0), V X (YX7_numberEnd l G) 0 0 80 [some (.ref hm), some (.int (zI p)), some (.int (zI lo)), some (.int (zI hi)), none] [.int (zI x)] [(hm, .inr (7, [.ref ms, .ref mp, .int (zI kn), .ref mq, .int (zI kp), .ref mt, .int (zI n), .ref mpa, .ref msh, .ref mo, .ref mtu])), (mt, aI G 80 t)] := by
            intro x hx
            refine V.istore (q := 82) (lo' := [_, _, _, _, _]) F dX7_numberEnd_80 rfl (Nat.le_of_ble_eq_true rfl) rfl rfl ?_
            refine V.iload (q := 84) F dX7_numberEnd_82 rfl rfl ?_
            refine V.if_eq (q := 87) (tgt := 93) F dX7_numberEnd_84 rfl (by decide) (by omega) (fun k84 => ?_) (fun k84 => ?_)
            · refine V.iload_n (q := 94) F dX7_numberEnd_93 rfl rfl rfl ?_
              refine V.iconst (q := 95) F dX7_numberEnd_94 rfl ?_
              refine V.iadd (q := 96) F dX7_numberEnd_95 rfl ?_
              exact V.iret F T dX7_numberEnd_96 (fnI (by omega) rfl) [hm, mt] rfl rfl
            · refine V.iload_n (q := 88) F dX7_numberEnd_87 rfl rfl rfl ?_
              refine V.iconst (q := 89) F dX7_numberEnd_88 rfl ?_
              refine V.iadd (q := 90) F dX7_numberEnd_89 rfl ?_
              refine V.goto (tgt := 96) F dX7_numberEnd_90 (by decide) ?_
              exact V.iret F T dX7_numberEnd_96 (fnI (by omega) rfl) [hm, mt] rfl rfl
          refine V.aload_n (q := 38) F dX7_numberEnd_37 rfl rfl rfl ?_
          refine V.iload_n (q := 39) F dX7_numberEnd_38 rfl rfl rfl ?_
          refine V.callV (q := 42) F [0, 1] 0 dX7_numberEnd_39 rfl (c_X7_digit l G hm ms mp mq mt mpa msh mo mtu _ _ _ _ _ (by omega) ht (by omega)) gX7_numberEnd_X7_digit rfl rfl ydX7_digit ⟨Nat.le_of_ble_eq_true rfl, Nat.le_of_ble_eq_true rfl⟩ (ci := 7) rfl rfl rfl rfl (Nat.le_of_ble_eq_true rfl) rfl rfl ⟨Nat.zero_le _, Nat.zero_le _⟩ (kkf (st' := [_]) (ws' := [_, _]) rfl rfl ?_)
          refine V.if_le (q := 45) (tgt := 79) F dX7_numberEnd_42 rfl (by decide) (by omega) (fun k42 => ?_) (fun k42 => ?_)
          · refine V.iconst (q := 80) F dX7_numberEnd_79 rfl ?_
            exact J80 _ (by omega)
          · refine V.aload_n (q := 46) F dX7_numberEnd_45 rfl rfl rfl ?_
            refine V.iload_n (q := 47) F dX7_numberEnd_46 rfl rfl rfl ?_
            refine V.iconst (q := 48) F dX7_numberEnd_47 rfl ?_
            refine V.iadd (q := 49) F dX7_numberEnd_48 rfl ?_
            refine V.callV (q := 52) F [0, 1] 0 dX7_numberEnd_49 rfl (c_X7_digit l G hm ms mp mq mt mpa msh mo mtu _ _ _ _ _ (by omega) ht (by omega)) gX7_numberEnd_X7_digit rfl rfl ydX7_digit ⟨Nat.le_of_ble_eq_true rfl, Nat.le_of_ble_eq_true rfl⟩ (ci := 7) rfl rfl rfl rfl (Nat.le_of_ble_eq_true rfl) rfl rfl ⟨Nat.zero_le _, Nat.zero_le _⟩ (kkf (st' := [_]) (ws' := [_, _]) rfl rfl ?_)
            refine V.if_lt (q := 55) (tgt := 79) F dX7_numberEnd_52 rfl (by decide) (by omega) (fun k52 => ?_) (fun k52 => ?_)
            · refine V.iconst (q := 80) F dX7_numberEnd_79 rfl ?_
              exact J80 _ (by omega)
            · refine V.bipush (q := 57) F dX7_numberEnd_55 rfl (by decide) ?_
              refine V.aload_n (q := 58) F dX7_numberEnd_57 rfl rfl rfl ?_
              refine V.iload_n (q := 59) F dX7_numberEnd_58 rfl rfl rfl ?_
              refine V.callV (q := 62) F [0, 1] 0 dX7_numberEnd_59 rfl (c_X7_digit l G hm ms mp mq mt mpa msh mo mtu _ _ _ _ _ (by omega) ht (by omega)) gX7_numberEnd_X7_digit rfl rfl ydX7_digit ⟨Nat.le_of_ble_eq_true rfl, Nat.le_of_ble_eq_true rfl⟩ (ci := 7) rfl rfl rfl rfl (Nat.le_of_ble_eq_true rfl) rfl rfl ⟨Nat.zero_le _, Nat.zero_le _⟩ (kkf (st' := [_, _]) (ws' := [_, _]) rfl rfl ?_)
              refine V.imul (q := 63) F dX7_numberEnd_62 rfl ?_
              refine V.aload_n (q := 64) F dX7_numberEnd_63 rfl rfl rfl ?_
              refine V.iload_n (q := 65) F dX7_numberEnd_64 rfl rfl rfl ?_
              refine V.iconst (q := 66) F dX7_numberEnd_65 rfl ?_
              refine V.iadd (q := 67) F dX7_numberEnd_66 rfl ?_
              refine V.callV (q := 70) F [0, 1] 0 dX7_numberEnd_67 rfl (c_X7_digit l G hm ms mp mq mt mpa msh mo mtu _ _ _ _ _ (by omega) ht (by omega)) gX7_numberEnd_X7_digit rfl rfl ydX7_digit ⟨Nat.le_of_ble_eq_true rfl, Nat.le_of_ble_eq_true rfl⟩ (ci := 7) rfl rfl rfl rfl (Nat.le_of_ble_eq_true rfl) rfl rfl ⟨Nat.zero_le _, Nat.zero_le _⟩ (kkf (st' := [_, _]) (ws' := [_, _]) rfl rfl ?_)
              refine V.iadd (q := 71) F dX7_numberEnd_70 rfl ?_
              refine V.iload_n (q := 72) F dX7_numberEnd_71 rfl rfl rfl ?_
              refine V.icmp_gt (q := 75) (tgt := 79) F dX7_numberEnd_72 rfl (by decide) (by omega) (fun k72 => ?_) (fun k72 => ?_)
              · refine V.iconst (q := 80) F dX7_numberEnd_79 rfl ?_
                exact J80 _ (by omega)
              · refine V.iconst (q := 76) F dX7_numberEnd_75 rfl ?_
                refine V.goto (tgt := 80) F dX7_numberEnd_76 (by decide) ?_
                exact J80 _ (by omega)
        · refine V.iconst (q := 34) F dX7_numberEnd_33 rfl ?_
          refine V.iload_n (q := 35) F dX7_numberEnd_34 rfl rfl rfl ?_
          refine V.isub (q := 36) F dX7_numberEnd_35 rfl ?_
          exact V.iret F T dX7_numberEnd_36 (fnI (by omega) rfl) [hm, mt] rfl rfl
  · refine V.iload_n (q := 5) F dX7_numberEnd_4 rfl rfl rfl ?_
    exact V.iret F T dX7_numberEnd_5 (fnI (by omega) rfl) [hm, mt] rfl rfl

abbrev YX7_numberIn (l : Launch) (G : Gx) : Sx := (cX7_numberIn, 3, RX7, wsX7_numberIn, rmD 2, l, G)
theorem ydX7_numberIn : ydOk yX7_numberIn 2 := by decide +kernel
set_option maxHeartbeats 1000000 in
set_option maxRecDepth 20000 in
theorem c_X7_numberIn (l : Launch) (G : Gx) (hm ms mp mq mt mpa msh mo mtu : Nat) (t : Int → Int) (kn kp n p e : Int) (hn : 0 ≤ n ∧ n ≤ 80) (ht : ∀ j, 0 ≤ t j ∧ t j < 65536) (hp : 0 ≤ p ∧ p ≤ 900) (he : -2147483648 ≤ e ∧ e < 2147483648) : Ct l G yX7_numberIn wsX7_numberIn (rmD 2) [.ref hm, .int (zI p), .int (zI e)] [(hm, .inr (7, [.ref ms, .ref mp, .int (zI kn), .ref mq, .int (zI kp), .ref mt, .int (zI n), .ref mpa, .ref msh, .ref mo, .ref mtu])), (mt, aI G 80 t)] (Fn (some (.int (zI (nin t n p e)))) [(hm, .inr (7, [.ref ms, .ref mp, .int (zI kn), .ref mq, .int (zI kp), .ref mt, .int (zI n), .ref mpa, .ref msh, .ref mo, .ref mtu])), (mt, aI G 80 t)]) := by
  refine Ct.intro (cc := cX7_numberIn) (maxL := 3) (ret := (some .int)) (lo0 := [some (.ref hm), some (.int (zI p)), some (.int (zI e))]) (by decide +kernel) rfl ⟨rfl, rfl⟩ (Nat.le_of_ble_eq_true rfl) rfl ?_
  intro X F T
  change Fx X (YX7_numberIn l G) at F
  change V X (YX7_numberIn l G) 0 0 0 _ _ _
  refine V.iload_n (q := 1) F dX7_numberIn_0 rfl rfl rfl ?_
  refine V.iload_n (q := 2) F dX7_numberIn_1 rfl rfl rfl ?_
  refine V.iconst (q := 3) F dX7_numberIn_2 rfl ?_
  refine V.iadd (q := 4) F dX7_numberIn_3 rfl ?_
  refine V.icmp_ne (q := 7) (tgt := 15) F dX7_numberIn_4 rfl (by decide) (by omega) (fun k4 => ?_) (fun k4 => ?_)
  · refine V.bipush (q := 17) F dX7_numberIn_15 rfl (by decide) ?_
    refine V.aload_n (q := 18) F dX7_numberIn_17 rfl rfl rfl ?_
    refine V.iload_n (q := 19) F dX7_numberIn_18 rfl rfl rfl ?_
    refine V.callV (q := 22) F [0, 1] 0 dX7_numberIn_19 rfl (c_X7_digit l G hm ms mp mq mt mpa msh mo mtu _ _ _ _ _ (by omega) ht (by omega)) gX7_numberIn_X7_digit rfl rfl ydX7_digit ⟨Nat.le_of_ble_eq_true rfl, Nat.le_of_ble_eq_true rfl⟩ (ci := 7) rfl rfl rfl rfl (Nat.le_of_ble_eq_true rfl) rfl rfl ⟨Nat.zero_le _, Nat.zero_le _⟩ (kkf (st' := [_, _]) (ws' := [_, _]) rfl rfl ?_)
    refine V.imul (q := 23) F dX7_numberIn_22 rfl ?_
    refine V.aload_n (q := 24) F dX7_numberIn_23 rfl rfl rfl ?_
    refine V.iload_n (q := 25) F dX7_numberIn_24 rfl rfl rfl ?_
    refine V.iconst (q := 26) F dX7_numberIn_25 rfl ?_
    refine V.iadd (q := 27) F dX7_numberIn_26 rfl ?_
    refine V.callV (q := 30) F [0, 1] 0 dX7_numberIn_27 rfl (c_X7_digit l G hm ms mp mq mt mpa msh mo mtu _ _ _ _ _ (by omega) ht (by omega)) gX7_numberIn_X7_digit rfl rfl ydX7_digit ⟨Nat.le_of_ble_eq_true rfl, Nat.le_of_ble_eq_true rfl⟩ (ci := 7) rfl rfl rfl rfl (Nat.le_of_ble_eq_true rfl) rfl rfl ⟨Nat.zero_le _, Nat.zero_le _⟩ (kkf (st' := [_, _]) (ws' := [_, _]) rfl rfl ?_)
    refine V.iadd (q := 31) F dX7_numberIn_30 rfl ?_
    exact V.iret F T dX7_numberIn_31 (fnI (by unfold nin; first | rw [if_pos (by omega)] | rw [if_neg (by omega)]) rfl) [hm, mt] rfl rfl
  · refine V.aload_n (q := 8) F dX7_numberIn_7 rfl rfl rfl ?_
    refine V.iload_n (q := 9) F dX7_numberIn_8 rfl rfl rfl ?_
    refine V.callV (q := 12) F [0, 1] 0 dX7_numberIn_9 rfl (c_X7_digit l G hm ms mp mq mt mpa msh mo mtu _ _ _ _ _ (by omega) ht (by omega)) gX7_numberIn_X7_digit rfl rfl ydX7_digit ⟨Nat.le_of_ble_eq_true rfl, Nat.le_of_ble_eq_true rfl⟩ (ci := 7) rfl rfl rfl rfl (Nat.le_of_ble_eq_true rfl) rfl rfl ⟨Nat.zero_le _, Nat.zero_le _⟩ (kkf (st' := [_]) (ws' := [_, _]) rfl rfl ?_)
    refine V.goto (tgt := 31) F dX7_numberIn_12 (by decide) ?_
    exact V.iret F T dX7_numberIn_31 (fnI (by unfold nin; first | rw [if_pos (by omega)] | rw [if_neg (by omega)]) rfl) [hm, mt] rfl rfl

abbrev YX7_behind (l : Launch) (G : Gx) : Sx := (cX7_behind, 3, RX7, wsX7_behind, rmD 1, l, G)
theorem ydX7_behind : ydOk yX7_behind 2 := by decide +kernel
set_option maxHeartbeats 1000000 in
set_option maxRecDepth 20000 in
theorem c_X7_behind (l : Launch) (G : Gx) (hm ms mp mq mt mpa msh mo mtu : Nat) (t : Int → Int) (kn kp n p c : Int) (hn : 0 ≤ n ∧ n ≤ 80) (ht : ∀ j, 0 ≤ t j ∧ t j < 65536) (hp : -950 ≤ p ∧ p ≤ 950) (hc : 0 ≤ c ∧ c < 65536) : Ct l G yX7_behind wsX7_behind (rmD 1) [.ref hm, .int (zI p), .int (zI c)] [(hm, .inr (7, [.ref ms, .ref mp, .int (zI kn), .ref mq, .int (zI kp), .ref mt, .int (zI n), .ref mpa, .ref msh, .ref mo, .ref mtu])), (mt, aI G 80 t)] (Fn (some (.int (zI (bez t n p c)))) [(hm, .inr (7, [.ref ms, .ref mp, .int (zI kn), .ref mq, .int (zI kp), .ref mt, .int (zI n), .ref mpa, .ref msh, .ref mo, .ref mtu])), (mt, aI G 80 t)]) := by
  refine Ct.intro (cc := cX7_behind) (maxL := 3) (ret := (some .int)) (lo0 := [some (.ref hm), some (.int (zI p)), some (.int (zI c))]) (by decide +kernel) rfl ⟨rfl, rfl⟩ (Nat.le_of_ble_eq_true rfl) rfl ?_
  intro X F T
  change Fx X (YX7_behind l G) at F
  change V X (YX7_behind l G) 0 0 0 _ _ _
  have e1 : bez t n p c = if p < 0 then p else if sgz t n p = c then p + 1 else -1 - p := rfl
  have hg : sgz t n p = if p < n then t p else -1 := rfl
  have htp := ht p
  refine V.iload_n (q := 1) F dX7_behind_0 rfl rfl rfl ?_
  refine V.if_ge (q := 4) (tgt := 8) F dX7_behind_1 rfl (by decide) (by omega) (fun k1 => ?_) (fun k1 => ?_)
  · refine V.aload_n (q := 9) F dX7_behind_8 rfl rfl rfl ?_
    refine V.iload_n (q := 10) F dX7_behind_9 rfl rfl rfl ?_
    refine V.callV (q := 13) F [0, 1] 0 dX7_behind_10 rfl (c_X7_sign l G hm ms mp mq mt mpa msh mo mtu _ _ _ _ _ (by omega) ht (by omega)) gX7_behind_X7_sign rfl rfl ydX7_sign ⟨Nat.le_of_ble_eq_true rfl, Nat.le_of_ble_eq_true rfl⟩ (ci := 7) rfl rfl rfl rfl (Nat.le_of_ble_eq_true rfl) rfl rfl ⟨Nat.zero_le _, Nat.zero_le _⟩ (kkf (st' := [_]) (ws' := [_, _]) rfl rfl ?_)
    refine V.iload_n (q := 14) F dX7_behind_13 rfl rfl rfl ?_
    refine V.icmp_ne (q := 17) (tgt := 23) F dX7_behind_14 rfl (by decide) (by omega) (fun k14 => ?_) (fun k14 => ?_)
    · refine V.iconst (q := 24) F dX7_behind_23 rfl ?_
      refine V.iload_n (q := 25) F dX7_behind_24 rfl rfl rfl ?_
      refine V.isub (q := 26) F dX7_behind_25 rfl ?_
      exact V.iret F T dX7_behind_26 (fnI (by omega) rfl) [hm, mt] rfl rfl
    · refine V.iload_n (q := 18) F dX7_behind_17 rfl rfl rfl ?_
      refine V.iconst (q := 19) F dX7_behind_18 rfl ?_
      refine V.iadd (q := 20) F dX7_behind_19 rfl ?_
      refine V.goto (tgt := 26) F dX7_behind_20 (by decide) ?_
      exact V.iret F T dX7_behind_26 (fnI (by omega) rfl) [hm, mt] rfl rfl
  · refine V.iload_n (q := 5) F dX7_behind_4 rfl rfl rfl ?_
    refine V.goto (tgt := 26) F dX7_behind_5 (by decide) ?_
    exact V.iret F T dX7_behind_26 (fnI (by omega) rfl) [hm, mt] rfl rfl

abbrev YX7_headEnd (l : Launch) (G : Gx) : Sx := (cX7_headEnd, 3, RX7, wsX7_headEnd, rmD 3, l, G)
theorem ydX7_headEnd : ydOk yX7_headEnd 1 := by decide +kernel
set_option maxHeartbeats 1000000 in
set_option maxRecDepth 20000 in
theorem c_X7_headEnd (l : Launch) (G : Gx) (hm ms mp mq mt mpa msh mo mtu : Nat) (t : Int → Int) (kn kp n p : Int) (hn : 0 ≤ n ∧ n ≤ 80) (ht : ∀ j, 0 ≤ t j ∧ t j < 65536) (hp : -500 ≤ p ∧ p ≤ 500) : Ct l G yX7_headEnd wsX7_headEnd (rmD 3) [.ref hm, .int (zI p)] [(hm, .inr (7, [.ref ms, .ref mp, .int (zI kn), .ref mq, .int (zI kp), .ref mt, .int (zI n), .ref mpa, .ref msh, .ref mo, .ref mtu])), (mt, aI G 80 t)] (Fn (some (.int (zI (hez t n p)))) [(hm, .inr (7, [.ref ms, .ref mp, .int (zI kn), .ref mq, .int (zI kp), .ref mt, .int (zI n), .ref mpa, .ref msh, .ref mo, .ref mtu])), (mt, aI G 80 t)]) := by
  refine Ct.intro (cc := cX7_headEnd) (maxL := 3) (ret := (some .int)) (lo0 := [some (.ref hm), some (.int (zI p)), none]) (by decide +kernel) rfl ⟨rfl, rfl⟩ (Nat.le_of_ble_eq_true rfl) rfl ?_
  intro X F T
  change Fx X (YX7_headEnd l G) at F
  change V X (YX7_headEnd l G) 0 0 0 _ _ _
  have b1 := nez_b (t := t) (n := n) (lo := 0) (hi := 3) (B := 500) hp
  have b2 := bez_b (t := t) (n := n) (c := 46) (p := nez t n p 0 3) (B := 502) (by omega)
  have b3 := nez_b (t := t) (n := n) (lo := 0) (hi := 3) (p := bez t n (nez t n p 0 3) 46) (B := 503) (by omega)
  refine V.aload_n (q := 1) F dX7_headEnd_0 rfl rfl rfl ?_
  refine V.aload_n (q := 2) F dX7_headEnd_1 rfl rfl rfl ?_
  refine V.iload_n (q := 3) F dX7_headEnd_2 rfl rfl rfl ?_
  refine V.iconst (q := 4) F dX7_headEnd_3 rfl ?_
  refine V.iconst (q := 5) F dX7_headEnd_4 rfl ?_
  refine V.callV (q := 8) F [0, 1] 0 dX7_headEnd_5 rfl (c_X7_numberEnd l G hm ms mp mq mt mpa msh mo mtu _ _ _ _ _ _ _ (by omega) ht (by omega) (by omega)) gX7_headEnd_X7_numberEnd rfl rfl ydX7_numberEnd ⟨Nat.le_of_ble_eq_true rfl, Nat.le_of_ble_eq_true rfl⟩ (ci := 7) rfl rfl rfl rfl (Nat.le_of_ble_eq_true rfl) rfl rfl ⟨Nat.zero_le _, Nat.zero_le _⟩ (kkf (st' := [_, _]) (ws' := [_, _]) rfl rfl ?_)
  refine V.bipush (q := 10) F dX7_headEnd_8 rfl (by decide) ?_
  refine V.callV (q := 13) F [0, 1] 0 dX7_headEnd_10 rfl (c_X7_behind l G hm ms mp mq mt mpa msh mo mtu _ _ _ _ _ _ (by omega) ht (by omega) (by omega)) gX7_headEnd_X7_behind rfl rfl ydX7_behind ⟨Nat.le_of_ble_eq_true rfl, Nat.le_of_ble_eq_true rfl⟩ (ci := 7) rfl rfl rfl rfl (Nat.le_of_ble_eq_true rfl) rfl rfl ⟨Nat.zero_le _, Nat.zero_le _⟩ (kkf (st' := [_]) (ws' := [_, _]) rfl rfl ?_)
  refine V.istore_n (q := 14) (lo' := [_, _, _]) F dX7_headEnd_13 rfl rfl (Nat.le_of_ble_eq_true rfl) rfl rfl ?_
  refine V.aload_n (q := 15) F dX7_headEnd_14 rfl rfl rfl ?_
  refine V.aload_n (q := 16) F dX7_headEnd_15 rfl rfl rfl ?_
  refine V.iload_n (q := 17) F dX7_headEnd_16 rfl rfl rfl ?_
  refine V.iconst (q := 18) F dX7_headEnd_17 rfl ?_
  refine V.iconst (q := 19) F dX7_headEnd_18 rfl ?_
  refine V.callV (q := 22) F [0, 1] 0 dX7_headEnd_19 rfl (c_X7_numberEnd l G hm ms mp mq mt mpa msh mo mtu _ _ _ _ _ _ _ (by omega) ht (by omega) (by omega)) gX7_headEnd_X7_numberEnd rfl rfl ydX7_numberEnd ⟨Nat.le_of_ble_eq_true rfl, Nat.le_of_ble_eq_true rfl⟩ (ci := 7) rfl rfl rfl rfl (Nat.le_of_ble_eq_true rfl) rfl rfl ⟨Nat.zero_le _, Nat.zero_le _⟩ (kkf (st' := [_, _]) (ws' := [_, _]) rfl rfl ?_)
  refine V.bipush (q := 24) F dX7_headEnd_22 rfl (by decide) ?_
  refine V.callV (q := 27) F [0, 1] 0 dX7_headEnd_24 rfl (c_X7_behind l G hm ms mp mq mt mpa msh mo mtu _ _ _ _ _ _ (by omega) ht (by omega) (by omega)) gX7_headEnd_X7_behind rfl rfl ydX7_behind ⟨Nat.le_of_ble_eq_true rfl, Nat.le_of_ble_eq_true rfl⟩ (ci := 7) rfl rfl rfl rfl (Nat.le_of_ble_eq_true rfl) rfl rfl ⟨Nat.zero_le _, Nat.zero_le _⟩ (kkf (st' := [_]) (ws' := [_, _]) rfl rfl ?_)
  exact V.iret F T dX7_headEnd_27 (fnI rfl rfl) [hm, mt] rfl rfl

abbrev YX7_windEnd (l : Launch) (G : Gx) : Sx := (cX7_windEnd, 2, RX7, wsX7_windEnd, rmD 3, l, G)
theorem ydX7_windEnd : ydOk yX7_windEnd 1 := by decide +kernel
set_option maxHeartbeats 1000000 in
set_option maxRecDepth 20000 in
theorem c_X7_windEnd (l : Launch) (G : Gx) (hm ms mp mq mt mpa msh mo mtu : Nat) (t : Int → Int) (kn kp n p : Int) (hn : 0 ≤ n ∧ n ≤ 80) (ht : ∀ j, 0 ≤ t j ∧ t j < 65536) (hp : -700 ≤ p ∧ p ≤ 700) : Ct l G yX7_windEnd wsX7_windEnd (rmD 3) [.ref hm, .int (zI p)] [(hm, .inr (7, [.ref ms, .ref mp, .int (zI kn), .ref mq, .int (zI kp), .ref mt, .int (zI n), .ref mpa, .ref msh, .ref mo, .ref mtu])), (mt, aI G 80 t)] (Fn (some (.int (zI (wez t n p)))) [(hm, .inr (7, [.ref ms, .ref mp, .int (zI kn), .ref mq, .int (zI kp), .ref mt, .int (zI n), .ref mpa, .ref msh, .ref mo, .ref mtu])), (mt, aI G 80 t)]) := by
  refine Ct.intro (cc := cX7_windEnd) (maxL := 2) (ret := (some .int)) (lo0 := [some (.ref hm), some (.int (zI p))]) (by decide +kernel) rfl ⟨rfl, rfl⟩ (Nat.le_of_ble_eq_true rfl) rfl ?_
  intro X F T
  change Fx X (YX7_windEnd l G) at F
  change V X (YX7_windEnd l G) 0 0 0 _ _ _
  have hg : sgz t n p = if p < n then t p else -1 := rfl
  have htp := ht p
  have e1 : wez t n p = if p < 0 then p else if sgz t n p = 99 then p + 1 else nez t n (bez t n (nez t n p 0 15) 64) 1 99 := rfl
  have b1 := nez_b (t := t) (n := n) (lo := 0) (hi := 15) (B := 700) hp
  have b2 := bez_b (t := t) (n := n) (c := 64) (p := nez t n p 0 15) (B := 702) (by omega)
  refine V.iload_n (q := 1) F dX7_windEnd_0 rfl rfl rfl ?_
  refine V.if_lt (q := 4) (tgt := 14) F dX7_windEnd_1 rfl (by decide) (by omega) (fun k1 => ?_) (fun k1 => ?_)
  · refine V.iload_n (q := 15) F dX7_windEnd_14 rfl rfl rfl ?_
    refine V.if_ge (q := 18) (tgt := 22) F dX7_windEnd_15 rfl (by decide) (by omega) (fun k15 => ?_) (fun k15 => ?_)
    · refine V.iload_n (q := 23) F dX7_windEnd_22 rfl rfl rfl ?_
      refine V.iconst (q := 24) F dX7_windEnd_23 rfl ?_
      refine V.iadd (q := 25) F dX7_windEnd_24 rfl ?_
      exact V.iret F T dX7_windEnd_25 (fnI (by omega) rfl) [hm, mt] rfl rfl
    · refine V.iload_n (q := 19) F dX7_windEnd_18 rfl rfl rfl ?_
      refine V.goto (tgt := 25) F dX7_windEnd_19 (by decide) ?_
      exact V.iret F T dX7_windEnd_25 (fnI (by omega) rfl) [hm, mt] rfl rfl
  · refine V.aload_n (q := 5) F dX7_windEnd_4 rfl rfl rfl ?_
    refine V.iload_n (q := 6) F dX7_windEnd_5 rfl rfl rfl ?_
    refine V.callV (q := 9) F [0, 1] 0 dX7_windEnd_6 rfl (c_X7_sign l G hm ms mp mq mt mpa msh mo mtu _ _ _ _ _ (by omega) ht (by omega)) gX7_windEnd_X7_sign rfl rfl ydX7_sign ⟨Nat.le_of_ble_eq_true rfl, Nat.le_of_ble_eq_true rfl⟩ (ci := 7) rfl rfl rfl rfl (Nat.le_of_ble_eq_true rfl) rfl rfl ⟨Nat.zero_le _, Nat.zero_le _⟩ (kkf (st' := [_]) (ws' := [_, _]) rfl rfl ?_)
    refine V.bipush (q := 11) F dX7_windEnd_9 rfl (by decide) ?_
    refine V.icmp_ne (q := 14) (tgt := 26) F dX7_windEnd_11 rfl (by decide) (by omega) (fun k11 => ?_) (fun k11 => ?_)
    · refine V.aload_n (q := 27) F dX7_windEnd_26 rfl rfl rfl ?_
      refine V.aload_n (q := 28) F dX7_windEnd_27 rfl rfl rfl ?_
      refine V.aload_n (q := 29) F dX7_windEnd_28 rfl rfl rfl ?_
      refine V.iload_n (q := 30) F dX7_windEnd_29 rfl rfl rfl ?_
      refine V.iconst (q := 31) F dX7_windEnd_30 rfl ?_
      refine V.bipush (q := 33) F dX7_windEnd_31 rfl (by decide) ?_
      refine V.callV (q := 36) F [0, 1] 0 dX7_windEnd_33 rfl (c_X7_numberEnd l G hm ms mp mq mt mpa msh mo mtu _ _ _ _ _ _ _ (by omega) ht (by omega) (by omega)) gX7_windEnd_X7_numberEnd rfl rfl ydX7_numberEnd ⟨Nat.le_of_ble_eq_true rfl, Nat.le_of_ble_eq_true rfl⟩ (ci := 7) rfl rfl rfl rfl (Nat.le_of_ble_eq_true rfl) rfl rfl ⟨Nat.zero_le _, Nat.zero_le _⟩ (kkf (st' := [_, _, _]) (ws' := [_, _]) rfl rfl ?_)
      refine V.bipush (q := 38) F dX7_windEnd_36 rfl (by decide) ?_
      refine V.callV (q := 41) F [0, 1] 0 dX7_windEnd_38 rfl (c_X7_behind l G hm ms mp mq mt mpa msh mo mtu _ _ _ _ _ _ (by omega) ht (by omega) (by omega)) gX7_windEnd_X7_behind rfl rfl ydX7_behind ⟨Nat.le_of_ble_eq_true rfl, Nat.le_of_ble_eq_true rfl⟩ (ci := 7) rfl rfl rfl rfl (Nat.le_of_ble_eq_true rfl) rfl rfl ⟨Nat.zero_le _, Nat.zero_le _⟩ (kkf (st' := [_, _]) (ws' := [_, _]) rfl rfl ?_)
      refine V.iconst (q := 42) F dX7_windEnd_41 rfl ?_
      refine V.bipush (q := 44) F dX7_windEnd_42 rfl (by decide) ?_
      refine V.callV (q := 47) F [0, 1] 0 dX7_windEnd_44 rfl (c_X7_numberEnd l G hm ms mp mq mt mpa msh mo mtu _ _ _ _ _ _ _ (by omega) ht (by omega) (by omega)) gX7_windEnd_X7_numberEnd rfl rfl ydX7_numberEnd ⟨Nat.le_of_ble_eq_true rfl, Nat.le_of_ble_eq_true rfl⟩ (ci := 7) rfl rfl rfl rfl (Nat.le_of_ble_eq_true rfl) rfl rfl ⟨Nat.zero_le _, Nat.zero_le _⟩ (kkf (st' := [_]) (ws' := [_, _]) rfl rfl ?_)
      exact V.iret F T dX7_windEnd_47 (fnI (by omega) rfl) [hm, mt] rfl rfl
    · refine V.iload_n (q := 15) F dX7_windEnd_14 rfl rfl rfl ?_
      refine V.if_ge (q := 18) (tgt := 22) F dX7_windEnd_15 rfl (by decide) (by omega) (fun k15 => ?_) (fun k15 => ?_)
      · refine V.iload_n (q := 23) F dX7_windEnd_22 rfl rfl rfl ?_
        refine V.iconst (q := 24) F dX7_windEnd_23 rfl ?_
        refine V.iadd (q := 25) F dX7_windEnd_24 rfl ?_
        exact V.iret F T dX7_windEnd_25 (fnI (by omega) rfl) [hm, mt] rfl rfl
      · refine V.iload_n (q := 19) F dX7_windEnd_18 rfl rfl rfl ?_
        refine V.goto (tgt := 25) F dX7_windEnd_19 (by decide) ?_
        exact V.iret F T dX7_windEnd_25 (fnI (by omega) rfl) [hm, mt] rfl rfl

abbrev YX7_itemEnd (l : Launch) (G : Gx) : Sx := (cX7_itemEnd, 3, RX7, wsX7_itemEnd, rmD 4, l, G)
theorem ydX7_itemEnd : ydOk yX7_itemEnd 1 := by decide +kernel
set_option maxHeartbeats 1000000 in
set_option maxRecDepth 20000 in
theorem c_X7_itemEnd (l : Launch) (G : Gx) (hm ms mp mq mt mpa msh mo mtu : Nat) (t : Int → Int) (kn kp n p : Int) (hn : 0 ≤ n ∧ n ≤ 80) (ht : ∀ j, 0 ≤ t j ∧ t j < 65536) (hp : -500 ≤ p ∧ p ≤ 500) : Ct l G yX7_itemEnd wsX7_itemEnd (rmD 4) [.ref hm, .int (zI p)] [(hm, .inr (7, [.ref ms, .ref mp, .int (zI kn), .ref mq, .int (zI kp), .ref mt, .int (zI n), .ref mpa, .ref msh, .ref mo, .ref mtu])), (mt, aI G 80 t)] (Fn (some (.int (zI (iez t n p)))) [(hm, .inr (7, [.ref ms, .ref mp, .int (zI kn), .ref mq, .int (zI kp), .ref mt, .int (zI n), .ref mpa, .ref msh, .ref mo, .ref mtu])), (mt, aI G 80 t)]) := by
  refine Ct.intro (cc := cX7_itemEnd) (maxL := 3) (ret := (some .int)) (lo0 := [some (.ref hm), some (.int (zI p)), none]) (by decide +kernel) rfl ⟨rfl, rfl⟩ (Nat.le_of_ble_eq_true rfl) rfl ?_
  intro X F T
  change Fx X (YX7_itemEnd l G) at F
  change V X (YX7_itemEnd l G) 0 0 0 _ _ _
  have b1 := nez_b (t := t) (n := n) (lo := 0) (hi := 3) (B := 500) hp
  have b2 := bez_b (t := t) (n := n) (c := 46) (p := nez t n p 0 3) (B := 502) (by omega)
  have b3 := nez_b (t := t) (n := n) (lo := 0) (hi := 3) (p := bez t n (nez t n p 0 3) 46) (B := 503) (by omega)
  have b4 := bez_b (t := t) (n := n) (c := 58) (p := nez t n (bez t n (nez t n p 0 3) 46) 0 3) (B := 505) (by omega)
  have b5 : -(506 + 1) ≤ hez t n p ∧ hez t n p ≤ 506 + 1 := ⟨by unfold hez; omega, by unfold hez; omega⟩
  have b6 := wez_b (t := t) (n := n) (p := hez t n p) (B := 507) (by omega)
  have e1 : iez t n p = if 0 ≤ wez t n (hez t n p) ∧ sgz t n (wez t n (hez t n p)) = 42 then nez t n (wez t n (hez t n p) + 1) 1 99 else wez t n (hez t n p) := rfl
  have hg : sgz t n (wez t n (hez t n p)) = if wez t n (hez t n p) < n then t (wez t n (hez t n p)) else -1 := rfl
  have htp := ht (wez t n (hez t n p))
  refine V.aload_n (q := 1) F dX7_itemEnd_0 rfl rfl rfl ?_
  refine V.aload_n (q := 2) F dX7_itemEnd_1 rfl rfl rfl ?_
  refine V.iload_n (q := 3) F dX7_itemEnd_2 rfl rfl rfl ?_
  refine V.callV (q := 6) F [0, 1] 0 dX7_itemEnd_3 rfl (c_X7_headEnd l G hm ms mp mq mt mpa msh mo mtu _ _ _ _ _ (by omega) ht (by omega)) gX7_itemEnd_X7_headEnd rfl rfl ydX7_headEnd ⟨Nat.le_of_ble_eq_true rfl, Nat.le_of_ble_eq_true rfl⟩ (ci := 7) rfl rfl rfl rfl (Nat.le_of_ble_eq_true rfl) rfl rfl ⟨Nat.zero_le _, Nat.zero_le _⟩ (kkf (st' := [_, _]) (ws' := [_, _]) rfl rfl ?_)
  refine V.callV (q := 9) F [0, 1] 0 dX7_itemEnd_6 rfl (c_X7_windEnd l G hm ms mp mq mt mpa msh mo mtu _ _ _ _ _ (by omega) ht (by omega)) gX7_itemEnd_X7_windEnd rfl rfl ydX7_windEnd ⟨Nat.le_of_ble_eq_true rfl, Nat.le_of_ble_eq_true rfl⟩ (ci := 7) rfl rfl rfl rfl (Nat.le_of_ble_eq_true rfl) rfl rfl ⟨Nat.zero_le _, Nat.zero_le _⟩ (kkf (st' := [_]) (ws' := [_, _]) rfl rfl ?_)
  refine V.istore_n (q := 10) (lo' := [_, _, _]) F dX7_itemEnd_9 rfl rfl (Nat.le_of_ble_eq_true rfl) rfl rfl ?_
  refine V.iload_n (q := 11) F dX7_itemEnd_10 rfl rfl rfl ?_
  refine V.if_lt (q := 14) (tgt := 37) F dX7_itemEnd_11 rfl (by decide) (by omega) (fun k11 => ?_) (fun k11 => ?_)
  · refine V.iload_n (q := 38) F dX7_itemEnd_37 rfl rfl rfl ?_
    exact V.iret F T dX7_itemEnd_38 (fnI (by omega) rfl) [hm, mt] rfl rfl
  · refine V.aload_n (q := 15) F dX7_itemEnd_14 rfl rfl rfl ?_
    refine V.iload_n (q := 16) F dX7_itemEnd_15 rfl rfl rfl ?_
    refine V.callV (q := 19) F [0, 1] 0 dX7_itemEnd_16 rfl (c_X7_sign l G hm ms mp mq mt mpa msh mo mtu _ _ _ _ _ (by omega) ht (by omega)) gX7_itemEnd_X7_sign rfl rfl ydX7_sign ⟨Nat.le_of_ble_eq_true rfl, Nat.le_of_ble_eq_true rfl⟩ (ci := 7) rfl rfl rfl rfl (Nat.le_of_ble_eq_true rfl) rfl rfl ⟨Nat.zero_le _, Nat.zero_le _⟩ (kkf (st' := [_]) (ws' := [_, _]) rfl rfl ?_)
    refine V.bipush (q := 21) F dX7_itemEnd_19 rfl (by decide) ?_
    refine V.icmp_ne (q := 24) (tgt := 37) F dX7_itemEnd_21 rfl (by decide) (by omega) (fun k21 => ?_) (fun k21 => ?_)
    · refine V.iload_n (q := 38) F dX7_itemEnd_37 rfl rfl rfl ?_
      exact V.iret F T dX7_itemEnd_38 (fnI (by omega) rfl) [hm, mt] rfl rfl
    · refine V.aload_n (q := 25) F dX7_itemEnd_24 rfl rfl rfl ?_
      refine V.iload_n (q := 26) F dX7_itemEnd_25 rfl rfl rfl ?_
      refine V.iconst (q := 27) F dX7_itemEnd_26 rfl ?_
      refine V.iadd (q := 28) F dX7_itemEnd_27 rfl ?_
      refine V.iconst (q := 29) F dX7_itemEnd_28 rfl ?_
      refine V.bipush (q := 31) F dX7_itemEnd_29 rfl (by decide) ?_
      refine V.callV (q := 34) F [0, 1] 0 dX7_itemEnd_31 rfl (c_X7_numberEnd l G hm ms mp mq mt mpa msh mo mtu _ _ _ _ _ _ _ (by omega) ht (by omega) (by omega)) gX7_itemEnd_X7_numberEnd rfl rfl ydX7_numberEnd ⟨Nat.le_of_ble_eq_true rfl, Nat.le_of_ble_eq_true rfl⟩ (ci := 7) rfl rfl rfl rfl (Nat.le_of_ble_eq_true rfl) rfl rfl ⟨Nat.zero_le _, Nat.zero_le _⟩ (kkf (st' := [_]) (ws' := [_, _]) rfl rfl ?_)
      refine V.goto (tgt := 38) F dX7_itemEnd_34 (by decide) ?_
      exact V.iret F T dX7_itemEnd_38 (fnI (by omega) rfl) [hm, mt] rfl rfl

theorem iez_b {t : Int → Int} {n p : Int} (hp : -100 ≤ p ∧ p ≤ 100) : -200 ≤ iez t n p ∧ iez t n p ≤ 200 := by
  have b1 := nez_b (t := t) (n := n) (lo := 0) (hi := 3) (B := 100) hp
  have b2 := bez_b (t := t) (n := n) (c := 46) (p := nez t n p 0 3) (B := 102) (by omega)
  have b3 := nez_b (t := t) (n := n) (lo := 0) (hi := 3) (p := bez t n (nez t n p 0 3) 46) (B := 103) (by omega)
  have b4 := bez_b (t := t) (n := n) (c := 58) (p := nez t n (bez t n (nez t n p 0 3) 46) 0 3) (B := 105) (by omega)
  have b5 : -(106 + 1) ≤ hez t n p ∧ hez t n p ≤ 106 + 1 := ⟨by unfold hez; omega, by unfold hez; omega⟩
  have b6 := wez_b (t := t) (n := n) (p := hez t n p) (B := 107) (by omega)
  have b7 := nez_b (t := t) (n := n) (lo := 1) (hi := 99) (p := wez t n (hez t n p) + 1) (B := 120) (by omega)
  have e1 : iez t n p = if 0 ≤ wez t n (hez t n p) ∧ sgz t n (wez t n (hez t n p)) = 42 then nez t n (wez t n (hez t n p) + 1) 1 99 else wez t n (hez t n p) := rfl
  omega

abbrev YX7_faultAt (l : Launch) (G : Gx) : Sx := (cX7_faultAt, 4, RX7, wsX7_faultAt, rmD 5, l, G)
theorem ydX7_faultAt : ydOk yX7_faultAt 0 := by decide +kernel
theorem inX7_faultAt_X7 : ∀ w ∈ wsX70, w ∈ wsX7_faultAt := fun _ h => List.mem_cons_of_mem _ (List.mem_append_right _ h)
set_option maxHeartbeats 1000000 in
set_option maxRecDepth 20000 in
theorem c_X7_faultAt (l : Launch) (G : Gx) (hm ms mp mq mt mpa msh mo mtu : Nat) (t : Int → Int) (kn kp n : Int) (K : Nat) (hn : 0 ≤ n ∧ n ≤ 80) (ht : ∀ j, 0 ≤ t j ∧ t j < 65536) (hK : Par t n K) (hK13 : K ≤ 13) : Ct l G yX7_faultAt wsX7_faultAt (rmD 5) [.ref hm] [(hm, .inr (7, [.ref ms, .ref mp, .int (zI kn), .ref mq, .int (zI kp), .ref mt, .int (zI n), .ref mpa, .ref msh, .ref mo, .ref mtu])), (mt, aI G 80 t)] (Fn (some (.int (zI (fltz t n K)))) [(hm, .inr (7, [.ref ms, .ref mp, .int (zI kn), .ref mq, .int (zI kp), .ref mt, .int (zI n), .ref mpa, .ref msh, .ref mo, .ref mtu])), (mt, aI G 80 t)]) := by
  refine Ct.intro (cc := cX7_faultAt) (maxL := 4) (ret := (some .int)) (lo0 := [some (.ref hm), none, none, none]) (by decide +kernel) rfl ⟨rfl, rfl⟩ (Nat.le_of_ble_eq_true rfl) rfl ?_
  intro X F T
  change Fx X (YX7_faultAt l G) at F
  change V X (YX7_faultAt l G) 0 0 0 _ _ _
  have hq := plz_rng hn.1 hK.1 K (Nat.le_refl K)
  have hKc : ¬ (0 ≤ iez t n (plz t n K) ∧ sgz t n (iez t n (plz t n K)) = 59) := hK.2
  have ef : fltz t n K = if iez t n (plz t n K) < 0 then -1 - iez t n (plz t n K) else if iez t n (plz t n K) = n then -5 else iez t n (plz t n K) := rfl
  have eP : ∀ x, posz x = if 0 ≤ x then x else -1 - x := fun x => rfl
  refine V.iconst (q := 1) F dX7_faultAt_0 rfl ?_
  refine V.istore_n (q := 2) (lo' := [_, _, _, _]) F dX7_faultAt_1 rfl rfl (Nat.le_of_ble_eq_true rfl) rfl rfl ?_
  refine V.iconst (q := 3) F dX7_faultAt_2 rfl ?_
  refine V.istore_n (q := 4) (lo' := [_, _, _, _]) F dX7_faultAt_3 rfl rfl (Nat.le_of_ble_eq_true rfl) rfl rfl ?_
  have L4 : ∀ (nq : Nat) (k Q : Int) (hk : 0 ≤ k ∧ k ≤ (K : Int)) (hQ : Q = plz t n k.toNat), ((K : Int) + 1 - k).toNat < nq → V X (YX7_faultAt l G) 0 0 4 [some (.ref hm), some (.int (zI Q)), some (.int (zI k)), none] [] [(hm, .inr (7, [.ref ms, .ref mp, .int (zI kn), .ref mq, .int (zI kp), .ref mt, .int (zI n), .ref mpa, .ref msh, .ref mo, .ref mtu])), (mt, aI G 80 t)] := by
    intro n4
    induction n4 with
    | zero => intro k Q hk hQ hm4; exact absurd hm4 (Nat.not_lt_zero _)
    | succ n4 ih4 =>
      intro k Q hk hQ hm4
      have hp := plz_rng hn.1 hK.1 k.toNat (by omega)
      rw [← hQ] at hp
      have hr := iez_rng t n hp.1 hp.2.1
      have hc9 : ¬ (0 ≤ iez t n Q ∧ sgz t n (iez t n Q) = 59) → plz t n K = Q := by
        intro h
        rcases Int.lt_or_le k (K : Int) with g | g
        · exfalso
          have hc := hK.1 k.toNat (by omega)
          rw [← hQ] at hc
          exact h hc
        · rw [hQ, show k.toNat = K by omega]
      have hc8 : k = (K : Int) → plz t n K = Q := fun h => by rw [hQ, show k.toNat = K by omega]
      have hgs : sgz t n (iez t n Q) = if iez t n Q < n then t (iez t n Q) else -1 := rfl
      have hts := ht (iez t n Q)
      have hir2 : -300 ≤ iez t n Q ∧ iez t n Q ≤ 80 := by
        have b := iez_b (t := t) (n := n) (p := Q) (by omega)
        omega
      refine V.iload_n (q := 5) F dX7_faultAt_4 rfl rfl rfl ?_
      refine V.bipush (q := 7) F dX7_faultAt_5 rfl (by decide) ?_
      refine V.icmp_ge (q := 10) (tgt := 57) F dX7_faultAt_7 rfl (by decide) (by omega) (fun k7 => by exfalso; omega) (fun k7 => ?_)
      refine V.aload_n (q := 11) F dX7_faultAt_10 rfl rfl rfl ?_
      refine V.iload_n (q := 12) F dX7_faultAt_11 rfl rfl rfl ?_
      refine V.callV (q := 15) F [0, 1] 0 dX7_faultAt_12 rfl (c_X7_itemEnd l G hm ms mp mq mt mpa msh mo mtu _ _ _ _ _ (by omega) ht (by omega)) gX7_faultAt_X7_itemEnd rfl rfl ydX7_itemEnd ⟨Nat.le_of_ble_eq_true rfl, Nat.le_of_ble_eq_true rfl⟩ (ci := 7) rfl rfl rfl rfl (Nat.le_of_ble_eq_true rfl) rfl rfl ⟨Nat.zero_le _, Nat.zero_le _⟩ (kkf (st' := [_]) (ws' := [_, _]) rfl rfl ?_)
      refine V.istore_n (q := 16) (lo' := [_, _, _, _]) F dX7_faultAt_15 rfl rfl (Nat.le_of_ble_eq_true rfl) rfl rfl ?_
      refine V.iload_n (q := 17) F dX7_faultAt_16 rfl rfl rfl ?_
      refine V.if_ge (q := 20) (tgt := 24) F dX7_faultAt_17 rfl (by decide) (by omega) (fun k17 => ?_) (fun k17 => ?_)
      · refine V.iload_n (q := 25) F dX7_faultAt_24 rfl rfl rfl ?_
        refine V.aload_n (q := 26) F dX7_faultAt_25 rfl rfl rfl ?_
        refine V.get (q := 29) F 0 6 dX7_faultAt_26 rfl rfl rfl inX7_faultAt_X7 (by decide) (List.mem_of_getElem? (i := 1) rfl) rfl ?_
        refine V.icmp_ne (q := 32) (tgt := 35) F dX7_faultAt_29 rfl (by decide) (by omega) (fun k29 => ?_) (fun k29 => ?_)
        · refine V.aload_n (q := 36) F dX7_faultAt_35 rfl rfl rfl ?_
          refine V.iload_n (q := 37) F dX7_faultAt_36 rfl rfl rfl ?_
          refine V.callV (q := 40) F [0, 1] 0 dX7_faultAt_37 rfl (c_X7_sign l G hm ms mp mq mt mpa msh mo mtu _ _ _ _ _ (by omega) ht (by omega)) gX7_faultAt_X7_sign rfl rfl ydX7_sign ⟨Nat.le_of_ble_eq_true rfl, Nat.le_of_ble_eq_true rfl⟩ (ci := 7) rfl rfl rfl rfl (Nat.le_of_ble_eq_true rfl) rfl rfl ⟨Nat.zero_le _, Nat.zero_le _⟩ (kkf (st' := [_]) (ws' := [_, _]) rfl rfl ?_)
          refine V.bipush (q := 42) F dX7_faultAt_40 rfl (by decide) ?_
          refine V.icmp_eq (q := 45) (tgt := 47) F dX7_faultAt_42 rfl (by decide) (by omega) (fun k42 => ?_) (fun k42 => ?_)
          · refine V.iload_n (q := 48) F dX7_faultAt_47 rfl rfl rfl ?_
            refine V.iconst (q := 49) F dX7_faultAt_48 rfl ?_
            refine V.iadd (q := 50) F dX7_faultAt_49 rfl ?_
            refine V.istore_n (q := 51) (lo' := [_, _, _, _]) F dX7_faultAt_50 rfl rfl (Nat.le_of_ble_eq_true rfl) rfl rfl ?_
            refine V.iinc (q := 54) (lo' := [_, _, _, _]) F dX7_faultAt_51 rfl rfl (Nat.le_of_ble_eq_true rfl) rfl rfl ?_
            refine V.goto (tgt := 4) F dX7_faultAt_54 (by decide) ?_
            have hk9 : k < (K : Int) := by
              rcases Int.lt_or_le k (K : Int) with g | g
              · exact g
              · exfalso
                have e9 := hc8 (by omega)
                rw [e9] at hKc
                exact hKc (by omega)
            refine V.mask [true, true, true, false] (lo' := [_, _, _, _]) rfl ?_
            exact ih4 (k + 1) _ (by omega) (by rw [show (k + 1).toNat = k.toNat + 1 by omega, plz, ← hQ]) (by omega)
          · refine V.iload_n (q := 46) F dX7_faultAt_45 rfl rfl rfl ?_
            exact V.iret F T dX7_faultAt_46 (fnI (by have e9 := hc9 (by omega); rw [e9] at ef; omega) rfl) [hm, mt] rfl rfl
        · refine V.bipush (q := 34) F dX7_faultAt_32 rfl (by decide) ?_
          exact V.iret F T dX7_faultAt_34 (fnI (by have e9 := hc9 (by omega); rw [e9] at ef; omega) rfl) [hm, mt] rfl rfl
      · refine V.iconst (q := 21) F dX7_faultAt_20 rfl ?_
        refine V.iload_n (q := 22) F dX7_faultAt_21 rfl rfl rfl ?_
        refine V.isub (q := 23) F dX7_faultAt_22 rfl ?_
        exact V.iret F T dX7_faultAt_23 (fnI (by have e9 := hc9 (by omega); rw [e9] at ef; omega) rfl) [hm, mt] rfl rfl
  refine V.mask [true, true, true, false] (lo' := [_, _, _, _]) rfl ?_
  exact L4 _ 0 0 (by omega) rfl (Nat.lt_succ_self _)

abbrev YX7_roseAt (l : Launch) (G : Gx) : Sx := (cX7_roseAt, 2, RX7, wsX7_roseAt, rmD 2, l, G)
theorem ydX7_roseAt : ydOk yX7_roseAt 1 := by decide +kernel
set_option maxHeartbeats 1000000 in
set_option maxRecDepth 20000 in
theorem c_X7_roseAt (l : Launch) (G : Gx) (hm ms mp mq mt mpa msh mo mtu : Nat) (t : Int → Int) (kn kp n p : Int) (hn : 0 ≤ n ∧ n ≤ 80) (ht : ∀ j, 0 ≤ t j ∧ t j < 65536) (hp : 0 ≤ p ∧ p ≤ 900) : Ct l G yX7_roseAt wsX7_roseAt (rmD 2) [.ref hm, .int (zI p)] [(hm, .inr (7, [.ref ms, .ref mp, .int (zI kn), .ref mq, .int (zI kp), .ref mt, .int (zI n), .ref mpa, .ref msh, .ref mo, .ref mtu])), (mt, aI G 80 t)] (Fn (some (.int (zI (rov t n p)))) [(hm, .inr (7, [.ref ms, .ref mp, .int (zI kn), .ref mq, .int (zI kp), .ref mt, .int (zI n), .ref mpa, .ref msh, .ref mo, .ref mtu])), (mt, aI G 80 t)]) := by
  refine Ct.intro (cc := cX7_roseAt) (maxL := 2) (ret := (some .int)) (lo0 := [some (.ref hm), some (.int (zI p))]) (by decide +kernel) rfl ⟨rfl, rfl⟩ (Nat.le_of_ble_eq_true rfl) rfl ?_
  intro X F T
  change Fx X (YX7_roseAt l G) at F
  change V X (YX7_roseAt l G) 0 0 0 _ _ _
  refine V.iconst (q := 1) F dX7_roseAt_0 rfl ?_
  refine V.aload_n (q := 2) F dX7_roseAt_1 rfl rfl rfl ?_
  refine V.iload_n (q := 3) F dX7_roseAt_2 rfl rfl rfl ?_
  refine V.callV (q := 6) F [0, 1] 0 dX7_roseAt_3 rfl (c_X7_digit l G hm ms mp mq mt mpa msh mo mtu _ _ _ _ _ (by omega) ht (by omega)) gX7_roseAt_X7_digit rfl rfl ydX7_digit ⟨Nat.le_of_ble_eq_true rfl, Nat.le_of_ble_eq_true rfl⟩ (ci := 7) rfl rfl rfl rfl (Nat.le_of_ble_eq_true rfl) rfl rfl ⟨Nat.zero_le _, Nat.zero_le _⟩ (kkf (st' := [_, _]) (ws' := [_, _]) rfl rfl ?_)
  refine V.imul (q := 7) F dX7_roseAt_6 rfl ?_
  refine V.aload_n (q := 8) F dX7_roseAt_7 rfl rfl rfl ?_
  refine V.iload_n (q := 9) F dX7_roseAt_8 rfl rfl rfl ?_
  refine V.iconst (q := 10) F dX7_roseAt_9 rfl ?_
  refine V.iadd (q := 11) F dX7_roseAt_10 rfl ?_
  refine V.callV (q := 14) F [0, 1] 0 dX7_roseAt_11 rfl (c_X7_digit l G hm ms mp mq mt mpa msh mo mtu _ _ _ _ _ (by omega) ht (by omega)) gX7_roseAt_X7_digit rfl rfl ydX7_digit ⟨Nat.le_of_ble_eq_true rfl, Nat.le_of_ble_eq_true rfl⟩ (ci := 7) rfl rfl rfl rfl (Nat.le_of_ble_eq_true rfl) rfl rfl ⟨Nat.zero_le _, Nat.zero_le _⟩ (kkf (st' := [_, _]) (ws' := [_, _]) rfl rfl ?_)
  refine V.iadd (q := 15) F dX7_roseAt_14 rfl ?_
  exact V.iret F T dX7_roseAt_15 (fnI (by unfold rov; omega) rfl) [hm, mt] rfl rfl

abbrev YX7_hoursAt (l : Launch) (G : Gx) : Sx := (cX7_hoursAt, 3, RX7, wsX7_hoursAt, rmD 5, l, G)
theorem ydX7_hoursAt : ydOk yX7_hoursAt 1 := by decide +kernel
set_option maxHeartbeats 1000000 in
set_option maxRecDepth 20000 in
theorem c_X7_hoursAt (l : Launch) (G : Gx) (hm ms mp mq mt mpa msh mo mtu : Nat) (t : Int → Int) (kn kp n p : Int) (hn : 0 ≤ n ∧ n ≤ 80) (ht : ∀ j, 0 ≤ t j ∧ t j < 65536) (hp : 0 ≤ p ∧ p ≤ n) (hok : 0 ≤ iez t n p) : Ct l G yX7_hoursAt wsX7_hoursAt (rmD 5) [.ref hm, .int (zI p)] [(hm, .inr (7, [.ref ms, .ref mp, .int (zI kn), .ref mq, .int (zI kp), .ref mt, .int (zI n), .ref mpa, .ref msh, .ref mo, .ref mtu])), (mt, aI G 80 t)] (Fn (some (.int (zI (hov t n p)))) [(hm, .inr (7, [.ref ms, .ref mp, .int (zI kn), .ref mq, .int (zI kp), .ref mt, .int (zI n), .ref mpa, .ref msh, .ref mo, .ref mtu])), (mt, aI G 80 t)]) := by
  refine Ct.intro (cc := cX7_hoursAt) (maxL := 3) (ret := (some .int)) (lo0 := [some (.ref hm), some (.int (zI p)), none]) (by decide +kernel) rfl ⟨rfl, rfl⟩ (Nat.le_of_ble_eq_true rfl) rfl ?_
  intro X F T
  change Fx X (YX7_hoursAt l G) at F
  change V X (YX7_hoursAt l G) 0 0 0 _ _ _
  have hir := iez_rng t n hp.1 hp.2
  have b6 := wez_b (t := t) (n := n) (p := p + 4) (B := 100) (by omega)
  have hgs : sgz t n (wez t n (p + 4)) = if wez t n (p + 4) < n then t (wez t n (p + 4)) else -1 := rfl
  have hts := ht (wez t n (p + 4))
  have hh := hov_in hp.1 hp.2 hok
  have b7 := iez_b (t := t) (n := n) (p := p) (by omega)
  refine V.aload_n (q := 1) F dX7_hoursAt_0 rfl rfl rfl ?_
  refine V.iload_n (q := 2) F dX7_hoursAt_1 rfl rfl rfl ?_
  refine V.iconst (q := 3) F dX7_hoursAt_2 rfl ?_
  refine V.iadd (q := 4) F dX7_hoursAt_3 rfl ?_
  refine V.callV (q := 7) F [0, 1] 0 dX7_hoursAt_4 rfl (c_X7_windEnd l G hm ms mp mq mt mpa msh mo mtu _ _ _ _ _ (by omega) ht (by omega)) gX7_hoursAt_X7_windEnd rfl rfl ydX7_windEnd ⟨Nat.le_of_ble_eq_true rfl, Nat.le_of_ble_eq_true rfl⟩ (ci := 7) rfl rfl rfl rfl (Nat.le_of_ble_eq_true rfl) rfl rfl ⟨Nat.zero_le _, Nat.zero_le _⟩ (kkf (st' := [_]) (ws' := [_, _]) rfl rfl ?_)
  refine V.istore_n (q := 8) (lo' := [_, _, _]) F dX7_hoursAt_7 rfl rfl (Nat.le_of_ble_eq_true rfl) rfl rfl ?_
  refine V.aload_n (q := 9) F dX7_hoursAt_8 rfl rfl rfl ?_
  refine V.iload_n (q := 10) F dX7_hoursAt_9 rfl rfl rfl ?_
  refine V.callV (q := 13) F [0, 1] 0 dX7_hoursAt_10 rfl (c_X7_sign l G hm ms mp mq mt mpa msh mo mtu _ _ _ _ _ (by omega) ht (by omega)) gX7_hoursAt_X7_sign rfl rfl ydX7_sign ⟨Nat.le_of_ble_eq_true rfl, Nat.le_of_ble_eq_true rfl⟩ (ci := 7) rfl rfl rfl rfl (Nat.le_of_ble_eq_true rfl) rfl rfl ⟨Nat.zero_le _, Nat.zero_le _⟩ (kkf (st' := [_]) (ws' := [_, _]) rfl rfl ?_)
  refine V.bipush (q := 15) F dX7_hoursAt_13 rfl (by decide) ?_
  refine V.icmp_ne (q := 18) (tgt := 33) F dX7_hoursAt_15 rfl (by decide) (by omega) (fun k15 => ?_) (fun k15 => ?_)
  · refine V.iconst (q := 34) F dX7_hoursAt_33 rfl ?_
    exact V.iret F T dX7_hoursAt_34 (fnI (by rw [hh]; first | rw [if_pos (by omega)] | rw [if_neg (by omega)]) rfl) [hm, mt] rfl rfl
  · refine V.aload_n (q := 19) F dX7_hoursAt_18 rfl rfl rfl ?_
    refine V.iload_n (q := 20) F dX7_hoursAt_19 rfl rfl rfl ?_
    refine V.iconst (q := 21) F dX7_hoursAt_20 rfl ?_
    refine V.iadd (q := 22) F dX7_hoursAt_21 rfl ?_
    refine V.aload_n (q := 23) F dX7_hoursAt_22 rfl rfl rfl ?_
    refine V.iload_n (q := 24) F dX7_hoursAt_23 rfl rfl rfl ?_
    refine V.callV (q := 27) F [0, 1] 0 dX7_hoursAt_24 rfl (c_X7_itemEnd l G hm ms mp mq mt mpa msh mo mtu _ _ _ _ _ (by omega) ht (by omega)) gX7_hoursAt_X7_itemEnd rfl rfl ydX7_itemEnd ⟨Nat.le_of_ble_eq_true rfl, Nat.le_of_ble_eq_true rfl⟩ (ci := 7) rfl rfl rfl rfl (Nat.le_of_ble_eq_true rfl) rfl rfl ⟨Nat.zero_le _, Nat.zero_le _⟩ (kkf (st' := [_, _, _]) (ws' := [_, _]) rfl rfl ?_)
    refine V.callV (q := 30) F [0, 1] 0 dX7_hoursAt_27 rfl (c_X7_numberIn l G hm ms mp mq mt mpa msh mo mtu _ _ _ _ _ _ (by omega) ht (by omega) (by omega)) gX7_hoursAt_X7_numberIn rfl rfl ydX7_numberIn ⟨Nat.le_of_ble_eq_true rfl, Nat.le_of_ble_eq_true rfl⟩ (ci := 7) rfl rfl rfl rfl (Nat.le_of_ble_eq_true rfl) rfl rfl ⟨Nat.zero_le _, Nat.zero_le _⟩ (kkf (st' := [_]) (ws' := [_, _]) rfl rfl ?_)
    refine V.goto (tgt := 34) F dX7_hoursAt_30 (by decide) ?_
    exact V.iret F T dX7_hoursAt_34 (fnI (by rw [hh]; first | rw [if_pos (by omega)] | rw [if_neg (by omega)]) rfl) [hm, mt] rfl rfl

abbrev YX7_hoursOfText (l : Launch) (G : Gx) : Sx := (cX7_hoursOfText, 4, RX7, wsX7_hoursOfText, rmD 6, l, G)
theorem ydX7_hoursOfText : ydOk yX7_hoursOfText 1 := by decide +kernel
theorem inX7_hoursOfText_X7 : ∀ w ∈ wsX70, w ∈ wsX7_hoursOfText := fun _ h => List.mem_cons_of_mem _ (List.mem_append_right _ h)
set_option maxHeartbeats 1000000 in
set_option maxRecDepth 20000 in
theorem c_X7_hoursOfText (l : Launch) (G : Gx) (hm ms mp mq mt mpa msh mo mtu : Nat) (t : Int → Int) (kn kp n r : Int) (K : Nat) (hn : 0 ≤ n ∧ n ≤ 80) (ht : ∀ j, 0 ≤ t j ∧ t j < 65536) (hK : Par t n K) (hK13 : K ≤ 13) (hz : iez t n (plz t n K) = n) (hr0 : -2147483648 ≤ r ∧ r < 2147483648) : Ct l G yX7_hoursOfText wsX7_hoursOfText (rmD 6) [.ref hm, .int (zI r)] [(hm, .inr (7, [.ref ms, .ref mp, .int (zI kn), .ref mq, .int (zI kp), .ref mt, .int (zI n), .ref mpa, .ref msh, .ref mo, .ref mtu])), (mt, aI G 80 t)] (Fn (some (.int (zI (if r < 0 then hsz t n ((K : Int) + 1) else tsz t n K r)))) [(hm, .inr (7, [.ref ms, .ref mp, .int (zI kn), .ref mq, .int (zI kp), .ref mt, .int (zI n), .ref mpa, .ref msh, .ref mo, .ref mtu])), (mt, aI G 80 t)]) := by
  refine Ct.intro (cc := cX7_hoursOfText) (maxL := 4) (ret := (some .int)) (lo0 := [some (.ref hm), some (.int (zI r)), none, none]) (by decide +kernel) rfl ⟨rfl, rfl⟩ (Nat.le_of_ble_eq_true rfl) rfl ?_
  intro X F T
  change Fx X (YX7_hoursOfText l G) at F
  change V X (YX7_hoursOfText l G) 0 0 0 _ _ _
  have hent := ent_ok hn hK (by omega)
  have eK1 : plz t n (K + 1) = n + 1 := by rw [plz, hz]
  refine V.iconst (q := 1) F dX7_hoursOfText_0 rfl ?_
  refine V.istore_n (q := 2) (lo' := [_, _, _, _]) F dX7_hoursOfText_1 rfl rfl (Nat.le_of_ble_eq_true rfl) rfl rfl ?_
  refine V.iconst (q := 3) F dX7_hoursOfText_2 rfl ?_
  refine V.istore_n (q := 4) (lo' := [_, _, _, _]) F dX7_hoursOfText_3 rfl rfl (Nat.le_of_ble_eq_true rfl) rfl rfl ?_
  have L4 : ∀ (nq : Nat) (k Q S : Int) (hk : 0 ≤ k ∧ k ≤ (K : Int) + 1) (hQ : Q = plz t n k.toNat) (hS : S = if r < 0 then hsz t n k else sz (fun j => if rov t n (plz t n j.toNat) = r then hov t n (plz t n j.toNat) else 0) 0 k), ((K : Int) + 2 - k).toNat < nq → V X (YX7_hoursOfText l G) 0 0 4 [some (.ref hm), some (.int (zI r)), some (.int (zI S)), some (.int (zI Q))] [] [(hm, .inr (7, [.ref ms, .ref mp, .int (zI kn), .ref mq, .int (zI kp), .ref mt, .int (zI n), .ref mpa, .ref msh, .ref mo, .ref mtu])), (mt, aI G 80 t)] := by
    intro n4
    induction n4 with
    | zero => intro k Q S hk hQ hS hm4; exact absurd hm4 (Nat.not_lt_zero _)
    | succ n4 ih4 =>
      intro k Q S hk hQ hS hm4
      have hkK : k ≤ (K : Int) ∧ 0 ≤ Q ∧ Q < n ∧ 0 ≤ iez t n Q ∧ iez t n Q ≤ n ∨ k = (K : Int) + 1 ∧ Q = n + 1 := by
        rcases Int.lt_or_le (K : Int) k with g | g
        · right; exact ⟨by omega, by rw [hQ, show k.toNat = K + 1 by omega]; exact eK1⟩
        · left
          have hp := plz_rng hn.1 hK.1 k.toNat (by omega)
          rw [← hQ] at hp
          have hr := iez_rng t n hp.1 hp.2.1
          have h0 : 0 ≤ iez t n Q := by
            rcases Int.lt_or_le k (K : Int) with g2 | g2
            · have hc := (hK.1 k.toNat (by omega)).1
              rw [← hQ] at hc
              exact hc
            · rw [hQ, show k.toNat = K by omega]; omega
          omega
      have hnt := fun h : k ≤ (K : Int) => hent k.toNat (by omega)
      rw [← hQ] at hnt
      have hst1 : hsz t n (k + 1) = hsz t n k + hov t n (plz t n k.toNat) := sz_succ _ hk.1
      have hst2 : sz (fun j => if rov t n (plz t n j.toNat) = r then hov t n (plz t n j.toNat) else 0) 0 (k + 1) = sz (fun j => if rov t n (plz t n j.toNat) = r then hov t n (plz t n j.toNat) else 0) 0 k + (if rov t n (plz t n k.toNat) = r then hov t n (plz t n k.toNat) else 0) := sz_succ _ hk.1
      rw [← hQ] at hst1 hst2
      refine V.iload_n (q := 5) F dX7_hoursOfText_4 rfl rfl rfl ?_
      refine V.aload_n (q := 6) F dX7_hoursOfText_5 rfl rfl rfl ?_
      refine V.get (q := 9) F 0 6 dX7_hoursOfText_6 rfl rfl rfl inX7_hoursOfText_X7 (by decide) (List.mem_of_getElem? (i := 1) rfl) rfl ?_
      refine V.icmp_ge (q := 12) (tgt := 48) F dX7_hoursOfText_9 rfl (by decide) (by omega) (fun k9 => ?_) (fun k9 => ?_)
      · refine V.iload_n (q := 49) F dX7_hoursOfText_48 rfl rfl rfl ?_
        exact V.iret F T dX7_hoursOfText_49 (fnI (by rw [hS, show k = (K : Int) + 1 by omega]; rfl) rfl) [hm, mt] rfl rfl
      · have J35 : ∀ (x : Int) (hx : x = if r < 0 ∨ rov t n Q = r then hov t n Q else 0), V X (YX7_hoursOfText l G) 0 0 35 [some (.ref hm), some (.int (zI r)), some (.int (zI S)), some (.int (zI Q))] [.int (zI x), .int (zI S)] [(hm, .inr (7, [.ref ms, .ref mp, .int (zI kn), .ref mq, .int (zI kp), .ref mt, .int (zI n), .ref mpa, .ref msh, .ref mo, .ref mtu])), (mt, aI G 80 t)] := by
          intro x hx
          refine V.iadd (q := 36) F dX7_hoursOfText_35 rfl ?_
          refine V.istore_n (q := 37) (lo' := [_, _, _, _]) F dX7_hoursOfText_36 rfl rfl (Nat.le_of_ble_eq_true rfl) rfl rfl ?_
          refine V.aload_n (q := 38) F dX7_hoursOfText_37 rfl rfl rfl ?_
          refine V.iload_n (q := 39) F dX7_hoursOfText_38 rfl rfl rfl ?_
          refine V.callV (q := 42) F [0, 1] 0 dX7_hoursOfText_39 rfl (c_X7_itemEnd l G hm ms mp mq mt mpa msh mo mtu _ _ _ _ _ (by omega) ht (by omega)) gX7_hoursOfText_X7_itemEnd rfl rfl ydX7_itemEnd ⟨Nat.le_of_ble_eq_true rfl, Nat.le_of_ble_eq_true rfl⟩ (ci := 7) rfl rfl rfl rfl (Nat.le_of_ble_eq_true rfl) rfl rfl ⟨Nat.zero_le _, Nat.zero_le _⟩ (kkf (st' := [_]) (ws' := [_, _]) rfl rfl ?_)
          refine V.iconst (q := 43) F dX7_hoursOfText_42 rfl ?_
          refine V.iadd (q := 44) F dX7_hoursOfText_43 rfl ?_
          refine V.istore_n (q := 45) (lo' := [_, _, _, _]) F dX7_hoursOfText_44 rfl rfl (Nat.le_of_ble_eq_true rfl) rfl rfl ?_
          refine V.goto (tgt := 4) F dX7_hoursOfText_45 (by decide) ?_
          exact ih4 (k + 1) _ _ (by omega) (by rw [show (k + 1).toNat = k.toNat + 1 by omega, plz, ← hQ]) (by rw [hst1, hst2, hS, hx]; omega) (by omega)
        refine V.iload_n (q := 13) F dX7_hoursOfText_12 rfl rfl rfl ?_
        refine V.iload_n (q := 14) F dX7_hoursOfText_13 rfl rfl rfl ?_
        refine V.if_lt (q := 17) (tgt := 26) F dX7_hoursOfText_14 rfl (by decide) (by omega) (fun k14 => ?_) (fun k14 => ?_)
        · refine V.aload_n (q := 27) F dX7_hoursOfText_26 rfl rfl rfl ?_
          refine V.iload_n (q := 28) F dX7_hoursOfText_27 rfl rfl rfl ?_
          refine V.callV (q := 31) F [0, 1] 0 dX7_hoursOfText_28 rfl (c_X7_hoursAt l G hm ms mp mq mt mpa msh mo mtu _ _ _ _ _ (by omega) ht (by omega) (by omega)) gX7_hoursOfText_X7_hoursAt rfl rfl ydX7_hoursAt ⟨Nat.le_of_ble_eq_true rfl, Nat.le_of_ble_eq_true rfl⟩ (ci := 7) rfl rfl rfl rfl (Nat.le_of_ble_eq_true rfl) rfl rfl ⟨Nat.zero_le _, Nat.zero_le _⟩ (kkf (st' := [_, _]) (ws' := [_, _]) rfl rfl ?_)
          refine V.goto (tgt := 35) F dX7_hoursOfText_31 (by decide) ?_
          exact J35 _ (by omega)
        · refine V.aload_n (q := 18) F dX7_hoursOfText_17 rfl rfl rfl ?_
          refine V.iload_n (q := 19) F dX7_hoursOfText_18 rfl rfl rfl ?_
          refine V.callV (q := 22) F [0, 1] 0 dX7_hoursOfText_19 rfl (c_X7_roseAt l G hm ms mp mq mt mpa msh mo mtu _ _ _ _ _ (by omega) ht (by omega)) gX7_hoursOfText_X7_roseAt rfl rfl ydX7_roseAt ⟨Nat.le_of_ble_eq_true rfl, Nat.le_of_ble_eq_true rfl⟩ (ci := 7) rfl rfl rfl rfl (Nat.le_of_ble_eq_true rfl) rfl rfl ⟨Nat.zero_le _, Nat.zero_le _⟩ (kkf (st' := [_, _]) (ws' := [_, _]) rfl rfl ?_)
          refine V.iload_n (q := 23) F dX7_hoursOfText_22 rfl rfl rfl ?_
          refine V.icmp_ne (q := 26) (tgt := 34) F dX7_hoursOfText_23 rfl (by decide) (by omega) (fun k23 => ?_) (fun k23 => ?_)
          · refine V.iconst (q := 35) F dX7_hoursOfText_34 rfl ?_
            exact J35 _ (by omega)
          · refine V.aload_n (q := 27) F dX7_hoursOfText_26 rfl rfl rfl ?_
            refine V.iload_n (q := 28) F dX7_hoursOfText_27 rfl rfl rfl ?_
            refine V.callV (q := 31) F [0, 1] 0 dX7_hoursOfText_28 rfl (c_X7_hoursAt l G hm ms mp mq mt mpa msh mo mtu _ _ _ _ _ (by omega) ht (by omega) (by omega)) gX7_hoursOfText_X7_hoursAt rfl rfl ydX7_hoursAt ⟨Nat.le_of_ble_eq_true rfl, Nat.le_of_ble_eq_true rfl⟩ (ci := 7) rfl rfl rfl rfl (Nat.le_of_ble_eq_true rfl) rfl rfl ⟨Nat.zero_le _, Nat.zero_le _⟩ (kkf (st' := [_, _]) (ws' := [_, _]) rfl rfl ?_)
            refine V.goto (tgt := 35) F dX7_hoursOfText_31 (by decide) ?_
            exact J35 _ (by omega)
  exact L4 _ 0 0 0 (by omega) rfl (by unfold hsz; rw [sz_self, sz_self]; omega) (Nat.lt_succ_self _)

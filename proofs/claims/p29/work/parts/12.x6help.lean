abbrev YX6_isBetween (l : Launch) (G : Gx) : Sx := (cX6_isBetween, 3, RX6, wsX6_isBetween, rmD 0, l, G)
theorem ydX6_isBetween : ydOk yX6_isBetween 3 := by decide +kernel
set_option maxHeartbeats 1000000 in
set_option maxRecDepth 20000 in
theorem c_X6_isBetween (l : Launch) (G : Gx)  (v lo hi : Int) (h1 : -2147483648 ≤ v ∧ v < 2147483648) (h2 : -2147483648 ≤ lo ∧ lo < 2147483648) (h3 : -2147483648 ≤ hi ∧ hi < 2147483648) : Ct l G yX6_isBetween wsX6_isBetween (rmD 0) [.int (zI v), .int (zI lo), .int (zI hi)] [] (Fn (some (.int (zI (if lo ≤ v ∧ v ≤ hi then 1 else 0)))) []) := by
  refine Ct.intro (cc := cX6_isBetween) (maxL := 3) (ret := (some .boolean)) (lo0 := [some (.int (zI v)), some (.int (zI lo)), some (.int (zI hi))]) (by decide +kernel) rfl ⟨rfl, rfl⟩ (Nat.le_of_ble_eq_true rfl) rfl ?_
  intro X F T
  change Fx X (YX6_isBetween l G) at F
  change V X (YX6_isBetween l G) 0 0 0 _ _ _
  refine V.iload_n (q := 1) F dX6_isBetween_0 rfl rfl rfl ?_
  refine V.iload_n (q := 2) F dX6_isBetween_1 rfl rfl rfl ?_
  refine V.icmp_lt (q := 5) (tgt := 14) F dX6_isBetween_2 rfl (by decide) (by omega) (fun k2 => ?_) (fun k2 => ?_)
  · refine V.iconst (q := 15) F dX6_isBetween_14 rfl ?_
    exact V.zret F T (by omega) dX6_isBetween_15 (fnI (by omega) rfl) [] rfl rfl
  · refine V.iload_n (q := 6) F dX6_isBetween_5 rfl rfl rfl ?_
    refine V.iload_n (q := 7) F dX6_isBetween_6 rfl rfl rfl ?_
    refine V.icmp_gt (q := 10) (tgt := 14) F dX6_isBetween_7 rfl (by decide) (by omega) (fun k7 => ?_) (fun k7 => ?_)
    · refine V.iconst (q := 15) F dX6_isBetween_14 rfl ?_
      exact V.zret F T (by omega) dX6_isBetween_15 (fnI (by omega) rfl) [] rfl rfl
    · refine V.iconst (q := 11) F dX6_isBetween_10 rfl ?_
      refine V.goto (tgt := 15) F dX6_isBetween_11 (by decide) ?_
      exact V.zret F T (by omega) dX6_isBetween_15 (fnI (by omega) rfl) [] rfl rfl

abbrev YX6_isRose (l : Launch) (G : Gx) : Sx := (cX6_isRose, 2, RX6, wsX6_isRose, rmD 1, l, G)
theorem ydX6_isRose : ydOk yX6_isRose 2 := by decide +kernel
set_option maxHeartbeats 1000000 in
set_option maxRecDepth 20000 in
theorem c_X6_isRose (l : Launch) (G : Gx)  (p s : Int) (h1 : -2147483648 ≤ p ∧ p < 2147483648) (h2 : -2147483648 ≤ s ∧ s < 2147483648) : Ct l G yX6_isRose wsX6_isRose (rmD 1) [.int (zI p), .int (zI s)] [] (Fn (some (.int (zI (if (0 ≤ p ∧ p ≤ 3) ∧ (0 ≤ s ∧ s ≤ 3) then 1 else 0)))) []) := by
  refine Ct.intro (cc := cX6_isRose) (maxL := 2) (ret := (some .boolean)) (lo0 := [some (.int (zI p)), some (.int (zI s))]) (by decide +kernel) rfl ⟨rfl, rfl⟩ (Nat.le_of_ble_eq_true rfl) rfl ?_
  intro X F T
  change Fx X (YX6_isRose l G) at F
  change V X (YX6_isRose l G) 0 0 0 _ _ _
  refine V.iload_n (q := 1) F dX6_isRose_0 rfl rfl rfl ?_
  refine V.iconst (q := 2) F dX6_isRose_1 rfl ?_
  refine V.iconst (q := 3) F dX6_isRose_2 rfl ?_
  refine V.callS (q := 6) F [] dX6_isRose_3 rfl (c_X6_isBetween l G  _ _ _ (by omega) (by omega) (by omega)) gX6_isRose_X6_isBetween rfl ydX6_isBetween ⟨Nat.le_of_ble_eq_true rfl, Nat.le_of_ble_eq_true rfl⟩ rfl rfl (Nat.le_of_ble_eq_true rfl) rfl rfl ⟨Nat.zero_le _, Nat.zero_le _⟩ (kkf (st' := [_]) (ws' := []) rfl rfl ?_)
  refine V.if_eq (q := 9) (tgt := 22) F dX6_isRose_6 rfl (by decide) (by omega) (fun k6 => ?_) (fun k6 => ?_)
  · refine V.iconst (q := 23) F dX6_isRose_22 rfl ?_
    exact V.zret F T (by omega) dX6_isRose_23 (fnI (by omega) rfl) [] rfl rfl
  · refine V.iload_n (q := 10) F dX6_isRose_9 rfl rfl rfl ?_
    refine V.iconst (q := 11) F dX6_isRose_10 rfl ?_
    refine V.iconst (q := 12) F dX6_isRose_11 rfl ?_
    refine V.callS (q := 15) F [] dX6_isRose_12 rfl (c_X6_isBetween l G  _ _ _ (by omega) (by omega) (by omega)) gX6_isRose_X6_isBetween rfl ydX6_isBetween ⟨Nat.le_of_ble_eq_true rfl, Nat.le_of_ble_eq_true rfl⟩ rfl rfl (Nat.le_of_ble_eq_true rfl) rfl rfl ⟨Nat.zero_le _, Nat.zero_le _⟩ (kkf (st' := [_]) (ws' := []) rfl rfl ?_)
    refine V.if_eq (q := 18) (tgt := 22) F dX6_isRose_15 rfl (by decide) (by omega) (fun k15 => ?_) (fun k15 => ?_)
    · refine V.iconst (q := 23) F dX6_isRose_22 rfl ?_
      exact V.zret F T (by omega) dX6_isRose_23 (fnI (by omega) rfl) [] rfl rfl
    · refine V.iconst (q := 19) F dX6_isRose_18 rfl ?_
      refine V.goto (tgt := 23) F dX6_isRose_19 (by decide) ?_
      exact V.zret F T (by omega) dX6_isRose_23 (fnI (by omega) rfl) [] rfl rfl

abbrev YX6_isDirection (l : Launch) (G : Gx) : Sx := (cX6_isDirection, 1, RX6, wsX6_isDirection, rmD 1, l, G)
theorem ydX6_isDirection : ydOk yX6_isDirection 1 := by decide +kernel
set_option maxHeartbeats 1000000 in
set_option maxRecDepth 20000 in
theorem c_X6_isDirection (l : Launch) (G : Gx)  (d : Int) (h1 : -2147483648 ≤ d ∧ d < 2147483648) : Ct l G yX6_isDirection wsX6_isDirection (rmD 1) [.int (zI d)] [] (Fn (some (.int (zI (if 0 ≤ d ∧ d ≤ 15 then 1 else 0)))) []) := by
  refine Ct.intro (cc := cX6_isDirection) (maxL := 1) (ret := (some .boolean)) (lo0 := [some (.int (zI d))]) (by decide +kernel) rfl ⟨rfl, rfl⟩ (Nat.le_of_ble_eq_true rfl) rfl ?_
  intro X F T
  change Fx X (YX6_isDirection l G) at F
  change V X (YX6_isDirection l G) 0 0 0 _ _ _
  refine V.iload_n (q := 1) F dX6_isDirection_0 rfl rfl rfl ?_
  refine V.iconst (q := 2) F dX6_isDirection_1 rfl ?_
  refine V.bipush (q := 4) F dX6_isDirection_2 rfl (by decide) ?_
  refine V.callS (q := 7) F [] dX6_isDirection_4 rfl (c_X6_isBetween l G  _ _ _ (by omega) (by omega) (by omega)) gX6_isDirection_X6_isBetween rfl ydX6_isBetween ⟨Nat.le_of_ble_eq_true rfl, Nat.le_of_ble_eq_true rfl⟩ rfl rfl (Nat.le_of_ble_eq_true rfl) rfl rfl ⟨Nat.zero_le _, Nat.zero_le _⟩ (kkf (st' := [_]) (ws' := []) rfl rfl ?_)
  exact V.zret F T (by omega) dX6_isDirection_7 (fnI rfl rfl) [] rfl rfl

abbrev YX6_isClass (l : Launch) (G : Gx) : Sx := (cX6_isClass, 1, RX6, wsX6_isClass, rmD 1, l, G)
theorem ydX6_isClass : ydOk yX6_isClass 1 := by decide +kernel
set_option maxHeartbeats 1000000 in
set_option maxRecDepth 20000 in
theorem c_X6_isClass (l : Launch) (G : Gx)  (d : Int) (h1 : -2147483648 ≤ d ∧ d < 2147483648) : Ct l G yX6_isClass wsX6_isClass (rmD 1) [.int (zI d)] [] (Fn (some (.int (zI (if 0 ≤ d ∧ d ≤ 2 then 1 else 0)))) []) := by
  refine Ct.intro (cc := cX6_isClass) (maxL := 1) (ret := (some .boolean)) (lo0 := [some (.int (zI d))]) (by decide +kernel) rfl ⟨rfl, rfl⟩ (Nat.le_of_ble_eq_true rfl) rfl ?_
  intro X F T
  change Fx X (YX6_isClass l G) at F
  change V X (YX6_isClass l G) 0 0 0 _ _ _
  refine V.iload_n (q := 1) F dX6_isClass_0 rfl rfl rfl ?_
  refine V.iconst (q := 2) F dX6_isClass_1 rfl ?_
  refine V.iconst (q := 3) F dX6_isClass_2 rfl ?_
  refine V.callS (q := 6) F [] dX6_isClass_3 rfl (c_X6_isBetween l G  _ _ _ (by omega) (by omega) (by omega)) gX6_isClass_X6_isBetween rfl ydX6_isBetween ⟨Nat.le_of_ble_eq_true rfl, Nat.le_of_ble_eq_true rfl⟩ rfl rfl (Nat.le_of_ble_eq_true rfl) rfl rfl ⟨Nat.zero_le _, Nat.zero_le _⟩ (kkf (st' := [_]) (ws' := []) rfl rfl ?_)
  exact V.zret F T (by omega) dX6_isClass_6 (fnI rfl rfl) [] rfl rfl

abbrev YX6_isPart (l : Launch) (G : Gx) : Sx := (cX6_isPart, 4, RX6, wsX6_isPart, rmD 2, l, G)
theorem ydX6_isPart : ydOk yX6_isPart 4 := by decide +kernel
set_option maxHeartbeats 1000000 in
set_option maxRecDepth 20000 in
theorem c_X6_isPart (l : Launch) (G : Gx)  (p s d k : Int) (h1 : -2147483648 ≤ p ∧ p < 2147483648) (h2 : -2147483648 ≤ s ∧ s < 2147483648) (h3 : -2147483648 ≤ d ∧ d < 2147483648) (h4 : -2147483648 ≤ k ∧ k < 2147483648) : Ct l G yX6_isPart wsX6_isPart (rmD 2) [.int (zI p), .int (zI s), .int (zI d), .int (zI k)] [] (Fn (some (.int (zI (if ((0 ≤ p ∧ p ≤ 3) ∧ (0 ≤ s ∧ s ≤ 3)) ∧ (0 ≤ d ∧ d ≤ 15) ∧ (0 ≤ k ∧ k ≤ 2) then 1 else 0)))) []) := by
  refine Ct.intro (cc := cX6_isPart) (maxL := 4) (ret := (some .boolean)) (lo0 := [some (.int (zI p)), some (.int (zI s)), some (.int (zI d)), some (.int (zI k))]) (by decide +kernel) rfl ⟨rfl, rfl⟩ (Nat.le_of_ble_eq_true rfl) rfl ?_
  intro X F T
  change Fx X (YX6_isPart l G) at F
  change V X (YX6_isPart l G) 0 0 0 _ _ _
  refine V.iload_n (q := 1) F dX6_isPart_0 rfl rfl rfl ?_
  refine V.iload_n (q := 2) F dX6_isPart_1 rfl rfl rfl ?_
  refine V.callS (q := 5) F [] dX6_isPart_2 rfl (c_X6_isRose l G  _ _ (by omega) (by omega)) gX6_isPart_X6_isRose rfl ydX6_isRose ⟨Nat.le_of_ble_eq_true rfl, Nat.le_of_ble_eq_true rfl⟩ rfl rfl (Nat.le_of_ble_eq_true rfl) rfl rfl ⟨Nat.zero_le _, Nat.zero_le _⟩ (kkf (st' := [_]) (ws' := []) rfl rfl ?_)
  refine V.if_eq (q := 8) (tgt := 26) F dX6_isPart_5 rfl (by decide) (by omega) (fun k5 => ?_) (fun k5 => ?_)
  · refine V.iconst (q := 27) F dX6_isPart_26 rfl ?_
    exact V.zret F T (by omega) dX6_isPart_27 (fnI (by omega) rfl) [] rfl rfl
  · refine V.iload_n (q := 9) F dX6_isPart_8 rfl rfl rfl ?_
    refine V.callS (q := 12) F [] dX6_isPart_9 rfl (c_X6_isDirection l G  _ (by omega)) gX6_isPart_X6_isDirection rfl ydX6_isDirection ⟨Nat.le_of_ble_eq_true rfl, Nat.le_of_ble_eq_true rfl⟩ rfl rfl (Nat.le_of_ble_eq_true rfl) rfl rfl ⟨Nat.zero_le _, Nat.zero_le _⟩ (kkf (st' := [_]) (ws' := []) rfl rfl ?_)
    refine V.if_eq (q := 15) (tgt := 26) F dX6_isPart_12 rfl (by decide) (by omega) (fun k12 => ?_) (fun k12 => ?_)
    · refine V.iconst (q := 27) F dX6_isPart_26 rfl ?_
      exact V.zret F T (by omega) dX6_isPart_27 (fnI (by omega) rfl) [] rfl rfl
    · refine V.iload_n (q := 16) F dX6_isPart_15 rfl rfl rfl ?_
      refine V.callS (q := 19) F [] dX6_isPart_16 rfl (c_X6_isClass l G  _ (by omega)) gX6_isPart_X6_isClass rfl ydX6_isClass ⟨Nat.le_of_ble_eq_true rfl, Nat.le_of_ble_eq_true rfl⟩ rfl rfl (Nat.le_of_ble_eq_true rfl) rfl rfl ⟨Nat.zero_le _, Nat.zero_le _⟩ (kkf (st' := [_]) (ws' := []) rfl rfl ?_)
      refine V.if_eq (q := 22) (tgt := 26) F dX6_isPart_19 rfl (by decide) (by omega) (fun k19 => ?_) (fun k19 => ?_)
      · refine V.iconst (q := 27) F dX6_isPart_26 rfl ?_
        exact V.zret F T (by omega) dX6_isPart_27 (fnI (by omega) rfl) [] rfl rfl
      · refine V.iconst (q := 23) F dX6_isPart_22 rfl ?_
        refine V.goto (tgt := 27) F dX6_isPart_23 (by decide) ?_
        exact V.zret F T (by omega) dX6_isPart_27 (fnI (by omega) rfl) [] rfl rfl

abbrev YX6_roseOf (l : Launch) (G : Gx) : Sx := (cX6_roseOf, 2, RX6, wsX6_roseOf, rmD 0, l, G)
theorem ydX6_roseOf : ydOk yX6_roseOf 2 := by decide +kernel
set_option maxHeartbeats 1000000 in
set_option maxRecDepth 20000 in
theorem c_X6_roseOf (l : Launch) (G : Gx)  (p s : Int)  : Ct l G yX6_roseOf wsX6_roseOf (rmD 0) [.int (zI p), .int (zI s)] [] (Fn (some (.int (zI (p * 4 + s)))) []) := by
  refine Ct.intro (cc := cX6_roseOf) (maxL := 2) (ret := (some .int)) (lo0 := [some (.int (zI p)), some (.int (zI s))]) (by decide +kernel) rfl ⟨rfl, rfl⟩ (Nat.le_of_ble_eq_true rfl) rfl ?_
  intro X F T
  change Fx X (YX6_roseOf l G) at F
  change V X (YX6_roseOf l G) 0 0 0 _ _ _
  refine V.iload_n (q := 1) F dX6_roseOf_0 rfl rfl rfl ?_
  refine V.iconst (q := 2) F dX6_roseOf_1 rfl ?_
  refine V.imul (q := 3) F dX6_roseOf_2 rfl ?_
  refine V.iload_n (q := 4) F dX6_roseOf_3 rfl rfl rfl ?_
  refine V.iadd (q := 5) F dX6_roseOf_4 rfl ?_
  exact V.iret F T dX6_roseOf_5 (fnI rfl rfl) [] rfl rfl

abbrev YX6_partOf (l : Launch) (G : Gx) : Sx := (cX6_partOf, 2, RX6, wsX6_partOf, rmD 0, l, G)
theorem ydX6_partOf : ydOk yX6_partOf 2 := by decide +kernel
set_option maxHeartbeats 1000000 in
set_option maxRecDepth 20000 in
theorem c_X6_partOf (l : Launch) (G : Gx)  (p s : Int)  : Ct l G yX6_partOf wsX6_partOf (rmD 0) [.int (zI p), .int (zI s)] [] (Fn (some (.int (zI (p * 3 + s)))) []) := by
  refine Ct.intro (cc := cX6_partOf) (maxL := 2) (ret := (some .int)) (lo0 := [some (.int (zI p)), some (.int (zI s))]) (by decide +kernel) rfl ⟨rfl, rfl⟩ (Nat.le_of_ble_eq_true rfl) rfl ?_
  intro X F T
  change Fx X (YX6_partOf l G) at F
  change V X (YX6_partOf l G) 0 0 0 _ _ _
  refine V.iload_n (q := 1) F dX6_partOf_0 rfl rfl rfl ?_
  refine V.iconst (q := 2) F dX6_partOf_1 rfl ?_
  refine V.imul (q := 3) F dX6_partOf_2 rfl ?_
  refine V.iload_n (q := 4) F dX6_partOf_3 rfl rfl rfl ?_
  refine V.iadd (q := 5) F dX6_partOf_4 rfl ?_
  exact V.iret F T dX6_partOf_5 (fnI rfl rfl) [] rfl rfl

abbrev YX6_isSettingInRange (l : Launch) (G : Gx) : Sx := (cX6_isSettingInRange, 2, RX6, wsX6_isSettingInRange, rmD 1, l, G)
theorem ydX6_isSettingInRange : ydOk yX6_isSettingInRange 2 := by decide +kernel
set_option maxHeartbeats 1000000 in
set_option maxRecDepth 20000 in
theorem c_X6_isSettingInRange (l : Launch) (G : Gx)  (w v : Int) (h1 : -2147483648 ≤ w ∧ w < 2147483648) (h2 : -2147483648 ≤ v ∧ v < 2147483648) : Ct l G yX6_isSettingInRange wsX6_isSettingInRange (rmD 1) [.int (zI w), .int (zI v)] [] (Fn (some (.int (zI (if (w = 2 ∧ 0 ≤ v ∧ v ≤ 9) ∨ (w ≠ 2 ∧ 1 ≤ v ∧ v ≤ 99) then 1 else 0)))) []) := by
  refine Ct.intro (cc := cX6_isSettingInRange) (maxL := 2) (ret := (some .boolean)) (lo0 := [some (.int (zI w)), some (.int (zI v))]) (by decide +kernel) rfl ⟨rfl, rfl⟩ (Nat.le_of_ble_eq_true rfl) rfl ?_
  intro X F T
  change Fx X (YX6_isSettingInRange l G) at F
  change V X (YX6_isSettingInRange l G) 0 0 0 _ _ _
  refine V.iload_n (q := 1) F dX6_isSettingInRange_0 rfl rfl rfl ?_
  refine V.iconst (q := 2) F dX6_isSettingInRange_1 rfl ?_
  refine V.icmp_ne (q := 5) (tgt := 13) F dX6_isSettingInRange_2 rfl (by decide) (by omega) (fun k2 => ?_) (fun k2 => ?_)
  · refine V.iload_n (q := 14) F dX6_isSettingInRange_13 rfl rfl rfl ?_
    refine V.iconst (q := 15) F dX6_isSettingInRange_14 rfl ?_
    refine V.bipush (q := 17) F dX6_isSettingInRange_15 rfl (by decide) ?_
    refine V.callS (q := 20) F [] dX6_isSettingInRange_17 rfl (c_X6_isBetween l G  _ _ _ (by omega) (by omega) (by omega)) gX6_isSettingInRange_X6_isBetween rfl ydX6_isBetween ⟨Nat.le_of_ble_eq_true rfl, Nat.le_of_ble_eq_true rfl⟩ rfl rfl (Nat.le_of_ble_eq_true rfl) rfl rfl ⟨Nat.zero_le _, Nat.zero_le _⟩ (kkf (st' := [_]) (ws' := []) rfl rfl ?_)
    exact V.zret F T (by omega) dX6_isSettingInRange_20 (fnI (by omega) rfl) [] rfl rfl
  · refine V.iload_n (q := 6) F dX6_isSettingInRange_5 rfl rfl rfl ?_
    refine V.iconst (q := 7) F dX6_isSettingInRange_6 rfl ?_
    refine V.bipush (q := 9) F dX6_isSettingInRange_7 rfl (by decide) ?_
    refine V.callS (q := 12) F [] dX6_isSettingInRange_9 rfl (c_X6_isBetween l G  _ _ _ (by omega) (by omega) (by omega)) gX6_isSettingInRange_X6_isBetween rfl ydX6_isBetween ⟨Nat.le_of_ble_eq_true rfl, Nat.le_of_ble_eq_true rfl⟩ rfl rfl (Nat.le_of_ble_eq_true rfl) rfl rfl ⟨Nat.zero_le _, Nat.zero_le _⟩ (kkf (st' := [_]) (ws' := []) rfl rfl ?_)
    exact V.zret F T (by omega) dX6_isSettingInRange_12 (fnI (by omega) rfl) [] rfl rfl

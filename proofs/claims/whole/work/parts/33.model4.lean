theorem cpz_0 (f g : Int → Int) (s d : Int) : cpz f g s d 0 = g := by
  funext j
  unfold cpz
  rw [if_neg (by omega)]
theorem cpz_s (f g : Int → Int) {s d i : Int} (hi : 0 ≤ i) : upz (cpz f g s d i) (d + i) (f (s + i)) = cpz f g s d (i + 1) := by
  funext j
  simp only [upz, cpz]
  by_cases h : j = d + i
  · rw [if_pos h, if_pos (by omega)]
    exact congrArg f (by omega)
  · rw [if_neg h]
    by_cases h2 : d ≤ j ∧ j < d + i
    · rw [if_pos h2, if_pos (by omega)]
    · rw [if_neg h2, if_neg (by omega)]
/-- the model's past behind a state more -/
def PN (sv : Int → Int) (kn : Int) (past : Int → Int) : Int → Int := cpz sv (if kn = 4 then fil (fun j => past (7157 + j)) past 21471 else past) 0 (7157 * (if kn = 4 then 3 else kn)) 7157

abbrev YX7_remembers (l : Launch) (G : Gx) : Sx := (cX7_remembers, 2, RX7, wsX7_remembers, rmD 0, l, G)
theorem ydX7_remembers : ydOk yX7_remembers 0 := by decide +kernel
theorem inX7_remembers_X7 : ∀ w ∈ wsX70, w ∈ wsX7_remembers := fun _ h => List.mem_cons_of_mem _ (List.mem_append_right _ h)
set_option maxHeartbeats 1000000 in
set_option maxRecDepth 20000 in
theorem c_X7_remembers (l : Launch) (G : Gx) (hm ms mp mq mt mpa msh mo mtu : Nat) (sv past : Int → Int) (kn kp ln : Int) (hkn : 0 ≤ kn ∧ kn ≤ 4) : Ct l G yX7_remembers wsX7_remembers (rmD 0) [.ref hm] [(hm, .inr (7, [.ref ms, .ref mp, .int (zI kn), .ref mq, .int (zI kp), .ref mt, .int (zI ln), .ref mpa, .ref msh, .ref mo, .ref mtu])), (ms, aJ G 7157 sv), (mp, aJ G 28628 past)] (Fn none [(hm, .inr (7, [.ref ms, .ref mp, .int (zI (sN kn)), .ref mq, .int (zI kp), .ref mt, .int (zI ln), .ref mpa, .ref msh, .ref mo, .ref mtu])), (ms, aJ G 7157 sv), (mp, aJ G 28628 (PN sv kn past))]) := by
  refine Ct.intro (cc := cX7_remembers) (maxL := 2) (ret := none) (lo0 := [some (.ref hm), none]) (by decide +kernel) rfl ⟨rfl, rfl⟩ (Nat.le_of_ble_eq_true rfl) rfl ?_
  intro X F T
  change Fx X (YX7_remembers l G) at F
  change V X (YX7_remembers l G) 0 0 0 _ _ _
  have J49 : ∀ (x : Int) (q : Int → Int) (hx : x = if kn = 4 then 3 else kn) (hq : q = if kn = 4 then fil (fun j => past (7157 + j)) past 21471 else past), V X (YX7_remembers l G) 0 0 49 [some (.ref hm), none] [] [(hm, .inr (7, [.ref ms, .ref mp, .int (zI x), .ref mq, .int (zI kp), .ref mt, .int (zI ln), .ref mpa, .ref msh, .ref mo, .ref mtu])), (ms, aJ G 7157 sv), (mp, aJ G 28628 q)] := by
    intro x q hx hq
    refine V.iconst (q := 50) F dX7_remembers_49 rfl ?_
    refine V.istore_n (q := 51) (lo' := [_, _]) F dX7_remembers_50 rfl rfl (Nat.le_of_ble_eq_true rfl) rfl rfl ?_
    have L51 : ∀ (nq : Nat) (i : Int) (hi : 0 ≤ i ∧ i ≤ 7157), (7157 - i).toNat < nq → V X (YX7_remembers l G) 0 0 51 [some (.ref hm), some (.int (zI i))] [] [(hm, .inr (7, [.ref ms, .ref mp, .int (zI x), .ref mq, .int (zI kp), .ref mt, .int (zI ln), .ref mpa, .ref msh, .ref mo, .ref mtu])), (ms, aJ G 7157 sv), (mp, aJ G 28628 (cpz sv q 0 (7157 * x) i))] := by
      intro n51
      induction n51 with
      | zero => intro i hi hm51; exact absurd hm51 (Nat.not_lt_zero _)
      | succ n51 ih51 =>
        intro i hi hm51
        refine V.iload_n (q := 52) F dX7_remembers_51 rfl rfl rfl ?_
        refine V.sipush (q := 55) F dX7_remembers_52 rfl (by decide) ?_
        refine V.icmp_ge (q := 58) (tgt := 85) F dX7_remembers_55 rfl (by decide) (by omega) (fun k55 => ?_) (fun k55 => ?_)
        · have he : i = 7157 := by omega
          subst he
          refine V.aload_n (q := 86) F dX7_remembers_85 rfl rfl rfl ?_
          refine V.dup (q := 87) F dX7_remembers_86 rfl rfl ?_
          refine V.get (q := 90) F 0 2 dX7_remembers_87 rfl rfl rfl inX7_remembers_X7 (by decide) (List.mem_of_getElem? (i := 1) rfl) rfl ?_
          refine V.iconst (q := 91) F dX7_remembers_90 rfl ?_
          refine V.iadd (q := 92) F dX7_remembers_91 rfl ?_
          refine V.put (q := 95) (ws' := [_, _, _]) (fs' := [_, _, _, _, _, _, _, _, _, _, _]) F 0 2 dX7_remembers_92 rfl rfl rfl inX7_remembers_X7 tyX7 tyX7_ok nmX7 (by decide) (List.mem_of_getElem? (i := 1) rfl) rfl rfl rfl rfl (Nat.le_of_ble_eq_true rfl) rfl rfl ?_
          exact V.vret F T dX7_remembers_95 ⟨rfl, (by rw [hq, hx]; rfl)⟩ [hm, ms, mp] rfl rfl
        · refine V.aload_n (q := 59) F dX7_remembers_58 rfl rfl rfl ?_
          refine V.get (q := 62) F 0 1 dX7_remembers_59 rfl rfl rfl inX7_remembers_X7 (by decide) (List.mem_of_getElem? (i := 2) rfl) rfl ?_
          refine V.sipush (q := 65) F dX7_remembers_62 rfl (by decide) ?_
          refine V.aload_n (q := 66) F dX7_remembers_65 rfl rfl rfl ?_
          refine V.get (q := 69) F 0 2 dX7_remembers_66 rfl rfl rfl inX7_remembers_X7 (by decide) (List.mem_of_getElem? (i := 1) rfl) rfl ?_
          refine V.imul (q := 70) F dX7_remembers_69 rfl ?_
          refine V.iload_n (q := 71) F dX7_remembers_70 rfl rfl rfl ?_
          refine V.iadd (q := 72) F dX7_remembers_71 rfl ?_
          refine V.aload_n (q := 73) F dX7_remembers_72 rfl rfl rfl ?_
          refine V.get (q := 76) F 0 0 dX7_remembers_73 rfl rfl rfl inX7_remembers_X7 (by decide) (List.mem_of_getElem? (i := 3) rfl) rfl ?_
          refine V.iload_n (q := 77) F dX7_remembers_76 rfl rfl rfl ?_
          refine V.lald (q := 78) F 1 dX7_remembers_77 rfl rfl (by decide) (by omega) ?_
          refine V.last (q := 79) (ws' := [_, _, _]) F 2 dX7_remembers_78 rfl rfl (by decide) (by omega) rfl ?_
          rw [show sv i = sv (0 + i) by rw [Int.zero_add], cpz_s sv q hi.1]
          refine V.iinc (q := 82) (lo' := [_, _]) F dX7_remembers_79 rfl rfl (Nat.le_of_ble_eq_true rfl) rfl rfl ?_
          refine V.goto (tgt := 51) F dX7_remembers_82 (by decide) ?_
          exact ih51 (i + 1) (by omega) (by omega)
    refine V.eq (pc' := 51) (lo' := [_, _]) (st' := []) (ws' := [_, _, (mp, aJ G 28628 (cpz sv q 0 (7157 * x) 0))]) rfl rfl rfl (by rw [cpz_0]) ?_
    exact L51 _ 0 (by omega) (Nat.lt_succ_self _)
  refine V.aload_n (q := 1) F dX7_remembers_0 rfl rfl rfl ?_
  refine V.get (q := 4) F 0 2 dX7_remembers_1 rfl rfl rfl inX7_remembers_X7 (by decide) (List.mem_of_getElem? (i := 1) rfl) rfl ?_
  refine V.iconst (q := 5) F dX7_remembers_4 rfl ?_
  refine V.icmp_ne (q := 8) (tgt := 49) F dX7_remembers_5 rfl (by decide) (by omega) (fun k5 => ?_) (fun k5 => ?_)
  · exact J49 _ _ (by omega) (by first | rw [if_neg (by omega)] | rw [if_pos (by omega)])
  · refine V.iconst (q := 9) F dX7_remembers_8 rfl ?_
    refine V.istore_n (q := 10) (lo' := [_, _]) F dX7_remembers_9 rfl rfl (Nat.le_of_ble_eq_true rfl) rfl rfl ?_
    have L10 : ∀ (nq : Nat) (i : Int) (hi : 0 ≤ i ∧ i ≤ 21471), (21471 - i).toNat < nq → V X (YX7_remembers l G) 0 0 10 [some (.ref hm), some (.int (zI i))] [] [(hm, .inr (7, [.ref ms, .ref mp, .int (zI kn), .ref mq, .int (zI kp), .ref mt, .int (zI ln), .ref mpa, .ref msh, .ref mo, .ref mtu])), (ms, aJ G 7157 sv), (mp, aJ G 28628 (fil (fun j => past (7157 + j)) past i))] := by
      intro n10
      induction n10 with
      | zero => intro i hi hm10; exact absurd hm10 (Nat.not_lt_zero _)
      | succ n10 ih10 =>
        intro i hi hm10
        refine V.iload_n (q := 11) F dX7_remembers_10 rfl rfl rfl ?_
        refine V.sipush (q := 14) F dX7_remembers_11 rfl (by decide) ?_
        refine V.icmp_ge (q := 17) (tgt := 39) F dX7_remembers_14 rfl (by decide) (by omega) (fun k14 => ?_) (fun k14 => ?_)
        · have he : i = 21471 := by omega
          subst he
          refine V.aload_n (q := 40) F dX7_remembers_39 rfl rfl rfl ?_
          refine V.dup (q := 41) F dX7_remembers_40 rfl rfl ?_
          refine V.get (q := 44) F 0 2 dX7_remembers_41 rfl rfl rfl inX7_remembers_X7 (by decide) (List.mem_of_getElem? (i := 1) rfl) rfl ?_
          refine V.iconst (q := 45) F dX7_remembers_44 rfl ?_
          refine V.isub (q := 46) F dX7_remembers_45 rfl ?_
          refine V.put (q := 49) (ws' := [_, _, _]) (fs' := [_, _, _, _, _, _, _, _, _, _, _]) F 0 2 dX7_remembers_46 rfl rfl rfl inX7_remembers_X7 tyX7 tyX7_ok nmX7 (by decide) (List.mem_of_getElem? (i := 1) rfl) rfl rfl rfl rfl (Nat.le_of_ble_eq_true rfl) rfl rfl ?_
          refine V.mask [true, false] (lo' := [_, _]) rfl ?_
          exact J49 _ _ (by omega) (by first | rw [if_neg (by omega)] | rw [if_pos (by omega)])
        · refine V.aload_n (q := 18) F dX7_remembers_17 rfl rfl rfl ?_
          refine V.get (q := 21) F 0 1 dX7_remembers_18 rfl rfl rfl inX7_remembers_X7 (by decide) (List.mem_of_getElem? (i := 2) rfl) rfl ?_
          refine V.iload_n (q := 22) F dX7_remembers_21 rfl rfl rfl ?_
          refine V.aload_n (q := 23) F dX7_remembers_22 rfl rfl rfl ?_
          refine V.get (q := 26) F 0 1 dX7_remembers_23 rfl rfl rfl inX7_remembers_X7 (by decide) (List.mem_of_getElem? (i := 2) rfl) rfl ?_
          refine V.sipush (q := 29) F dX7_remembers_26 rfl (by decide) ?_
          refine V.iload_n (q := 30) F dX7_remembers_29 rfl rfl rfl ?_
          refine V.iadd (q := 31) F dX7_remembers_30 rfl ?_
          refine V.lald (q := 32) F 2 dX7_remembers_31 rfl rfl (by decide) (by omega) ?_
          refine V.last (q := 33) (ws' := [_, _, _]) F 2 dX7_remembers_32 rfl rfl (by decide) (by omega) rfl ?_
          rw [fil_out _ _ (show 7157 + i < 0 ∨ i ≤ 7157 + i by omega)]
          rw [fil_s (fun j => past (7157 + j)) past hi.1 rfl]
          refine V.iinc (q := 36) (lo' := [_, _]) F dX7_remembers_33 rfl rfl (Nat.le_of_ble_eq_true rfl) rfl rfl ?_
          refine V.goto (tgt := 10) F dX7_remembers_36 (by decide) ?_
          exact ih10 (i + 1) (by omega) (by omega)
    refine V.eq (pc' := 10) (lo' := [_, _]) (st' := []) (ws' := [_, _, (mp, aJ G 28628 (fil (fun j => past (7157 + j)) past 0))]) rfl rfl rfl (by rw [fil_0]) ?_
    exact L10 _ 0 (by omega) (Nat.lt_succ_self _)

abbrev YX7_allHours (l : Launch) (G : Gx) : Sx := (cX7_allHours, 4, RX7, wsX7_allHours, rmD 4, l, G)
theorem ydX7_allHours : ydOk yX7_allHours 1 := by decide +kernel
set_option maxHeartbeats 1000000 in
set_option maxRecDepth 20000 in
theorem c_X7_allHours (l : Launch) (G : Gx) (hm ms mp mq mt mpa msh mo mtu : Nat) (a sv pa : Int → Int) (kn kp ln w : Int) (hR : Rel a sv) (hI : Inv a) (h2 : -2147483648 ≤ w ∧ w < 2147483648) : Ct l G yX7_allHours wsX7_allHours (rmD 4) [.ref hm, .int (zI w)] [(hm, .inr (7, [.ref ms, .ref mp, .int (zI kn), .ref mq, .int (zI kp), .ref mt, .int (zI ln), .ref mpa, .ref msh, .ref mo, .ref mtu])), (ms, aJ G 7157 sv), (mpa, aI G 48 pa)] (M3p G hm ms mp mq mt mpa msh mo mtu sv kn kp ln (if w = 0 then sumz a 25344 + sumz a 25360 else sumz a 25360)) := by
  refine Ct.intro (cc := cX7_allHours) (maxL := 4) (ret := (some .int)) (lo0 := [some (.ref hm), some (.int (zI w)), none, none]) (by decide +kernel) rfl ⟨rfl, rfl⟩ (Nat.le_of_ble_eq_true rfl) rfl ?_
  intro X F T
  change Fx X (YX7_allHours l G) at F
  change V X (YX7_allHours l G) 0 0 0 _ _ _
  refine V.iconst (q := 1) F dX7_allHours_0 rfl ?_
  refine V.istore_n (q := 2) (lo' := [_, _, _, _]) F dX7_allHours_1 rfl rfl (Nat.le_of_ble_eq_true rfl) rfl rfl ?_
  refine V.iconst (q := 3) F dX7_allHours_2 rfl ?_
  refine V.istore_n (q := 4) (lo' := [_, _, _, _]) F dX7_allHours_3 rfl rfl (Nat.le_of_ble_eq_true rfl) rfl rfl ?_
  have L4 : ∀ (nq : Nat) (i S : Int) (pa : Int → Int) (hi : 0 ≤ i ∧ i ≤ 16) (hS : S = if w = 0 then sz (fun k => a (25344 + k) + a (25360 + k)) 0 i else sz (fun k => a (25360 + k)) 0 i), (16 - i).toNat < nq → V X (YX7_allHours l G) 0 0 4 [some (.ref hm), some (.int (zI w)), some (.int (zI S)), some (.int (zI i))] [] [(hm, .inr (7, [.ref ms, .ref mp, .int (zI kn), .ref mq, .int (zI kp), .ref mt, .int (zI ln), .ref mpa, .ref msh, .ref mo, .ref mtu])), (ms, aJ G 7157 sv), (mpa, aI G 48 pa)] := by
    intro n4
    induction n4 with
    | zero => intro i S pa hi hS hm4; exact absurd hm4 (Nat.not_lt_zero _)
    | succ n4 ih4 =>
      intro i S pa hi hS hm4
      refine V.iload_n (q := 5) F dX7_allHours_4 rfl rfl rfl ?_
      refine V.bipush (q := 7) F dX7_allHours_5 rfl (by decide) ?_
      refine V.icmp_ge (q := 10) (tgt := 36) F dX7_allHours_7 rfl (by decide) (by omega) (fun k7 => ?_) (fun k7 => ?_)
      · refine V.iload_n (q := 37) F dX7_allHours_36 rfl rfl rfl ?_
        have e := sz_add (fun k => a (25344 + k)) (fun k => a (25360 + k)) 0 16
        exact V.iret F T dX7_allHours_37 ⟨_, iEq (by rw [hS, show i = 16 by omega]; unfold sumz; omega), rfl⟩ [hm, ms, mpa] rfl rfl
      · have J28 : ∀ (x : Int) (pa : Int → Int) (hx : x = if w = 0 then a (25344 + i) + a (25360 + i) else a (25360 + i)), V X (YX7_allHours l G) 0 0 28 [some (.ref hm), some (.int (zI w)), some (.int (zI S)), some (.int (zI i))] [.int (zI x), .int (zI S)] [(hm, .inr (7, [.ref ms, .ref mp, .int (zI kn), .ref mq, .int (zI kp), .ref mt, .int (zI ln), .ref mpa, .ref msh, .ref mo, .ref mtu])), (ms, aJ G 7157 sv), (mpa, aI G 48 pa)] := by
          intro x pa hx
          refine V.iadd (q := 29) F dX7_allHours_28 rfl ?_
          refine V.istore_n (q := 30) (lo' := [_, _, _, _]) F dX7_allHours_29 rfl rfl (Nat.le_of_ble_eq_true rfl) rfl rfl ?_
          refine V.iinc (q := 33) (lo' := [_, _, _, _]) F dX7_allHours_30 rfl rfl (Nat.le_of_ble_eq_true rfl) rfl rfl ?_
          refine V.goto (tgt := 4) F dX7_allHours_33 (by decide) ?_
          exact ih4 (i + 1) _ _ (by omega) (by rw [sz_succ _ hi.1, sz_succ _ hi.1, hS, hx]; omega) (by omega)
        refine V.iload_n (q := 11) F dX7_allHours_10 rfl rfl rfl ?_
        refine V.iload_n (q := 12) F dX7_allHours_11 rfl rfl rfl ?_
        refine V.if_ne (q := 15) (tgt := 23) F dX7_allHours_12 rfl (by decide) (by omega) (fun k12 => ?_) (fun k12 => ?_)
        · refine V.aload_n (q := 24) F dX7_allHours_23 rfl rfl rfl ?_
          refine V.iload_n (q := 25) F dX7_allHours_24 rfl rfl rfl ?_
          refine V.callV (q := 28) F [0, 1] 0 dX7_allHours_25 rfl (c_X7_calmOf l G hm ms mp mq mt mpa msh mo mtu _ _ _ _ _ _ hR (by omega)) gX7_allHours_X7_calmOf rfl rfl ydX7_calmOf ⟨Nat.le_of_ble_eq_true rfl, Nat.le_of_ble_eq_true rfl⟩ (ci := 7) rfl rfl rfl rfl (Nat.le_of_ble_eq_true rfl) rfl rfl ⟨Nat.zero_le _, Nat.zero_le _⟩ (kkf (st' := [_, _]) (ws' := [_, _, _]) rfl rfl ?_)
          exact J28 _ _ (by omega)
        · refine V.aload_n (q := 16) F dX7_allHours_15 rfl rfl rfl ?_
          refine V.iload_n (q := 17) F dX7_allHours_16 rfl rfl rfl ?_
          refine V.callV (q := 20) F [0, 1, 2] 0 dX7_allHours_17 rfl (c_X7_hoursOf l G hm ms mp mq mt mpa msh mo mtu _ _ _ _ _ _ _ hR hI (by omega)) gX7_allHours_X7_hoursOf rfl rfl ydX7_hoursOf ⟨Nat.le_of_ble_eq_true rfl, Nat.le_of_ble_eq_true rfl⟩ (ci := 7) rfl rfl rfl rfl (Nat.le_of_ble_eq_true rfl) rfl rfl ⟨Nat.zero_le _, Nat.zero_le _⟩ (kkf (st' := [_, _]) (ws' := [_, _, _]) rfl rfl ?_)
          refine V.goto (tgt := 28) F dX7_allHours_20 (by decide) ?_
          exact J28 _ _ (by omega)
  exact L4 _ 0 0 _ (by omega) (by rw [sz_self, sz_self]; omega) (Nat.lt_succ_self _)

abbrev YX7_ofPlates (l : Launch) (G : Gx) : Sx := (cX7_ofPlates, 4, RX7, wsX7_ofPlates, rmD 6, l, G)
theorem ydX7_ofPlates : ydOk yX7_ofPlates 1 := by decide +kernel
set_option maxHeartbeats 1000000 in
set_option maxRecDepth 20000 in
theorem c_X7_ofPlates (l : Launch) (G : Gx) (hm ms mp mq mt mpa msh mo mtu : Nat) (a sv pa sh : Int → Int) (kn kp ln w : Int) (hR : Rel a sv) (hI : Inv a) (h2 : -2147483648 ≤ w ∧ w < 2147483648) : Ct l G yX7_ofPlates wsX7_ofPlates (rmD 6) [.ref hm, .int (zI w)] [(hm, .inr (7, [.ref ms, .ref mp, .int (zI kn), .ref mq, .int (zI kp), .ref mt, .int (zI ln), .ref mpa, .ref msh, .ref mo, .ref mtu])), (ms, aJ G 7157 sv), (mpa, aI G 48 pa), (msh, aI G 48 sh)] (M4p G hm ms mp mq mt mpa msh mo mtu sv kn kp ln (if w = 3 then sumz a 26160 else pnad a 16)) := by
  refine Ct.intro (cc := cX7_ofPlates) (maxL := 4) (ret := (some .int)) (lo0 := [some (.ref hm), some (.int (zI w)), none, none]) (by decide +kernel) rfl ⟨rfl, rfl⟩ (Nat.le_of_ble_eq_true rfl) rfl ?_
  intro X F T
  change Fx X (YX7_ofPlates l G) at F
  change V X (YX7_ofPlates l G) 0 0 0 _ _ _
  refine V.iconst (q := 1) F dX7_ofPlates_0 rfl ?_
  refine V.istore_n (q := 2) (lo' := [_, _, _, _]) F dX7_ofPlates_1 rfl rfl (Nat.le_of_ble_eq_true rfl) rfl rfl ?_
  refine V.iconst (q := 3) F dX7_ofPlates_2 rfl ?_
  refine V.istore_n (q := 4) (lo' := [_, _, _, _]) F dX7_ofPlates_3 rfl rfl (Nat.le_of_ble_eq_true rfl) rfl rfl ?_
  have L4 : ∀ (nq : Nat) (i S : Int) (pa sh : Int → Int) (hi : 0 ≤ i ∧ i ≤ 16) (hS : S = if w = 3 then sz (fun k => a (26160 + k)) 0 i else pnad a i), (16 - i).toNat < nq → V X (YX7_ofPlates l G) 0 0 4 [some (.ref hm), some (.int (zI w)), some (.int (zI S)), some (.int (zI i))] [] [(hm, .inr (7, [.ref ms, .ref mp, .int (zI kn), .ref mq, .int (zI kp), .ref mt, .int (zI ln), .ref mpa, .ref msh, .ref mo, .ref mtu])), (ms, aJ G 7157 sv), (mpa, aI G 48 pa), (msh, aI G 48 sh)] := by
    intro n4
    induction n4 with
    | zero => intro i S pa sh hi hS hm4; exact absurd hm4 (Nat.not_lt_zero _)
    | succ n4 ih4 =>
      intro i S pa sh hi hS hm4
      have hdr := difz_rng (a := a) i
      refine V.iload_n (q := 5) F dX7_ofPlates_4 rfl rfl rfl ?_
      refine V.bipush (q := 7) F dX7_ofPlates_5 rfl (by decide) ?_
      refine V.icmp_ge (q := 10) (tgt := 49) F dX7_ofPlates_7 rfl (by decide) (by omega) (fun k7 => ?_) (fun k7 => ?_)
      · refine V.iload_n (q := 50) F dX7_ofPlates_49 rfl rfl rfl ?_
        exact V.iret F T dX7_ofPlates_50 ⟨_, _, iEq (by rw [hS, show i = 16 by omega]; rfl), rfl⟩ [hm, ms, mpa, msh] rfl rfl
      · have J41 : ∀ (x : Int) (pa sh : Int → Int) (hx : x = if w = 3 then a (26160 + i) else if 0 < difz a i then 1 else 0), V X (YX7_ofPlates l G) 0 0 41 [some (.ref hm), some (.int (zI w)), some (.int (zI S)), some (.int (zI i))] [.int (zI x), .int (zI S)] [(hm, .inr (7, [.ref ms, .ref mp, .int (zI kn), .ref mq, .int (zI kp), .ref mt, .int (zI ln), .ref mpa, .ref msh, .ref mo, .ref mtu])), (ms, aJ G 7157 sv), (mpa, aI G 48 pa), (msh, aI G 48 sh)] := by
          intro x pa sh hx
          refine V.iadd (q := 42) F dX7_ofPlates_41 rfl ?_
          refine V.istore_n (q := 43) (lo' := [_, _, _, _]) F dX7_ofPlates_42 rfl rfl (Nat.le_of_ble_eq_true rfl) rfl rfl ?_
          refine V.iinc (q := 46) (lo' := [_, _, _, _]) F dX7_ofPlates_43 rfl rfl (Nat.le_of_ble_eq_true rfl) rfl rfl ?_
          refine V.goto (tgt := 4) F dX7_ofPlates_46 (by decide) ?_
          exact ih4 (i + 1) _ _ _ (by omega) (by have e : pnad a (i + 1) = pnad a i + (if 0 < difz a i then 1 else 0) := sz_succ _ hi.1; rw [sz_succ _ hi.1, e, hS, hx]; omega) (by omega)
        refine V.iload_n (q := 11) F dX7_ofPlates_10 rfl rfl rfl ?_
        refine V.iload_n (q := 12) F dX7_ofPlates_11 rfl rfl rfl ?_
        refine V.iconst (q := 13) F dX7_ofPlates_12 rfl ?_
        refine V.icmp_ne (q := 16) (tgt := 28) F dX7_ofPlates_13 rfl (by decide) (by omega) (fun k13 => ?_) (fun k13 => ?_)
        · refine V.aload_n (q := 29) F dX7_ofPlates_28 rfl rfl rfl ?_
          refine V.iload_n (q := 30) F dX7_ofPlates_29 rfl rfl rfl ?_
          refine V.callV (q := 33) F [0, 1, 2, 3] 0 dX7_ofPlates_30 rfl (c_X7_differs l G hm ms mp mq mt mpa msh mo mtu _ _ _ _ _ _ _ _ hR hI (by omega)) gX7_ofPlates_X7_differs rfl rfl ydX7_differs ⟨Nat.le_of_ble_eq_true rfl, Nat.le_of_ble_eq_true rfl⟩ (ci := 7) rfl rfl rfl rfl (Nat.le_of_ble_eq_true rfl) rfl rfl ⟨Nat.zero_le _, Nat.zero_le _⟩ (kkf (st' := [_, _]) (ws' := [_, _, _, _]) rfl rfl ?_)
          refine V.if_le (q := 36) (tgt := 40) F dX7_ofPlates_33 rfl (by decide) (by omega) (fun k33 => ?_) (fun k33 => ?_)
          · refine V.iconst (q := 41) F dX7_ofPlates_40 rfl ?_
            exact J41 _ _ _ (by omega)
          · refine V.iconst (q := 37) F dX7_ofPlates_36 rfl ?_
            refine V.goto (tgt := 41) F dX7_ofPlates_37 (by decide) ?_
            exact J41 _ _ _ (by omega)
        · refine V.aload_n (q := 17) F dX7_ofPlates_16 rfl rfl rfl ?_
          refine V.sipush (q := 20) F dX7_ofPlates_17 rfl (by decide) ?_
          refine V.iload_n (q := 21) F dX7_ofPlates_20 rfl rfl rfl ?_
          refine V.iadd (q := 22) F dX7_ofPlates_21 rfl ?_
          refine V.callV (q := 25) F [0, 1] 0 dX7_ofPlates_22 rfl (c_X7_num l G hm ms mp mq mt mpa msh mo mtu _ _ _ _ _ (by omega)) gX7_ofPlates_X7_num rfl rfl ydX7_num ⟨Nat.le_of_ble_eq_true rfl, Nat.le_of_ble_eq_true rfl⟩ (ci := 7) rfl rfl rfl rfl (Nat.le_of_ble_eq_true rfl) rfl rfl ⟨Nat.zero_le _, Nat.zero_le _⟩ (kkf (st' := [_, _]) (ws' := [_, _, _, _]) rfl rfl ?_)
          rw [hR.scr (show 0 ≤ i ∧ i < 16 by omega)]
          refine V.goto (tgt := 41) F dX7_ofPlates_25 (by decide) ?_
          exact J41 _ _ _ (by omega)
  exact L4 _ 0 0 _ _ (by omega) (by unfold pnad; rw [sz_self, sz_self]; omega) (Nat.lt_succ_self _)

abbrev YX7_ofDirection (l : Launch) (G : Gx) : Sx := (cX7_ofDirection, 2, RX7, wsX7_ofDirection, rmD 0, l, G)
theorem ydX7_ofDirection : ydOk yX7_ofDirection 1 := by decide +kernel
theorem inX7_ofDirection_X7 : ∀ w ∈ wsX70, w ∈ wsX7_ofDirection := fun _ h => List.mem_cons_of_mem _ (List.mem_append_right _ h)
set_option maxHeartbeats 1000000 in
set_option maxRecDepth 20000 in
theorem c_X7_ofDirection (l : Launch) (G : Gx) (hm ms mp mq mt mpa msh mo mtu : Nat) (a pa : Int → Int) (kn kp ln r d : Int) (hI : Inv a) (h2 : 0 ≤ d ∧ d < 16) : Ct l G yX7_ofDirection wsX7_ofDirection (rmD 0) [.ref hm, .int (zI d)] [(hm, .inr (7, [.ref ms, .ref mp, .int (zI kn), .ref mq, .int (zI kp), .ref mt, .int (zI ln), .ref mpa, .ref msh, .ref mo, .ref mtu])), (mpa, aI G 48 (fil (pthz a r) pa 48))] (Fn (some (.int (zI (hbz a r d 1 100)))) [(hm, .inr (7, [.ref ms, .ref mp, .int (zI kn), .ref mq, .int (zI kp), .ref mt, .int (zI ln), .ref mpa, .ref msh, .ref mo, .ref mtu])), (mpa, aI G 48 (fil (pthz a r) pa 48))]) := by
  refine Ct.intro (cc := cX7_ofDirection) (maxL := 2) (ret := (some .int)) (lo0 := [some (.ref hm), some (.int (zI d))]) (by decide +kernel) rfl ⟨rfl, rfl⟩ (Nat.le_of_ble_eq_true rfl) rfl ?_
  intro X F T
  change Fx X (YX7_ofDirection l G) at F
  change V X (YX7_ofDirection l G) 0 0 0 _ _ _
  refine V.aload_n (q := 1) F dX7_ofDirection_0 rfl rfl rfl ?_
  refine V.get (q := 4) F 0 7 dX7_ofDirection_1 rfl rfl rfl inX7_ofDirection_X7 (by decide) (List.mem_of_getElem? (i := 1) rfl) rfl ?_
  refine V.iconst (q := 5) F dX7_ofDirection_4 rfl ?_
  refine V.iload_n (q := 6) F dX7_ofDirection_5 rfl rfl rfl ?_
  refine V.imul (q := 7) F dX7_ofDirection_6 rfl ?_
  refine V.iald (q := 8) F 1 dX7_ofDirection_7 rfl rfl (by decide) (by omega) ?_
  refine V.aload_n (q := 9) F dX7_ofDirection_8 rfl rfl rfl ?_
  refine V.get (q := 12) F 0 7 dX7_ofDirection_9 rfl rfl rfl inX7_ofDirection_X7 (by decide) (List.mem_of_getElem? (i := 1) rfl) rfl ?_
  refine V.iconst (q := 13) F dX7_ofDirection_12 rfl ?_
  refine V.iload_n (q := 14) F dX7_ofDirection_13 rfl rfl rfl ?_
  refine V.imul (q := 15) F dX7_ofDirection_14 rfl ?_
  refine V.iconst (q := 16) F dX7_ofDirection_15 rfl ?_
  refine V.iadd (q := 17) F dX7_ofDirection_16 rfl ?_
  refine V.iald (q := 18) F 1 dX7_ofDirection_17 rfl rfl (by decide) (by omega) ?_
  refine V.iadd (q := 19) F dX7_ofDirection_18 rfl ?_
  refine V.aload_n (q := 20) F dX7_ofDirection_19 rfl rfl rfl ?_
  refine V.get (q := 23) F 0 7 dX7_ofDirection_20 rfl rfl rfl inX7_ofDirection_X7 (by decide) (List.mem_of_getElem? (i := 1) rfl) rfl ?_
  refine V.iconst (q := 24) F dX7_ofDirection_23 rfl ?_
  refine V.iload_n (q := 25) F dX7_ofDirection_24 rfl rfl rfl ?_
  refine V.imul (q := 26) F dX7_ofDirection_25 rfl ?_
  refine V.iconst (q := 27) F dX7_ofDirection_26 rfl ?_
  refine V.iadd (q := 28) F dX7_ofDirection_27 rfl ?_
  refine V.iald (q := 29) F 1 dX7_ofDirection_28 rfl rfl (by decide) (by omega) ?_
  refine V.iadd (q := 30) F dX7_ofDirection_29 rfl ?_
  exact V.iret F T dX7_ofDirection_30 (fnI (by rw [fil_in _ _ (by omega) (by omega), fil_in _ _ (by omega) (by omega), fil_in _ _ (by omega) (by omega)]; exact dir_sum hI r d) rfl) [hm, mpa] rfl rfl

abbrev YX7_ofKind (l : Launch) (G : Gx) : Sx := (cX7_ofKind, 4, RX7, wsX7_ofKind, rmD 0, l, G)
theorem ydX7_ofKind : ydOk yX7_ofKind 1 := by decide +kernel
theorem inX7_ofKind_X7 : ∀ w ∈ wsX70, w ∈ wsX7_ofKind := fun _ h => List.mem_cons_of_mem _ (List.mem_append_right _ h)
set_option maxHeartbeats 1000000 in
set_option maxRecDepth 20000 in
theorem c_X7_ofKind (l : Launch) (G : Gx) (hm ms mp mq mt mpa msh mo mtu : Nat) (a pa : Int → Int) (kn kp ln r k : Int) (hk : 0 ≤ k ∧ k ≤ 2) : Ct l G yX7_ofKind wsX7_ofKind (rmD 0) [.ref hm, .int (zI k)] [(hm, .inr (7, [.ref ms, .ref mp, .int (zI kn), .ref mq, .int (zI kp), .ref mt, .int (zI ln), .ref mpa, .ref msh, .ref mo, .ref mtu])), (mpa, aI G 48 (fil (pthz a r) pa 48))] (Fn (some (.int (zI (clz a r k)))) [(hm, .inr (7, [.ref ms, .ref mp, .int (zI kn), .ref mq, .int (zI kp), .ref mt, .int (zI ln), .ref mpa, .ref msh, .ref mo, .ref mtu])), (mpa, aI G 48 (fil (pthz a r) pa 48))]) := by
  refine Ct.intro (cc := cX7_ofKind) (maxL := 4) (ret := (some .int)) (lo0 := [some (.ref hm), some (.int (zI k)), none, none]) (by decide +kernel) rfl ⟨rfl, rfl⟩ (Nat.le_of_ble_eq_true rfl) rfl ?_
  intro X F T
  change Fx X (YX7_ofKind l G) at F
  change V X (YX7_ofKind l G) 0 0 0 _ _ _
  refine V.iconst (q := 1) F dX7_ofKind_0 rfl ?_
  refine V.istore_n (q := 2) (lo' := [_, _, _, _]) F dX7_ofKind_1 rfl rfl (Nat.le_of_ble_eq_true rfl) rfl rfl ?_
  refine V.iconst (q := 3) F dX7_ofKind_2 rfl ?_
  refine V.istore_n (q := 4) (lo' := [_, _, _, _]) F dX7_ofKind_3 rfl rfl (Nat.le_of_ble_eq_true rfl) rfl rfl ?_
  have L4 : ∀ (nq : Nat) (i S : Int) (hi : 0 ≤ i ∧ i ≤ 16) (hS : S = sz (fun d => phz a r d k) 0 i), (16 - i).toNat < nq → V X (YX7_ofKind l G) 0 0 4 [some (.ref hm), some (.int (zI k)), some (.int (zI S)), some (.int (zI i))] [] [(hm, .inr (7, [.ref ms, .ref mp, .int (zI kn), .ref mq, .int (zI kp), .ref mt, .int (zI ln), .ref mpa, .ref msh, .ref mo, .ref mtu])), (mpa, aI G 48 (fil (pthz a r) pa 48))] := by
    intro n4
    induction n4 with
    | zero => intro i S hi hS hm4; exact absurd hm4 (Nat.not_lt_zero _)
    | succ n4 ih4 =>
      intro i S hi hS hm4
      refine V.iload_n (q := 5) F dX7_ofKind_4 rfl rfl rfl ?_
      refine V.bipush (q := 7) F dX7_ofKind_5 rfl (by decide) ?_
      refine V.icmp_ge (q := 10) (tgt := 29) F dX7_ofKind_7 rfl (by decide) (by omega) (fun k7 => ?_) (fun k7 => ?_)
      · refine V.iload_n (q := 30) F dX7_ofKind_29 rfl rfl rfl ?_
        exact V.iret F T dX7_ofKind_30 (fnI (by rw [hS, show i = 16 by omega]; rfl) rfl) [hm, mpa] rfl rfl
      · refine V.iload_n (q := 11) F dX7_ofKind_10 rfl rfl rfl ?_
        refine V.aload_n (q := 12) F dX7_ofKind_11 rfl rfl rfl ?_
        refine V.get (q := 15) F 0 7 dX7_ofKind_12 rfl rfl rfl inX7_ofKind_X7 (by decide) (List.mem_of_getElem? (i := 1) rfl) rfl ?_
        refine V.iconst (q := 16) F dX7_ofKind_15 rfl ?_
        refine V.iload_n (q := 17) F dX7_ofKind_16 rfl rfl rfl ?_
        refine V.imul (q := 18) F dX7_ofKind_17 rfl ?_
        refine V.iload_n (q := 19) F dX7_ofKind_18 rfl rfl rfl ?_
        refine V.iadd (q := 20) F dX7_ofKind_19 rfl ?_
        refine V.iald (q := 21) F 1 dX7_ofKind_20 rfl rfl (by decide) (by omega) ?_
        refine V.iadd (q := 22) F dX7_ofKind_21 rfl ?_
        refine V.istore_n (q := 23) (lo' := [_, _, _, _]) F dX7_ofKind_22 rfl rfl (Nat.le_of_ble_eq_true rfl) rfl rfl ?_
        refine V.iinc (q := 26) (lo' := [_, _, _, _]) F dX7_ofKind_23 rfl rfl (Nat.le_of_ble_eq_true rfl) rfl rfl ?_
        refine V.goto (tgt := 4) F dX7_ofKind_26 (by decide) ?_
        exact ih4 (i + 1) _ (by omega) (by rw [sz_succ _ hi.1, ← hS, fil_in _ _ (by omega) (by omega), pth_d hk]) (by omega)
  exact L4 _ 0 0 (by omega) (sz_self _ _).symm (Nat.lt_succ_self _)

abbrev YX7_greatestSpeed (l : Launch) (G : Gx) : Sx := (cX7_greatestSpeed, 5, RX7, wsX7_greatestSpeed, rmD 2, l, G)
theorem ydX7_greatestSpeed : ydOk yX7_greatestSpeed 1 := by decide +kernel
set_option maxHeartbeats 1000000 in
set_option maxRecDepth 20000 in
theorem c_X7_greatestSpeed (l : Launch) (G : Gx) (hm ms mp mq mt mpa msh mo mtu : Nat) (a sv : Int → Int) (kn kp ln r : Int) (hR : Rel a sv) (hI : Inv a) (h1 : 0 ≤ r ∧ r < 16) : Ct l G yX7_greatestSpeed wsX7_greatestSpeed (rmD 2) [.ref hm, .int (zI r)] [(hm, .inr (7, [.ref ms, .ref mp, .int (zI kn), .ref mq, .int (zI kp), .ref mt, .int (zI ln), .ref mpa, .ref msh, .ref mo, .ref mtu])), (ms, aJ G 7157 sv)] (Fn (some (.int (zI (gsz a r 99)))) [(hm, .inr (7, [.ref ms, .ref mp, .int (zI kn), .ref mq, .int (zI kp), .ref mt, .int (zI ln), .ref mpa, .ref msh, .ref mo, .ref mtu])), (ms, aJ G 7157 sv)]) := by
  refine Ct.intro (cc := cX7_greatestSpeed) (maxL := 5) (ret := (some .int)) (lo0 := [some (.ref hm), some (.int (zI r)), none, none, none]) (by decide +kernel) rfl ⟨rfl, rfl⟩ (Nat.le_of_ble_eq_true rfl) rfl ?_
  intro X F T
  change Fx X (YX7_greatestSpeed l G) at F
  change V X (YX7_greatestSpeed l G) 0 0 0 _ _ _
  have hB := hI.bnd
  refine V.bipush (q := 2) F dX7_greatestSpeed_0 rfl (by decide) ?_
  refine V.istore_n (q := 3) (lo' := [_, _, _, _, _]) F dX7_greatestSpeed_2 rfl rfl (Nat.le_of_ble_eq_true rfl) rfl rfl ?_
  refine V.iconst (q := 4) F dX7_greatestSpeed_3 rfl ?_
  refine V.istore_n (q := 5) (lo' := [_, _, _, _, _]) F dX7_greatestSpeed_4 rfl rfl (Nat.le_of_ble_eq_true rfl) rfl rfl ?_
  have L5 : ∀ (nq : Nat) (v m : Int) (hv : 1 ≤ v ∧ v ≤ 100) (hmv : m = gsz a r (v - 1).toNat), (100 - v).toNat < nq → V X (YX7_greatestSpeed l G) 0 0 5 [some (.ref hm), some (.int (zI r)), some (.int (zI m)), some (.int (zI v)), none] [] [(hm, .inr (7, [.ref ms, .ref mp, .int (zI kn), .ref mq, .int (zI kp), .ref mt, .int (zI ln), .ref mpa, .ref msh, .ref mo, .ref mtu])), (ms, aJ G 7157 sv)] := by
    intro n5
    induction n5 with
    | zero => intro v m hv hmv hm5; exact absurd hm5 (Nat.not_lt_zero _)
    | succ n5 ih5 =>
      intro v m hv hmv hm5
      refine V.iload_n (q := 6) F dX7_greatestSpeed_5 rfl rfl rfl ?_
      refine V.bipush (q := 8) F dX7_greatestSpeed_6 rfl (by decide) ?_
      refine V.icmp_gt (q := 11) (tgt := 50) F dX7_greatestSpeed_8 rfl (by decide) (by omega) (fun k8 => ?_) (fun k8 => ?_)
      · refine V.iload_n (q := 51) F dX7_greatestSpeed_50 rfl rfl rfl ?_
        exact V.iret F T dX7_greatestSpeed_51 (fnI (by rw [hmv, show v = 100 by omega]; rfl) rfl) [hm, ms] rfl rfl
      · refine V.iconst (q := 12) F dX7_greatestSpeed_11 rfl ?_
        refine V.istore (q := 14) (lo' := [_, _, _, _, _]) F dX7_greatestSpeed_12 rfl (Nat.le_of_ble_eq_true rfl) rfl rfl ?_
        have L14 : ∀ (nq : Nat) (d m2 : Int) (hd : 0 ≤ d ∧ d ≤ 16) (hm2 : m2 = if 0 < sz (fun d => a (r * 1584 + d * 99 + v - 1)) 0 d then v else gsz a r (v - 1).toNat), (16 - d).toNat < nq → V X (YX7_greatestSpeed l G) 0 0 14 [some (.ref hm), some (.int (zI r)), some (.int (zI m2)), some (.int (zI v)), some (.int (zI d))] [] [(hm, .inr (7, [.ref ms, .ref mp, .int (zI kn), .ref mq, .int (zI kp), .ref mt, .int (zI ln), .ref mpa, .ref msh, .ref mo, .ref mtu])), (ms, aJ G 7157 sv)] := by
          intro n14
          induction n14 with
          | zero => intro d m2 hd hm2 hm14; exact absurd hm14 (Nat.not_lt_zero _)
          | succ n14 ih14 =>
            intro d m2 hd hm2 hm14
            have hsn : 0 ≤ sz (fun d => a (r * 1584 + d * 99 + v - 1)) 0 d := sz_nonneg (fun j _ _ => hI.1 _)
            have hbd := fun h : d < 16 => hB (r * 1584 + d * 99 + v - 1) (by omega) (by omega)
            refine V.iload (q := 16) F dX7_greatestSpeed_14 rfl rfl ?_
            refine V.bipush (q := 18) F dX7_greatestSpeed_16 rfl (by decide) ?_
            refine V.icmp_ge (q := 21) (tgt := 44) F dX7_greatestSpeed_18 rfl (by decide) (by omega) (fun k18 => ?_) (fun k18 => ?_)
            · refine V.iinc (q := 47) (lo' := [_, _, _, _, _]) F dX7_greatestSpeed_44 rfl rfl (Nat.le_of_ble_eq_true rfl) rfl rfl ?_
              refine V.goto (tgt := 5) F dX7_greatestSpeed_47 (by decide) ?_
              refine V.mask [true, true, true, true, false] (lo' := [_, _, _, _, _]) rfl ?_
              exact ih5 (v + 1) _ (by omega) (by rw [show v + 1 - 1 = v by omega, gsz_s a r hv.1, hm2, show d = 16 by omega]; rfl) (by omega)
            · have J37 : ∀ (x : Int) (hx : x = if 0 < a (r * 1584 + d * 99 + v - 1) then v else m2), V X (YX7_greatestSpeed l G) 0 0 37 [some (.ref hm), some (.int (zI r)), some (.int (zI m2)), some (.int (zI v)), some (.int (zI d))] [.int (zI x)] [(hm, .inr (7, [.ref ms, .ref mp, .int (zI kn), .ref mq, .int (zI kp), .ref mt, .int (zI ln), .ref mpa, .ref msh, .ref mo, .ref mtu])), (ms, aJ G 7157 sv)] := by
                intro x hx
                refine V.istore_n (q := 38) (lo' := [_, _, _, _, _]) F dX7_greatestSpeed_37 rfl rfl (Nat.le_of_ble_eq_true rfl) rfl rfl ?_
                refine V.iinc (q := 41) (lo' := [_, _, _, _, _]) F dX7_greatestSpeed_38 rfl rfl (Nat.le_of_ble_eq_true rfl) rfl rfl ?_
                refine V.goto (tgt := 14) F dX7_greatestSpeed_41 (by decide) ?_
                exact ih14 (d + 1) _ (by omega) (by rw [sz_succ _ hd.1, hx, hm2]; omega) (by omega)
              refine V.aload_n (q := 22) F dX7_greatestSpeed_21 rfl rfl rfl ?_
              refine V.iload_n (q := 23) F dX7_greatestSpeed_22 rfl rfl rfl ?_
              refine V.iload (q := 25) F dX7_greatestSpeed_23 rfl rfl ?_
              refine V.iload_n (q := 26) F dX7_greatestSpeed_25 rfl rfl rfl ?_
              refine V.callV (q := 29) F [0, 1] 0 dX7_greatestSpeed_26 rfl (c_X7_at l G hm ms mp mq mt mpa msh mo mtu _ _ _ _ _ _ _ _ hR hB (by omega) (by omega) (by omega)) gX7_greatestSpeed_X7_at rfl rfl ydX7_at ⟨Nat.le_of_ble_eq_true rfl, Nat.le_of_ble_eq_true rfl⟩ (ci := 7) rfl rfl rfl rfl (Nat.le_of_ble_eq_true rfl) rfl rfl ⟨Nat.zero_le _, Nat.zero_le _⟩ (kkf (st' := [_]) (ws' := [_, _]) rfl rfl ?_)
              refine V.if_le (q := 32) (tgt := 36) F dX7_greatestSpeed_29 rfl (by decide) (by omega) (fun k29 => ?_) (fun k29 => ?_)
              · refine V.iload_n (q := 37) F dX7_greatestSpeed_36 rfl rfl rfl ?_
                exact J37 _ (by omega)
              · refine V.iload_n (q := 33) F dX7_greatestSpeed_32 rfl rfl rfl ?_
                refine V.goto (tgt := 37) F dX7_greatestSpeed_33 (by decide) ?_
                exact J37 _ (by omega)
        exact L14 _ 0 _ (by omega) (by rw [sz_self, if_neg (Int.lt_irrefl 0), hmv]) (Nat.lt_succ_self _)
  refine V.mask [true, true, true, true, false] (lo' := [_, _, _, _, _]) rfl ?_
  exact L5 _ 1 (-5) (by omega) rfl (Nat.lt_succ_self _)

abbrev YX7_meanSpeed (l : Launch) (G : Gx) : Sx := (cX7_meanSpeed, 6, RX7, wsX7_meanSpeed, rmD 3, l, G)
theorem ydX7_meanSpeed : ydOk yX7_meanSpeed 1 := by decide +kernel
set_option maxHeartbeats 1000000 in
set_option maxRecDepth 20000 in
theorem c_X7_meanSpeed (l : Launch) (G : Gx) (hm ms mp mq mt mpa msh mo mtu : Nat) (a sv pa : Int → Int) (kn kp ln r : Int) (hR : Rel a sv) (hI : Inv a) (h1 : 0 ≤ r ∧ r < 16) : Ct l G yX7_meanSpeed wsX7_meanSpeed (rmD 3) [.ref hm, .int (zI r)] [(hm, .inr (7, [.ref ms, .ref mp, .int (zI kn), .ref mq, .int (zI kp), .ref mt, .int (zI ln), .ref mpa, .ref msh, .ref mo, .ref mtu])), (ms, aJ G 7157 sv), (mpa, aI G 48 pa)] (Fn (some (.int (zI (meanz a r)))) [(hm, .inr (7, [.ref ms, .ref mp, .int (zI kn), .ref mq, .int (zI kp), .ref mt, .int (zI ln), .ref mpa, .ref msh, .ref mo, .ref mtu])), (ms, aJ G 7157 sv), (mpa, aI G 48 (fil (pthz a r) pa 48))]) := by
  refine Ct.intro (cc := cX7_meanSpeed) (maxL := 6) (ret := (some .int)) (lo0 := [some (.ref hm), some (.int (zI r)), none, none, none, none]) (by decide +kernel) rfl ⟨rfl, rfl⟩ (Nat.le_of_ble_eq_true rfl) rfl ?_
  intro X F T
  change Fx X (YX7_meanSpeed l G) at F
  change V X (YX7_meanSpeed l G) 0 0 0 _ _ _
  have hw := hI.w h1
  have hB := hI.bnd
  refine V.aload_n (q := 1) F dX7_meanSpeed_0 rfl rfl rfl ?_
  refine V.iload_n (q := 2) F dX7_meanSpeed_1 rfl rfl rfl ?_
  refine V.callV (q := 5) F [0, 1, 2] 0 dX7_meanSpeed_2 rfl (c_X7_looks l G hm ms mp mq mt mpa msh mo mtu _ _ _ _ _ _ _ hR hI (by omega)) gX7_meanSpeed_X7_looks rfl rfl ydX7_looks ⟨Nat.le_of_ble_eq_true rfl, Nat.le_of_ble_eq_true rfl⟩ (ci := 7) rfl rfl rfl rfl (Nat.le_of_ble_eq_true rfl) rfl rfl ⟨Nat.zero_le _, Nat.zero_le _⟩ (kkf (st' := [_]) (ws' := [_, _, _]) rfl rfl ?_)
  refine V.istore_n (q := 6) (lo' := [_, _, _, _, _, _]) F dX7_meanSpeed_5 rfl rfl (Nat.le_of_ble_eq_true rfl) rfl rfl ?_
  refine V.iconst (q := 7) F dX7_meanSpeed_6 rfl ?_
  refine V.istore_n (q := 8) (lo' := [_, _, _, _, _, _]) F dX7_meanSpeed_7 rfl rfl (Nat.le_of_ble_eq_true rfl) rfl rfl ?_
  refine V.iconst (q := 9) F dX7_meanSpeed_8 rfl ?_
  refine V.istore (q := 11) (lo' := [_, _, _, _, _, _]) F dX7_meanSpeed_9 rfl (Nat.le_of_ble_eq_true rfl) rfl rfl ?_
  have L11 : ∀ (nq : Nat) (v S : Int) (hv : 1 ≤ v ∧ v ≤ 100) (hS : S = wsum a r v), (100 - v).toNat < nq → V X (YX7_meanSpeed l G) 0 0 11 [some (.ref hm), some (.int (zI r)), some (.int (zI (a (25344 + r)))), some (.int (zI S)), some (.int (zI v)), none] [] [(hm, .inr (7, [.ref ms, .ref mp, .int (zI kn), .ref mq, .int (zI kp), .ref mt, .int (zI ln), .ref mpa, .ref msh, .ref mo, .ref mtu])), (ms, aJ G 7157 sv), (mpa, aI G 48 (fil (pthz a r) pa 48))] := by
    intro n11
    induction n11 with
    | zero => intro v S hv hS hm11; exact absurd hm11 (Nat.not_lt_zero _)
    | succ n11 ih11 =>
      intro v S hv hS hm11
      refine V.iload (q := 13) F dX7_meanSpeed_11 rfl rfl ?_
      refine V.bipush (q := 15) F dX7_meanSpeed_13 rfl (by decide) ?_
      refine V.icmp_gt (q := 18) (tgt := 55) F dX7_meanSpeed_15 rfl (by decide) (by omega) (fun k15 => ?_) (fun k15 => ?_)
      · have he : v = 100 := by omega
        subst he
        have hwr := wsum_rng hI h1 (i := 100) (by omega)
        refine V.iload_n (q := 56) F dX7_meanSpeed_55 rfl rfl rfl ?_
        refine V.if_ne (q := 59) (tgt := 64) F dX7_meanSpeed_56 rfl (by decide) (by omega) (fun k56 => ?_) (fun k56 => ?_)
        · refine V.iload_n (q := 65) F dX7_meanSpeed_64 rfl rfl rfl ?_
          refine V.iload_n (q := 66) F dX7_meanSpeed_65 rfl rfl rfl ?_
          refine V.idiv (q := 67) F dX7_meanSpeed_66 rfl ⟨by omega, by omega⟩ ?_
          exact V.iret F T dX7_meanSpeed_67 (fnI (by unfold meanz; first | rw [if_pos (by omega)] | rw [if_neg (by omega), hS]) rfl) [hm, ms, mpa] rfl rfl
        · refine V.bipush (q := 61) F dX7_meanSpeed_59 rfl (by decide) ?_
          refine V.goto (tgt := 67) F dX7_meanSpeed_61 (by decide) ?_
          exact V.iret F T dX7_meanSpeed_67 (fnI (by unfold meanz; first | rw [if_pos (by omega)] | rw [if_neg (by omega), hS]) rfl) [hm, ms, mpa] rfl rfl
      · refine V.iconst (q := 19) F dX7_meanSpeed_18 rfl ?_
        refine V.istore (q := 21) (lo' := [_, _, _, _, _, _]) F dX7_meanSpeed_19 rfl (Nat.le_of_ble_eq_true rfl) rfl rfl ?_
        have L21 : ∀ (nq : Nat) (d S2 : Int) (hd : 0 ≤ d ∧ d ≤ 16) (hS2 : S2 = wsum a r v + v * sz (fun d => a (r * 1584 + d * 99 + v - 1)) 0 d), (16 - d).toNat < nq → V X (YX7_meanSpeed l G) 0 0 21 [some (.ref hm), some (.int (zI r)), some (.int (zI (a (25344 + r)))), some (.int (zI S2)), some (.int (zI v)), some (.int (zI d))] [] [(hm, .inr (7, [.ref ms, .ref mp, .int (zI kn), .ref mq, .int (zI kp), .ref mt, .int (zI ln), .ref mpa, .ref msh, .ref mo, .ref mtu])), (ms, aJ G 7157 sv), (mpa, aI G 48 (fil (pthz a r) pa 48))] := by
          intro n21
          induction n21 with
          | zero => intro d S2 hd hS2 hm21; exact absurd hm21 (Nat.not_lt_zero _)
          | succ n21 ih21 =>
            intro d S2 hd hS2 hm21
            refine V.iload (q := 23) F dX7_meanSpeed_21 rfl rfl ?_
            refine V.bipush (q := 25) F dX7_meanSpeed_23 rfl (by decide) ?_
            refine V.icmp_ge (q := 28) (tgt := 49) F dX7_meanSpeed_25 rfl (by decide) (by omega) (fun k25 => ?_) (fun k25 => ?_)
            · refine V.iinc (q := 52) (lo' := [_, _, _, _, _, _]) F dX7_meanSpeed_49 rfl rfl (Nat.le_of_ble_eq_true rfl) rfl rfl ?_
              refine V.goto (tgt := 11) F dX7_meanSpeed_52 (by decide) ?_
              refine V.mask [true, true, true, true, true, false] (lo' := [_, _, _, _, _, _]) rfl ?_
              exact ih11 (v + 1) _ (by omega) (by unfold wsum; rw [sz_succ _ hv.1]; show S2 = wsum a r v + _; rw [hS2, show d = 16 by omega]; rfl) (by omega)
            · refine V.iload_n (q := 29) F dX7_meanSpeed_28 rfl rfl rfl ?_
              refine V.iload (q := 31) F dX7_meanSpeed_29 rfl rfl ?_
              refine V.aload_n (q := 32) F dX7_meanSpeed_31 rfl rfl rfl ?_
              refine V.iload_n (q := 33) F dX7_meanSpeed_32 rfl rfl rfl ?_
              refine V.iload (q := 35) F dX7_meanSpeed_33 rfl rfl ?_
              refine V.iload (q := 37) F dX7_meanSpeed_35 rfl rfl ?_
              refine V.callV (q := 40) F [0, 1] 0 dX7_meanSpeed_37 rfl (c_X7_at l G hm ms mp mq mt mpa msh mo mtu _ _ _ _ _ _ _ _ hR hB (by omega) (by omega) (by omega)) gX7_meanSpeed_X7_at rfl rfl ydX7_at ⟨Nat.le_of_ble_eq_true rfl, Nat.le_of_ble_eq_true rfl⟩ (ci := 7) rfl rfl rfl rfl (Nat.le_of_ble_eq_true rfl) rfl rfl ⟨Nat.zero_le _, Nat.zero_le _⟩ (kkf (st' := [_, _, _]) (ws' := [_, _, _]) rfl rfl ?_)
              refine V.imul (q := 41) F dX7_meanSpeed_40 rfl ?_
              refine V.iadd (q := 42) F dX7_meanSpeed_41 rfl ?_
              refine V.istore_n (q := 43) (lo' := [_, _, _, _, _, _]) F dX7_meanSpeed_42 rfl rfl (Nat.le_of_ble_eq_true rfl) rfl rfl ?_
              refine V.iinc (q := 46) (lo' := [_, _, _, _, _, _]) F dX7_meanSpeed_43 rfl rfl (Nat.le_of_ble_eq_true rfl) rfl rfl ?_
              refine V.goto (tgt := 21) F dX7_meanSpeed_46 (by decide) ?_
              exact ih21 (d + 1) _ (by omega) (by rw [sz_succ _ hd.1, hS2, Int.mul_add, Int.add_assoc]) (by omega)
        exact L21 _ 0 _ (by omega) (by rw [sz_self, Int.mul_zero, Int.add_zero, hS]) (Nat.lt_succ_self _)
  refine V.mask [true, true, true, true, true, false] (lo' := [_, _, _, _, _, _]) rfl ?_
  exact L11 _ 1 0 (by omega) (sz_self _ _).symm (Nat.lt_succ_self _)

abbrev YX7_prevailing (l : Launch) (G : Gx) : Sx := (cX7_prevailing, 5, RX7, wsX7_prevailing, rmD 3, l, G)
theorem ydX7_prevailing : ydOk yX7_prevailing 1 := by decide +kernel
set_option maxHeartbeats 1000000 in
set_option maxRecDepth 20000 in
theorem c_X7_prevailing (l : Launch) (G : Gx) (hm ms mp mq mt mpa msh mo mtu : Nat) (a sv pa : Int → Int) (kn kp ln r : Int) (hR : Rel a sv) (hI : Inv a) (h1 : 0 ≤ r ∧ r < 16) : Ct l G yX7_prevailing wsX7_prevailing (rmD 3) [.ref hm, .int (zI r)] [(hm, .inr (7, [.ref ms, .ref mp, .int (zI kn), .ref mq, .int (zI kp), .ref mt, .int (zI ln), .ref mpa, .ref msh, .ref mo, .ref mtu])), (ms, aJ G 7157 sv), (mpa, aI G 48 pa)] (Fn (some (.int (zI (prevz a r)))) [(hm, .inr (7, [.ref ms, .ref mp, .int (zI kn), .ref mq, .int (zI kp), .ref mt, .int (zI ln), .ref mpa, .ref msh, .ref mo, .ref mtu])), (ms, aJ G 7157 sv), (mpa, aI G 48 (fil (pthz a r) pa 48))]) := by
  refine Ct.intro (cc := cX7_prevailing) (maxL := 5) (ret := (some .int)) (lo0 := [some (.ref hm), some (.int (zI r)), none, none, none]) (by decide +kernel) rfl ⟨rfl, rfl⟩ (Nat.le_of_ble_eq_true rfl) rfl ?_
  intro X F T
  change Fx X (YX7_prevailing l G) at F
  change V X (YX7_prevailing l G) 0 0 0 _ _ _
  have hw := hI.w h1
  have hpe := prevz_eq hI h1
  refine V.aload_n (q := 1) F dX7_prevailing_0 rfl rfl rfl ?_
  refine V.iload_n (q := 2) F dX7_prevailing_1 rfl rfl rfl ?_
  refine V.callV (q := 5) F [0, 1, 2] 0 dX7_prevailing_2 rfl (c_X7_looks l G hm ms mp mq mt mpa msh mo mtu _ _ _ _ _ _ _ hR hI (by omega)) gX7_prevailing_X7_looks rfl rfl ydX7_looks ⟨Nat.le_of_ble_eq_true rfl, Nat.le_of_ble_eq_true rfl⟩ (ci := 7) rfl rfl rfl rfl (Nat.le_of_ble_eq_true rfl) rfl rfl ⟨Nat.zero_le _, Nat.zero_le _⟩ (kkf (st' := [_]) (ws' := [_, _, _]) rfl rfl ?_)
  refine V.istore_n (q := 6) (lo' := [_, _, _, _, _]) F dX7_prevailing_5 rfl rfl (Nat.le_of_ble_eq_true rfl) rfl rfl ?_
  refine V.iconst (q := 7) F dX7_prevailing_6 rfl ?_
  refine V.istore_n (q := 8) (lo' := [_, _, _, _, _]) F dX7_prevailing_7 rfl rfl (Nat.le_of_ble_eq_true rfl) rfl rfl ?_
  refine V.iconst (q := 9) F dX7_prevailing_8 rfl ?_
  refine V.istore (q := 11) (lo' := [_, _, _, _, _]) F dX7_prevailing_9 rfl (Nat.le_of_ble_eq_true rfl) rfl rfl ?_
  have L11 : ∀ (nq : Nat) (d b : Int) (hd : 1 ≤ d ∧ d ≤ 16) (hb : b = bmz (fun d => hbz a r d 1 100) d.toNat) (hb3 : 0 ≤ b ∧ b < 16), (16 - d).toNat < nq → V X (YX7_prevailing l G) 0 0 11 [some (.ref hm), some (.int (zI r)), some (.int (zI (a (25344 + r)))), some (.int (zI b)), some (.int (zI d))] [] [(hm, .inr (7, [.ref ms, .ref mp, .int (zI kn), .ref mq, .int (zI kp), .ref mt, .int (zI ln), .ref mpa, .ref msh, .ref mo, .ref mtu])), (ms, aJ G 7157 sv), (mpa, aI G 48 (fil (pthz a r) pa 48))] := by
    intro n11
    induction n11 with
    | zero => intro d b hd hb hb3 hm11; exact absurd hm11 (Nat.not_lt_zero _)
    | succ n11 ih11 =>
      intro d b hd hb hb3 hm11
      have hx1 := fun h : d < 16 => dirH_rng hI h1 (d := d) (by omega)
      have hx2 := dirH_rng hI h1 (d := b) hb3
      refine V.iload (q := 13) F dX7_prevailing_11 rfl rfl ?_
      refine V.bipush (q := 15) F dX7_prevailing_13 rfl (by decide) ?_
      refine V.icmp_ge (q := 18) (tgt := 45) F dX7_prevailing_15 rfl (by decide) (by omega) (fun k15 => ?_) (fun k15 => ?_)
      · refine V.iload_n (q := 46) F dX7_prevailing_45 rfl rfl rfl ?_
        refine V.if_ne (q := 49) (tgt := 54) F dX7_prevailing_46 rfl (by decide) (by omega) (fun k46 => ?_) (fun k46 => ?_)
        · refine V.iload_n (q := 55) F dX7_prevailing_54 rfl rfl rfl ?_
          exact V.iret F T dX7_prevailing_55 (fnI (by rw [hpe]; first | rw [if_pos (by omega)] | rw [if_neg (by omega), hb, show d.toNat = 16 by omega]) rfl) [hm, ms, mpa] rfl rfl
        · refine V.bipush (q := 51) F dX7_prevailing_49 rfl (by decide) ?_
          refine V.goto (tgt := 55) F dX7_prevailing_51 (by decide) ?_
          exact V.iret F T dX7_prevailing_55 (fnI (by rw [hpe]; first | rw [if_pos (by omega)] | rw [if_neg (by omega), hb, show d.toNat = 16 by omega]) rfl) [hm, ms, mpa] rfl rfl
      · have J38 : ∀ (x : Int) (hx : x = if hbz a r b 1 100 < hbz a r d 1 100 then d else b), V X (YX7_prevailing l G) 0 0 38 [some (.ref hm), some (.int (zI r)), some (.int (zI (a (25344 + r)))), some (.int (zI b)), some (.int (zI d))] [.int (zI x)] [(hm, .inr (7, [.ref ms, .ref mp, .int (zI kn), .ref mq, .int (zI kp), .ref mt, .int (zI ln), .ref mpa, .ref msh, .ref mo, .ref mtu])), (ms, aJ G 7157 sv), (mpa, aI G 48 (fil (pthz a r) pa 48))] := by
          intro x hx
          refine V.istore_n (q := 39) (lo' := [_, _, _, _, _]) F dX7_prevailing_38 rfl rfl (Nat.le_of_ble_eq_true rfl) rfl rfl ?_
          refine V.iinc (q := 42) (lo' := [_, _, _, _, _]) F dX7_prevailing_39 rfl rfl (Nat.le_of_ble_eq_true rfl) rfl rfl ?_
          refine V.goto (tgt := 11) F dX7_prevailing_42 (by decide) ?_
          exact ih11 (d + 1) _ (by omega) (by rw [bmz_s (by omega), ← hb]; exact hx) (by omega) (by omega)
        refine V.aload_n (q := 19) F dX7_prevailing_18 rfl rfl rfl ?_
        refine V.iload (q := 21) F dX7_prevailing_19 rfl rfl ?_
        refine V.callV (q := 24) F [0, 2] 0 dX7_prevailing_21 rfl (c_X7_ofDirection l G hm ms mp mq mt mpa msh mo mtu _ _ _ _ _ _ _ hI (by omega)) gX7_prevailing_X7_ofDirection rfl rfl ydX7_ofDirection ⟨Nat.le_of_ble_eq_true rfl, Nat.le_of_ble_eq_true rfl⟩ (ci := 7) rfl rfl rfl rfl (Nat.le_of_ble_eq_true rfl) rfl rfl ⟨Nat.zero_le _, Nat.zero_le _⟩ (kkf (st' := [_]) (ws' := [_, _, _]) rfl rfl ?_)
        refine V.aload_n (q := 25) F dX7_prevailing_24 rfl rfl rfl ?_
        refine V.iload_n (q := 26) F dX7_prevailing_25 rfl rfl rfl ?_
        refine V.callV (q := 29) F [0, 2] 0 dX7_prevailing_26 rfl (c_X7_ofDirection l G hm ms mp mq mt mpa msh mo mtu _ _ _ _ _ _ _ hI (by omega)) gX7_prevailing_X7_ofDirection rfl rfl ydX7_ofDirection ⟨Nat.le_of_ble_eq_true rfl, Nat.le_of_ble_eq_true rfl⟩ (ci := 7) rfl rfl rfl rfl (Nat.le_of_ble_eq_true rfl) rfl rfl ⟨Nat.zero_le _, Nat.zero_le _⟩ (kkf (st' := [_, _]) (ws' := [_, _, _]) rfl rfl ?_)
        refine V.icmp_le (q := 32) (tgt := 37) F dX7_prevailing_29 rfl (by decide) (by omega) (fun k29 => ?_) (fun k29 => ?_)
        · refine V.iload_n (q := 38) F dX7_prevailing_37 rfl rfl rfl ?_
          exact J38 _ (by omega)
        · refine V.iload (q := 34) F dX7_prevailing_32 rfl rfl ?_
          refine V.goto (tgt := 38) F dX7_prevailing_34 (by decide) ?_
          exact J38 _ (by omega)
  exact L11 _ 1 0 (by omega) (by rw [show (1 : Int).toNat = 0 + 1 from rfl, bmz, bmz]; show (0 : Int) = if hbz a r 0 1 100 < hbz a r 0 1 100 then 0 else 0; rw [if_neg (Int.lt_irrefl _)]) (by omega) (Nat.lt_succ_self _)

def rOf (a : Int → Int) (r w : Int) : Int := if w = 0 then a (25344 + r) + a (25360 + r) else if w = 1 then a (25344 + r) else if w = 2 then a (25360 + r) else if w = 3 then cshz a r else if w = 4 then gsz a r 99 else if w = 5 then meanz a r else if 6 ≤ w ∧ w ≤ 8 then clz a r (w - 6) else prevz a r

abbrev YX7_ofRose (l : Launch) (G : Gx) : Sx := (cX7_ofRose, 4, RX7, wsX7_ofRose, rmD 5, l, G)
theorem ydX7_ofRose : ydOk yX7_ofRose 2 := by decide +kernel
set_option maxHeartbeats 1000000 in
set_option maxRecDepth 20000 in
theorem c_X7_ofRose (l : Launch) (G : Gx) (hm ms mp mq mt mpa msh mo mtu : Nat) (a sv pa : Int → Int) (kn kp ln r w : Int) (hR : Rel a sv) (hI : Inv a) (h1 : 0 ≤ r ∧ r < 16) (h2 : 0 ≤ w ∧ w ≤ 9) : Ct l G yX7_ofRose wsX7_ofRose (rmD 5) [.ref hm, .int (zI r), .int (zI w)] [(hm, .inr (7, [.ref ms, .ref mp, .int (zI kn), .ref mq, .int (zI kp), .ref mt, .int (zI ln), .ref mpa, .ref msh, .ref mo, .ref mtu])), (ms, aJ G 7157 sv), (mpa, aI G 48 pa)] (M3p G hm ms mp mq mt mpa msh mo mtu sv kn kp ln (rOf a r w)) := by
  refine Ct.intro (cc := cX7_ofRose) (maxL := 4) (ret := (some .int)) (lo0 := [some (.ref hm), some (.int (zI r)), some (.int (zI w)), none]) (by decide +kernel) rfl ⟨rfl, rfl⟩ (Nat.le_of_ble_eq_true rfl) rfl ?_
  intro X F T
  change Fx X (YX7_ofRose l G) at F
  change V X (YX7_ofRose l G) 0 0 0 _ _ _
  refine V.aload_n (q := 1) F dX7_ofRose_0 rfl rfl rfl ?_
  refine V.iload_n (q := 2) F dX7_ofRose_1 rfl rfl rfl ?_
  refine V.callV (q := 5) F [0, 1, 2] 0 dX7_ofRose_2 rfl (c_X7_looks l G hm ms mp mq mt mpa msh mo mtu _ _ _ _ _ _ _ hR hI (by omega)) gX7_ofRose_X7_looks rfl rfl ydX7_looks ⟨Nat.le_of_ble_eq_true rfl, Nat.le_of_ble_eq_true rfl⟩ (ci := 7) rfl rfl rfl rfl (Nat.le_of_ble_eq_true rfl) rfl rfl ⟨Nat.zero_le _, Nat.zero_le _⟩ (kkf (st' := [_]) (ws' := [_, _, _]) rfl rfl ?_)
  refine V.istore_n (q := 6) (lo' := [_, _, _, _]) F dX7_ofRose_5 rfl rfl (Nat.le_of_ble_eq_true rfl) rfl rfl ?_
  refine V.iload_n (q := 7) F dX7_ofRose_6 rfl rfl rfl ?_
  rcases (show w = 0 ∨ w = 1 ∨ w = 2 ∨ w = 3 ∨ w = 4 ∨ w = 5 ∨ w = 6 ∨ w = 7 ∨ w = 8 ∨ (w < 0 ∨ 8 < w) by omega) with rfl | rfl | rfl | rfl | rfl | rfl | rfl | rfl | rfl | hsw
  · refine V.tswIn (tgt := 56) F dX7_ofRose_7 (by decide) (by decide) (by decide) rfl (by decide) ?_
    refine V.iload_n (q := 57) F dX7_ofRose_56 rfl rfl rfl ?_
    refine V.aload_n (q := 58) F dX7_ofRose_57 rfl rfl rfl ?_
    refine V.iload_n (q := 59) F dX7_ofRose_58 rfl rfl rfl ?_
    refine V.callV (q := 62) F [0, 1] 0 dX7_ofRose_59 rfl (c_X7_calmOf l G hm ms mp mq mt mpa msh mo mtu _ _ _ _ _ _ hR (by omega)) gX7_ofRose_X7_calmOf rfl rfl ydX7_calmOf ⟨Nat.le_of_ble_eq_true rfl, Nat.le_of_ble_eq_true rfl⟩ (ci := 7) rfl rfl rfl rfl (Nat.le_of_ble_eq_true rfl) rfl rfl ⟨Nat.zero_le _, Nat.zero_le _⟩ (kkf (st' := [_, _]) (ws' := [_, _, _]) rfl rfl ?_)
    refine V.iadd (q := 63) F dX7_ofRose_62 rfl ?_
    exact V.iret F T dX7_ofRose_63 ⟨_, iEq (by unfold rOf; first | omega | (simp; done) | (simp; omega)), rfl⟩ [hm, ms, mpa] rfl rfl
  · refine V.tswIn (tgt := 64) F dX7_ofRose_7 (by decide) (by decide) (by decide) rfl (by decide) ?_
    refine V.iload_n (q := 65) F dX7_ofRose_64 rfl rfl rfl ?_
    exact V.iret F T dX7_ofRose_65 ⟨_, iEq (by unfold rOf; first | omega | (simp; done) | (simp; omega)), rfl⟩ [hm, ms, mpa] rfl rfl
  · refine V.tswIn (tgt := 66) F dX7_ofRose_7 (by decide) (by decide) (by decide) rfl (by decide) ?_
    refine V.aload_n (q := 67) F dX7_ofRose_66 rfl rfl rfl ?_
    refine V.iload_n (q := 68) F dX7_ofRose_67 rfl rfl rfl ?_
    refine V.callV (q := 71) F [0, 1] 0 dX7_ofRose_68 rfl (c_X7_calmOf l G hm ms mp mq mt mpa msh mo mtu _ _ _ _ _ _ hR (by omega)) gX7_ofRose_X7_calmOf rfl rfl ydX7_calmOf ⟨Nat.le_of_ble_eq_true rfl, Nat.le_of_ble_eq_true rfl⟩ (ci := 7) rfl rfl rfl rfl (Nat.le_of_ble_eq_true rfl) rfl rfl ⟨Nat.zero_le _, Nat.zero_le _⟩ (kkf (st' := [_]) (ws' := [_, _, _]) rfl rfl ?_)
    exact V.iret F T dX7_ofRose_71 ⟨_, iEq (by unfold rOf; first | omega | (simp; done) | (simp; omega)), rfl⟩ [hm, ms, mpa] rfl rfl
  · refine V.tswIn (tgt := 72) F dX7_ofRose_7 (by decide) (by decide) (by decide) rfl (by decide) ?_
    refine V.aload_n (q := 73) F dX7_ofRose_72 rfl rfl rfl ?_
    refine V.iload_n (q := 74) F dX7_ofRose_73 rfl rfl rfl ?_
    refine V.callV (q := 77) F [0, 1, 2] 0 dX7_ofRose_74 rfl (c_X7_calmShare l G hm ms mp mq mt mpa msh mo mtu _ _ _ _ _ _ _ hR hI (by omega)) gX7_ofRose_X7_calmShare rfl rfl ydX7_calmShare ⟨Nat.le_of_ble_eq_true rfl, Nat.le_of_ble_eq_true rfl⟩ (ci := 7) rfl rfl rfl rfl (Nat.le_of_ble_eq_true rfl) rfl rfl ⟨Nat.zero_le _, Nat.zero_le _⟩ (kkf (st' := [_]) (ws' := [_, _, _]) rfl rfl ?_)
    exact V.iret F T dX7_ofRose_77 ⟨_, iEq (by unfold rOf; first | omega | (simp; done) | (simp; omega)), rfl⟩ [hm, ms, mpa] rfl rfl
  · refine V.tswIn (tgt := 78) F dX7_ofRose_7 (by decide) (by decide) (by decide) rfl (by decide) ?_
    refine V.aload_n (q := 79) F dX7_ofRose_78 rfl rfl rfl ?_
    refine V.iload_n (q := 80) F dX7_ofRose_79 rfl rfl rfl ?_
    refine V.callV (q := 83) F [0, 1] 0 dX7_ofRose_80 rfl (c_X7_greatestSpeed l G hm ms mp mq mt mpa msh mo mtu _ _ _ _ _ _ hR hI (by omega)) gX7_ofRose_X7_greatestSpeed rfl rfl ydX7_greatestSpeed ⟨Nat.le_of_ble_eq_true rfl, Nat.le_of_ble_eq_true rfl⟩ (ci := 7) rfl rfl rfl rfl (Nat.le_of_ble_eq_true rfl) rfl rfl ⟨Nat.zero_le _, Nat.zero_le _⟩ (kkf (st' := [_]) (ws' := [_, _, _]) rfl rfl ?_)
    exact V.iret F T dX7_ofRose_83 ⟨_, iEq (by unfold rOf; first | omega | (simp; done) | (simp; omega)), rfl⟩ [hm, ms, mpa] rfl rfl
  · refine V.tswIn (tgt := 84) F dX7_ofRose_7 (by decide) (by decide) (by decide) rfl (by decide) ?_
    refine V.aload_n (q := 85) F dX7_ofRose_84 rfl rfl rfl ?_
    refine V.iload_n (q := 86) F dX7_ofRose_85 rfl rfl rfl ?_
    refine V.callV (q := 89) F [0, 1, 2] 0 dX7_ofRose_86 rfl (c_X7_meanSpeed l G hm ms mp mq mt mpa msh mo mtu _ _ _ _ _ _ _ hR hI (by omega)) gX7_ofRose_X7_meanSpeed rfl rfl ydX7_meanSpeed ⟨Nat.le_of_ble_eq_true rfl, Nat.le_of_ble_eq_true rfl⟩ (ci := 7) rfl rfl rfl rfl (Nat.le_of_ble_eq_true rfl) rfl rfl ⟨Nat.zero_le _, Nat.zero_le _⟩ (kkf (st' := [_]) (ws' := [_, _, _]) rfl rfl ?_)
    exact V.iret F T dX7_ofRose_89 ⟨_, iEq (by unfold rOf; first | omega | (simp; done) | (simp; omega)), rfl⟩ [hm, ms, mpa] rfl rfl
  · refine V.tswIn (tgt := 90) F dX7_ofRose_7 (by decide) (by decide) (by decide) rfl (by decide) ?_
    refine V.aload_n (q := 91) F dX7_ofRose_90 rfl rfl rfl ?_
    refine V.iload_n (q := 92) F dX7_ofRose_91 rfl rfl rfl ?_
    refine V.bipush (q := 94) F dX7_ofRose_92 rfl (by decide) ?_
    refine V.isub (q := 95) F dX7_ofRose_94 rfl ?_
    refine V.callV (q := 98) F [0, 2] 0 dX7_ofRose_95 rfl (c_X7_ofKind l G hm ms mp mq mt mpa msh mo mtu _ _ _ _ _ _ _ (by omega)) gX7_ofRose_X7_ofKind rfl rfl ydX7_ofKind ⟨Nat.le_of_ble_eq_true rfl, Nat.le_of_ble_eq_true rfl⟩ (ci := 7) rfl rfl rfl rfl (Nat.le_of_ble_eq_true rfl) rfl rfl ⟨Nat.zero_le _, Nat.zero_le _⟩ (kkf (st' := [_]) (ws' := [_, _, _]) rfl rfl ?_)
    exact V.iret F T dX7_ofRose_98 ⟨_, iEq (by unfold rOf; first | omega | (simp; done) | (simp; omega)), rfl⟩ [hm, ms, mpa] rfl rfl
  · refine V.tswIn (tgt := 90) F dX7_ofRose_7 (by decide) (by decide) (by decide) rfl (by decide) ?_
    refine V.aload_n (q := 91) F dX7_ofRose_90 rfl rfl rfl ?_
    refine V.iload_n (q := 92) F dX7_ofRose_91 rfl rfl rfl ?_
    refine V.bipush (q := 94) F dX7_ofRose_92 rfl (by decide) ?_
    refine V.isub (q := 95) F dX7_ofRose_94 rfl ?_
    refine V.callV (q := 98) F [0, 2] 0 dX7_ofRose_95 rfl (c_X7_ofKind l G hm ms mp mq mt mpa msh mo mtu _ _ _ _ _ _ _ (by omega)) gX7_ofRose_X7_ofKind rfl rfl ydX7_ofKind ⟨Nat.le_of_ble_eq_true rfl, Nat.le_of_ble_eq_true rfl⟩ (ci := 7) rfl rfl rfl rfl (Nat.le_of_ble_eq_true rfl) rfl rfl ⟨Nat.zero_le _, Nat.zero_le _⟩ (kkf (st' := [_]) (ws' := [_, _, _]) rfl rfl ?_)
    exact V.iret F T dX7_ofRose_98 ⟨_, iEq (by unfold rOf; first | omega | (simp; done) | (simp; omega)), rfl⟩ [hm, ms, mpa] rfl rfl
  · refine V.tswIn (tgt := 90) F dX7_ofRose_7 (by decide) (by decide) (by decide) rfl (by decide) ?_
    refine V.aload_n (q := 91) F dX7_ofRose_90 rfl rfl rfl ?_
    refine V.iload_n (q := 92) F dX7_ofRose_91 rfl rfl rfl ?_
    refine V.bipush (q := 94) F dX7_ofRose_92 rfl (by decide) ?_
    refine V.isub (q := 95) F dX7_ofRose_94 rfl ?_
    refine V.callV (q := 98) F [0, 2] 0 dX7_ofRose_95 rfl (c_X7_ofKind l G hm ms mp mq mt mpa msh mo mtu _ _ _ _ _ _ _ (by omega)) gX7_ofRose_X7_ofKind rfl rfl ydX7_ofKind ⟨Nat.le_of_ble_eq_true rfl, Nat.le_of_ble_eq_true rfl⟩ (ci := 7) rfl rfl rfl rfl (Nat.le_of_ble_eq_true rfl) rfl rfl ⟨Nat.zero_le _, Nat.zero_le _⟩ (kkf (st' := [_]) (ws' := [_, _, _]) rfl rfl ?_)
    exact V.iret F T dX7_ofRose_98 ⟨_, iEq (by unfold rOf; first | omega | (simp; done) | (simp; omega)), rfl⟩ [hm, ms, mpa] rfl rfl
  · refine V.tswOut (tgt := 99) F dX7_ofRose_7 (by omega) hsw (by decide) ?_
    refine V.aload_n (q := 100) F dX7_ofRose_99 rfl rfl rfl ?_
    refine V.iload_n (q := 101) F dX7_ofRose_100 rfl rfl rfl ?_
    refine V.callV (q := 104) F [0, 1, 2] 0 dX7_ofRose_101 rfl (c_X7_prevailing l G hm ms mp mq mt mpa msh mo mtu _ _ _ _ _ _ _ hR hI (by omega)) gX7_ofRose_X7_prevailing rfl rfl ydX7_prevailing ⟨Nat.le_of_ble_eq_true rfl, Nat.le_of_ble_eq_true rfl⟩ (ci := 7) rfl rfl rfl rfl (Nat.le_of_ble_eq_true rfl) rfl rfl ⟨Nat.zero_le _, Nat.zero_le _⟩ (kkf (st' := [_]) (ws' := [_, _, _]) rfl rfl ?_)
    exact V.iret F T dX7_ofRose_104 ⟨_, iEq (by unfold rOf; first | omega | (simp; done) | (simp; omega)), rfl⟩ [hm, ms, mpa] rfl rfl

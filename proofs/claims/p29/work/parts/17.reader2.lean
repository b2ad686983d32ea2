def REp (G : Gx) (hrd htx htr hrr hri hrp hrh : Nat) (t rs ds ss hs : Int → Int) (n E P e : Int) : Option Value → va_W → Prop := fun r w => ∃ rs' ds' ss' hs' : Int → Int, r = some (.int (zI (if 0 ≤ iez t n P then 1 else 0))) ∧ w = [(hrd, .inr (3, [.ref htx, .ref hrr, .ref hri, .ref hrp, .ref hrh, .int (zI E), .int (zI (posz (iez t n P)))])), (htx, .inr (5, [.ref htr, .int (zI n)])), (htr, aC G 80 t), (hrr, aI G 16 rs'), (hri, aI G 16 ds'), (hrp, aI G 16 ss'), (hrh, aI G 16 hs')] ∧ (0 ≤ iez t n P → rs' = upz rs e (rov t n P) ∧ ds' = upz ds e (wdv t n (P + 4)) ∧ ss' = upz ss e (wsv t n (P + 4)) ∧ hs' = upz hs e (hov t n P))
theorem bez_A {t : Int → Int} {n p c : Int} (h : p < 0) : bez t n p c = p := if_pos h
theorem bez_B {t : Int → Int} {n p c : Int} (h : 0 ≤ p) (hs : ¬ sgz t n p = c) : bez t n p c = -1 - p := by unfold bez; rw [if_neg (by omega), if_neg hs]
theorem bez_C {t : Int → Int} {n p c : Int} (h : 0 ≤ p) (hs : sgz t n p = c) : bez t n p c = p + 1 := by unfold bez; rw [if_neg (by omega), if_pos hs]
theorem nez_A {t : Int → Int} {n p lo hi : Int} (h : p < 0) : nez t n p lo hi = p := if_pos h
theorem iez_A {t : Int → Int} {n p : Int} (h : hez t n p < 0) : iez t n p = hez t n p := by
  have e2 : wez t n (hez t n p) = hez t n p := if_pos h
  unfold iez
  rw [e2]
  exact if_neg (by omega)
theorem iez_B {t : Int → Int} {n p : Int} (h : 0 ≤ hez t n p) (h2 : wez t n (hez t n p) < 0) : iez t n p = wez t n (hez t n p) := if_neg (by omega)
theorem iez_1 {t : Int → Int} {n p : Int} (hp : 0 ≤ p) : nez t n p 0 3 < 0 → iez t n p = -1 - p := by
  intro h
  have n1 := nez_rng t n (p := p) (lo := 0) (hi := 3) hp (by omega)
  have ez : hez t n p = -1 - p := by
    unfold hez
    rw [show nez t n p 0 3 = -1 - p by omega, bez_A (p := -1 - p) (by omega), nez_A (p := -1 - p) (by omega), bez_A (p := -1 - p) (by omega)]
  rw [iez_A (by omega), ez]
theorem iez_2 {t : Int → Int} {n p : Int} (hp : 0 ≤ p) : nez t n p 0 3 = p + 1 → ¬ sgz t n (p + 1) = 46 → iez t n p = -1 - (p + 1) := by
  intro h hs
  have ez : hez t n p = -1 - (p + 1) := by
    unfold hez
    rw [h, bez_B (by omega) hs, nez_A (by omega), bez_A (by omega)]
  rw [iez_A (by omega), ez]
theorem iez_3 {t : Int → Int} {n p : Int} (hp : 0 ≤ p) : nez t n p 0 3 = p + 1 → sgz t n (p + 1) = 46 → nez t n (p + 2) 0 3 < 0 → iez t n p = -1 - (p + 2) := by
  intro h hs h2
  have n2 := nez_rng t n (p := p + 2) (lo := 0) (hi := 3) (by omega) (by omega)
  have ez : hez t n p = -1 - (p + 2) := by
    unfold hez
    rw [h, bez_C (by omega) hs, show p + 1 + 1 = p + 2 by omega, show nez t n (p + 2) 0 3 = -1 - (p + 2) by omega, bez_A (by omega)]
  rw [iez_A (by omega), ez]
theorem iez_4 {t : Int → Int} {n p : Int} (hp : 0 ≤ p) : nez t n p 0 3 = p + 1 → sgz t n (p + 1) = 46 → nez t n (p + 2) 0 3 = p + 3 → ¬ sgz t n (p + 3) = 58 → iez t n p = -1 - (p + 3) := by
  intro h hs h2 hs2
  have ez : hez t n p = -1 - (p + 3) := by
    unfold hez
    rw [h, bez_C (by omega) hs, show p + 1 + 1 = p + 2 by omega, h2, bez_B (by omega) hs2]
  rw [iez_A (by omega), ez]
theorem hez_5 {t : Int → Int} {n p : Int} (hp : 0 ≤ p) (h : nez t n p 0 3 = p + 1) (hs : sgz t n (p + 1) = 46) (h2 : nez t n (p + 2) 0 3 = p + 3) (hs2 : sgz t n (p + 3) = 58) : hez t n p = p + 4 := by
  unfold hez
  rw [h, bez_C (by omega) hs, show p + 1 + 1 = p + 2 by omega, h2, bez_C (by omega) hs2]
  omega

abbrev YX3_readEntry (l : Launch) (G : Gx) : Sx := (cX3_readEntry, 4, RX3, wsX3_readEntry, rmD 4, l, G)
theorem ydX3_readEntry : ydOk yX3_readEntry 1 := by decide +kernel
theorem inX3_readEntry_X3 : ∀ w ∈ wsX30, w ∈ wsX3_readEntry := fun _ h => List.mem_cons_of_mem _ (List.mem_append_left _ (List.mem_append_right _ h))
set_option maxHeartbeats 1000000 in
set_option maxRecDepth 20000 in
theorem c_X3_readEntry (l : Launch) (G : Gx) (hrd htx htr hrr hri hrp hrh : Nat) (t rs ds ss hs : Int → Int) (n E P e : Int) (hn : 0 ≤ n ∧ n ≤ 80) (ht : ∀ j, 0 ≤ t j ∧ t j < 65536) (hP : 0 ≤ P ∧ P ≤ n) (he : 0 ≤ e ∧ e < 16) : Ct l G yX3_readEntry wsX3_readEntry (rmD 4) [.ref hrd, .int (zI e)] [(hrd, .inr (3, [.ref htx, .ref hrr, .ref hri, .ref hrp, .ref hrh, .int (zI E), .int (zI P)])), (htx, .inr (5, [.ref htr, .int (zI n)])), (htr, aC G 80 t), (hrr, aI G 16 rs), (hri, aI G 16 ds), (hrp, aI G 16 ss), (hrh, aI G 16 hs)] (REp G hrd htx htr hrr hri hrp hrh t rs ds ss hs n E P e) := by
  refine Ct.intro (cc := cX3_readEntry) (maxL := 4) (ret := (some .boolean)) (lo0 := [some (.ref hrd), some (.int (zI e)), none, none]) (by decide +kernel) rfl ⟨rfl, rfl⟩ (Nat.le_of_ble_eq_true rfl) rfl ?_
  intro X F T
  change Fx X (YX3_readEntry l G) at F
  change V X (YX3_readEntry l G) 0 0 0 _ _ _
  have n1 := nez_rng t n (p := P) (lo := 0) (hi := 3) (by omega) (by omega)
  have v1 := nvz_rng t n (p := P) (lo := 0) (hi := 3) (by omega) (by omega) (by omega)
  have hr1 := hez_rng t n hP.1
  have hi1 := iez_rng t n hP.1 hP.2
  have eP : ∀ x, posz x = if 0 ≤ x then x else -1 - x := fun x => rfl
  have ei1 := eP (iez t n P)
  have iA := iez_1 (t := t) (n := n) hP.1
  have iB := iez_2 (t := t) (n := n) hP.1
  have iC := iez_3 (t := t) (n := n) hP.1
  have iD := iez_4 (t := t) (n := n) hP.1
  refine V.aload_n (q := 1) F dX3_readEntry_0 rfl rfl rfl ?_
  refine V.iconst (q := 2) F dX3_readEntry_1 rfl ?_
  refine V.iconst (q := 3) F dX3_readEntry_2 rfl ?_
  refine V.callV (q := 6) F [0, 1, 2] 0 dX3_readEntry_3 rfl (c_X3_readNumber l G hrd htx htr hrr hri hrp hrh _ _ _ _ _ _ (by omega) ht (by omega) (by omega)) gX3_readEntry_X3_readNumber rfl rfl ydX3_readNumber ⟨Nat.le_of_ble_eq_true rfl, Nat.le_of_ble_eq_true rfl⟩ (ci := 3) rfl rfl rfl rfl (Nat.le_of_ble_eq_true rfl) rfl rfl ⟨Nat.zero_le _, Nat.zero_le _⟩ (kkf (st' := [_]) (ws' := [_, _, _, _, _, _, _]) rfl rfl ?_)
  refine V.istore_n (q := 7) (lo' := [_, _, _, _]) F dX3_readEntry_6 rfl rfl (Nat.le_of_ble_eq_true rfl) rfl rfl ?_
  refine V.iload_n (q := 8) F dX3_readEntry_7 rfl rfl rfl ?_
  refine V.if_lt (q := 11) (tgt := 20) F dX3_readEntry_8 rfl (by decide) (by omega) (fun k8 => ?_) (fun k8 => ?_)
  · refine V.iconst (q := 21) F dX3_readEntry_20 rfl ?_
    exact V.zret F T (by omega) dX3_readEntry_21 ⟨_, _, _, _, (by rw [if_neg (by omega)]), (wcons (objEq (vcons rfl (vcons rfl (vcons rfl (vcons rfl (vcons rfl (vcons rfl (vcons (congrArg (fun z => Value.int (zI z)) (by omega)) rfl)))))))) rfl), fun h9 => absurd h9 (by omega)⟩ [hrd, htx, htr, hrr, hri, hrp, hrh] rfl rfl
  · have q1 : nez t n P 0 3 = P + 1 := by omega
    rw [q1, if_pos (show 0 ≤ P + 1 by omega)]
    refine V.aload_n (q := 12) F dX3_readEntry_11 rfl rfl rfl ?_
    refine V.bipush (q := 14) F dX3_readEntry_12 rfl (by decide) ?_
    refine V.callV (q := 17) F [0, 1, 2] 0 dX3_readEntry_14 rfl (c_X3_take l G hrd htx htr hrr hri hrp hrh _ _ _ _ _ (by omega) ht (by omega) (by omega)) gX3_readEntry_X3_take rfl rfl ydX3_take ⟨Nat.le_of_ble_eq_true rfl, Nat.le_of_ble_eq_true rfl⟩ (ci := 3) rfl rfl rfl rfl (Nat.le_of_ble_eq_true rfl) rfl rfl ⟨Nat.zero_le _, Nat.zero_le _⟩ (kkf (st' := [_]) (ws' := [_, _, _, _, _, _, _]) rfl rfl ?_)
    refine V.if_ne (q := 20) (tgt := 22) F dX3_readEntry_17 rfl (by decide) (by omega) (fun k17 => ?_) (fun k17 => ?_)
    · have s1 : sgz t n (P + 1) = 46 := by omega
      rw [if_pos s1]
      have l1 := sgz_lt (t := t) (n := n) (p := P + 1) (by omega)
      rw [show P + 1 + 1 = P + 2 by omega]
      have n2 := nez_rng t n (p := P + 2) (lo := 0) (hi := 3) (by omega) (by omega)
      have v2 := nvz_rng t n (p := P + 2) (lo := 0) (hi := 3) (by omega) (by omega) (by omega)
      have d9 := dgz_rng t n P
      have d8 := dgz_rng t n (P + 2)
      refine V.aload_n (q := 23) F dX3_readEntry_22 rfl rfl rfl ?_
      refine V.iconst (q := 24) F dX3_readEntry_23 rfl ?_
      refine V.iconst (q := 25) F dX3_readEntry_24 rfl ?_
      refine V.callV (q := 28) F [0, 1, 2] 0 dX3_readEntry_25 rfl (c_X3_readNumber l G hrd htx htr hrr hri hrp hrh _ _ _ _ _ _ (by omega) ht (by omega) (by omega)) gX3_readEntry_X3_readNumber rfl rfl ydX3_readNumber ⟨Nat.le_of_ble_eq_true rfl, Nat.le_of_ble_eq_true rfl⟩ (ci := 3) rfl rfl rfl rfl (Nat.le_of_ble_eq_true rfl) rfl rfl ⟨Nat.zero_le _, Nat.zero_le _⟩ (kkf (st' := [_]) (ws' := [_, _, _, _, _, _, _]) rfl rfl ?_)
      refine V.istore_n (q := 29) (lo' := [_, _, _, _]) F dX3_readEntry_28 rfl rfl (Nat.le_of_ble_eq_true rfl) rfl rfl ?_
      refine V.iload_n (q := 30) F dX3_readEntry_29 rfl rfl rfl ?_
      refine V.if_lt (q := 33) (tgt := 42) F dX3_readEntry_30 rfl (by decide) (by omega) (fun k30 => ?_) (fun k30 => ?_)
      · refine V.iconst (q := 43) F dX3_readEntry_42 rfl ?_
        exact V.zret F T (by omega) dX3_readEntry_43 ⟨_, _, _, _, (by rw [if_neg (by omega)]), (wcons (objEq (vcons rfl (vcons rfl (vcons rfl (vcons rfl (vcons rfl (vcons rfl (vcons (congrArg (fun z => Value.int (zI z)) (by omega)) rfl)))))))) rfl), fun h9 => absurd h9 (by omega)⟩ [hrd, htx, htr, hrr, hri, hrp, hrh] rfl rfl
      · have q2 : nez t n (P + 2) 0 3 = P + 3 := by omega
        rw [q2, if_pos (show 0 ≤ P + 3 by omega)]
        refine V.aload_n (q := 34) F dX3_readEntry_33 rfl rfl rfl ?_
        refine V.bipush (q := 36) F dX3_readEntry_34 rfl (by decide) ?_
        refine V.callV (q := 39) F [0, 1, 2] 0 dX3_readEntry_36 rfl (c_X3_take l G hrd htx htr hrr hri hrp hrh _ _ _ _ _ (by omega) ht (by omega) (by omega)) gX3_readEntry_X3_take rfl rfl ydX3_take ⟨Nat.le_of_ble_eq_true rfl, Nat.le_of_ble_eq_true rfl⟩ (ci := 3) rfl rfl rfl rfl (Nat.le_of_ble_eq_true rfl) rfl rfl ⟨Nat.zero_le _, Nat.zero_le _⟩ (kkf (st' := [_]) (ws' := [_, _, _, _, _, _, _]) rfl rfl ?_)
        refine V.if_ne (q := 42) (tgt := 44) F dX3_readEntry_39 rfl (by decide) (by omega) (fun k39 => ?_) (fun k39 => ?_)
        · have s2 : sgz t n (P + 3) = 58 := by omega
          rw [if_pos s2]
          have l2 := sgz_lt (t := t) (n := n) (p := P + 3) (by omega)
          rw [show P + 3 + 1 = P + 4 by omega]
          have ez : hez t n P = P + 4 := hez_5 hP.1 q1 s1 q2 s2
          have hv1 : nvz t n P 0 3 = dgz t n P := by unfold nvz; rw [if_pos (by omega), if_pos q1]
          have hv2 : nvz t n (P + 2) 0 3 = dgz t n (P + 2) := by unfold nvz; rw [if_pos (by omega), if_pos (by omega)]
          have hwr := wez_rng t n (p := P + 4) (by omega)
          have ew := eP (wez t n (P + 4))
          have ei : iez t n P = hoz t n (wez t n (P + 4)) := by unfold iez; rw [ez]
          have eB := iez_B (t := t) (n := n) (p := P)
          rw [ez] at eB
          refine V.aload_n (q := 45) F dX3_readEntry_44 rfl rfl rfl ?_
          refine V.get (q := 48) F 0 1 dX3_readEntry_45 rfl rfl rfl inX3_readEntry_X3 (by decide) (List.mem_of_getElem? (i := 1) rfl) rfl ?_
          refine V.iload_n (q := 49) F dX3_readEntry_48 rfl rfl rfl ?_
          refine V.iload_n (q := 50) F dX3_readEntry_49 rfl rfl rfl ?_
          refine V.iload_n (q := 51) F dX3_readEntry_50 rfl rfl rfl ?_
          refine V.callSN (q := 54) (host := RX6) F [] dX3_readEntry_51 rfl (c_X6_roseOf l G  _ _ ) gX3_readEntry_X6_roseOf_n64 rfl ydX6_roseOf ⟨Nat.le_of_ble_eq_true rfl, Nat.le_of_ble_eq_true rfl⟩ (fun U h => h.1) (List.mem_of_getElem? (i := 17) rfl) (List.mem_of_getElem? (i := 27) rfl) rfl rfl (Nat.le_of_ble_eq_true rfl) rfl rfl ⟨Nat.zero_le _, Nat.zero_le _⟩ (kkf (st' := [_, _, _]) (ws' := [_, _, _, _, _, _, _]) rfl rfl ?_)
          refine V.iast (q := 55) (ws' := [_, _, _, _, _, _, _]) F 3 dX3_readEntry_54 rfl rfl (by decide) (by omega) rfl ?_
          refine V.aload_n (q := 56) F dX3_readEntry_55 rfl rfl rfl ?_
          refine V.iload_n (q := 57) F dX3_readEntry_56 rfl rfl rfl ?_
          refine V.callV (q := 60) F [0, 1, 2, 4, 5] 0 dX3_readEntry_57 rfl (c_X3_readWind l G hrd htx htr hrr hri hrp hrh _ _ _ _ _ _ _ (by omega) ht (by omega) (by omega)) gX3_readEntry_X3_readWind rfl rfl ydX3_readWind ⟨Nat.le_of_ble_eq_true rfl, Nat.le_of_ble_eq_true rfl⟩ (ci := 3) rfl rfl rfl rfl (Nat.le_of_ble_eq_true rfl) rfl rfl ⟨Nat.zero_le _, Nat.zero_le _⟩ (kkf (st' := [_]) (ws' := [_, _, _, _, _, _, _]) rfl rfl ?_)
          refine V.if_eq (q := 63) (tgt := 75) F dX3_readEntry_60 rfl (by decide) (by omega) (fun k60 => ?_) (fun k60 => ?_)
          · refine V.iconst (q := 76) F dX3_readEntry_75 rfl ?_
            first
              | exact V.zret F T (by omega) dX3_readEntry_76 ⟨_, _, _, _, (by rw [if_pos (by omega)]), (wcons (objEq (vcons rfl (vcons rfl (vcons rfl (vcons rfl (vcons rfl (vcons rfl (vcons (congrArg (fun z => Value.int (zI z)) (by omega)) rfl)))))))) rfl), fun _ => ⟨by rw [hv1, hv2]; rfl, rfl, rfl, rfl⟩⟩ [hrd, htx, htr, hrr, hri, hrp, hrh] rfl rfl
              | exact V.zret F T (by omega) dX3_readEntry_76 ⟨_, _, _, _, (by rw [if_neg (by omega)]), (wcons (objEq (vcons rfl (vcons rfl (vcons rfl (vcons rfl (vcons rfl (vcons rfl (vcons (congrArg (fun z => Value.int (zI z)) (by omega)) rfl)))))))) rfl), fun h9 => absurd h9 (by omega)⟩ [hrd, htx, htr, hrr, hri, hrp, hrh] rfl rfl
          · have hw0 : 0 ≤ wez t n (P + 4) := by omega
            rw [ew, if_pos hw0]
            have eo := eP (hoz t n (wez t n (P + 4)))
            refine V.aload_n (q := 64) F dX3_readEntry_63 rfl rfl rfl ?_
            refine V.iload_n (q := 65) F dX3_readEntry_64 rfl rfl rfl ?_
            refine V.callV (q := 68) F [0, 1, 2, 6] 0 dX3_readEntry_65 rfl (c_X3_readHours l G hrd htx htr hrr hri hrp hrh _ _ _ _ _ _ (by omega) ht (by omega) (by omega)) gX3_readEntry_X3_readHours rfl rfl ydX3_readHours ⟨Nat.le_of_ble_eq_true rfl, Nat.le_of_ble_eq_true rfl⟩ (ci := 3) rfl rfl rfl rfl (Nat.le_of_ble_eq_true rfl) rfl rfl ⟨Nat.zero_le _, Nat.zero_le _⟩ (kkf (st' := [_]) (ws' := [_, _, _, _, _, _, _]) rfl rfl ?_)
            refine V.if_eq (q := 71) (tgt := 75) F dX3_readEntry_68 rfl (by decide) (by omega) (fun k68 => ?_) (fun k68 => ?_)
            · refine V.iconst (q := 76) F dX3_readEntry_75 rfl ?_
              first
                | exact V.zret F T (by omega) dX3_readEntry_76 ⟨_, _, _, _, (by rw [if_pos (by omega)]), (wcons (objEq (vcons rfl (vcons rfl (vcons rfl (vcons rfl (vcons rfl (vcons rfl (vcons (congrArg (fun z => Value.int (zI z)) (by omega)) rfl)))))))) rfl), fun _ => ⟨by rw [hv1, hv2]; rfl, rfl, rfl, rfl⟩⟩ [hrd, htx, htr, hrr, hri, hrp, hrh] rfl rfl
                | exact V.zret F T (by omega) dX3_readEntry_76 ⟨_, _, _, _, (by rw [if_neg (by omega)]), (wcons (objEq (vcons rfl (vcons rfl (vcons rfl (vcons rfl (vcons rfl (vcons rfl (vcons (congrArg (fun z => Value.int (zI z)) (by omega)) rfl)))))))) rfl), fun h9 => absurd h9 (by omega)⟩ [hrd, htx, htr, hrr, hri, hrp, hrh] rfl rfl
            · refine V.iconst (q := 72) F dX3_readEntry_71 rfl ?_
              refine V.goto (tgt := 76) F dX3_readEntry_72 (by decide) ?_
              first
                | exact V.zret F T (by omega) dX3_readEntry_76 ⟨_, _, _, _, (by rw [if_pos (by omega)]), (wcons (objEq (vcons rfl (vcons rfl (vcons rfl (vcons rfl (vcons rfl (vcons rfl (vcons (congrArg (fun z => Value.int (zI z)) (by omega)) rfl)))))))) rfl), fun _ => ⟨by rw [hv1, hv2]; rfl, rfl, rfl, rfl⟩⟩ [hrd, htx, htr, hrr, hri, hrp, hrh] rfl rfl
                | exact V.zret F T (by omega) dX3_readEntry_76 ⟨_, _, _, _, (by rw [if_neg (by omega)]), (wcons (objEq (vcons rfl (vcons rfl (vcons rfl (vcons rfl (vcons rfl (vcons rfl (vcons (congrArg (fun z => Value.int (zI z)) (by omega)) rfl)))))))) rfl), fun h9 => absurd h9 (by omega)⟩ [hrd, htx, htr, hrr, hri, hrp, hrh] rfl rfl
        · refine V.iconst (q := 43) F dX3_readEntry_42 rfl ?_
          exact V.zret F T (by omega) dX3_readEntry_43 ⟨_, _, _, _, (by rw [if_neg (by omega)]), (wcons (objEq (vcons rfl (vcons rfl (vcons rfl (vcons rfl (vcons rfl (vcons rfl (vcons (congrArg (fun z => Value.int (zI z)) (by omega)) rfl)))))))) rfl), fun h9 => absurd h9 (by omega)⟩ [hrd, htx, htr, hrr, hri, hrp, hrh] rfl rfl
    · refine V.iconst (q := 21) F dX3_readEntry_20 rfl ?_
      exact V.zret F T (by omega) dX3_readEntry_21 ⟨_, _, _, _, (by rw [if_neg (by omega)]), (wcons (objEq (vcons rfl (vcons rfl (vcons rfl (vcons rfl (vcons rfl (vcons rfl (vcons (congrArg (fun z => Value.int (zI z)) (by omega)) rfl)))))))) rfl), fun h9 => absurd h9 (by omega)⟩ [hrd, htx, htr, hrr, hri, hrp, hrh] rfl rfl

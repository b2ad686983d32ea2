/-- what is held of the first k entries -/
def Held (t : Int → Int) (n : Int) (rs ds ss hs : Int → Int) (k : Int) : Prop := ∀ j : Int, 0 ≤ j → j < k → rs j = rov t n (plz t n j.toNat) ∧ ds j = wdv t n (plz t n j.toNat + 4) ∧ ss j = wsv t n (plz t n j.toNat + 4) ∧ hs j = hov t n (plz t n j.toNat)
theorem Held.step {t : Int → Int} {n : Int} {rs ds ss hs : Int → Int} {i : Int} (hi : 0 ≤ i) (h : Held t n rs ds ss hs i) : Held t n (upz rs i (rov t n (plz t n i.toNat))) (upz ds i (wdv t n (plz t n i.toNat + 4))) (upz ss i (wsv t n (plz t n i.toNat + 4))) (upz hs i (hov t n (plz t n i.toNat))) (i + 1) := by
  intro j h1 h2
  by_cases hj : j = i
  · subst hj
    simp only [upz, if_true]
    exact ⟨trivial, trivial, trivial, trivial⟩
  · simp only [upz, if_neg hj]
    exact h j h1 (by omega)
def RAp (G : Gx) (hrd htx htr hrr hri hrp hrh : Nat) (t : Int → Int) (n : Int) (K : Nat) : Option Value → va_W → Prop := fun r w => ∃ (rs' ds' ss' hs' : Int → Int) (E' : Int), r = some (.int (zI (if 0 ≤ iez t n (plz t n K) ∧ iez t n (plz t n K) = n then 1 else 0))) ∧ w = [(hrd, .inr (3, [.ref htx, .ref hrr, .ref hri, .ref hrp, .ref hrh, .int (zI E'), .int (zI (posz (iez t n (plz t n K))))])), (htx, .inr (5, [.ref htr, .int (zI n)])), (htr, aC G 80 t), (hrr, aI G 16 rs'), (hri, aI G 16 ds'), (hrp, aI G 16 ss'), (hrh, aI G 16 hs')] ∧ (0 ≤ iez t n (plz t n K) → E' = (K : Int) + 1 ∧ Held t n rs' ds' ss' hs' ((K : Int) + 1))

abbrev YX3_readAll (l : Launch) (G : Gx) : Sx := (cX3_readAll, 2, RX3, wsX3_readAll, rmD 5, l, G)
theorem ydX3_readAll : ydOk yX3_readAll 0 := by decide +kernel
theorem inX3_readAll_X3 : ∀ w ∈ wsX30, w ∈ wsX3_readAll := fun _ h => List.mem_cons_of_mem _ (List.mem_append_left _ (List.mem_append_right _ h))
set_option maxHeartbeats 1000000 in
set_option maxRecDepth 20000 in
theorem c_X3_readAll (l : Launch) (G : Gx) (hrd htx htr hrr hri hrp hrh : Nat) (t rs ds ss hs : Int → Int) (n E P : Int) (K : Nat) (hn : 0 ≤ n ∧ n ≤ 80) (ht : ∀ j, 0 ≤ t j ∧ t j < 65536) (hK : Par t n K) (hK13 : K ≤ 13) : Ct l G yX3_readAll wsX3_readAll (rmD 5) [.ref hrd] [(hrd, .inr (3, [.ref htx, .ref hrr, .ref hri, .ref hrp, .ref hrh, .int (zI E), .int (zI P)])), (htx, .inr (5, [.ref htr, .int (zI n)])), (htr, aC G 80 t), (hrr, aI G 16 rs), (hri, aI G 16 ds), (hrp, aI G 16 ss), (hrh, aI G 16 hs)] (RAp G hrd htx htr hrr hri hrp hrh t n K) := by
  refine Ct.intro (cc := cX3_readAll) (maxL := 2) (ret := (some .boolean)) (lo0 := [some (.ref hrd), none]) (by decide +kernel) rfl ⟨rfl, rfl⟩ (Nat.le_of_ble_eq_true rfl) rfl ?_
  intro X F T
  change Fx X (YX3_readAll l G) at F
  change V X (YX3_readAll l G) 0 0 0 _ _ _
  have eP : ∀ x, posz x = if 0 ≤ x then x else -1 - x := fun x => rfl
  have hq := plz_rng hn.1 hK.1 K (Nat.le_refl K)
  have hir := iez_rng t n hq.1 hq.2.1
  have eK := eP (iez t n (plz t n K))
  have hKc : ¬ (0 ≤ iez t n (plz t n K) ∧ sgz t n (iez t n (plz t n K)) = 59) := hK.2
  have hKl := sgz_lt (t := t) (n := n) (p := iez t n (plz t n K))
  refine V.aload_n (q := 1) F dX3_readAll_0 rfl rfl rfl ?_
  refine V.iconst (q := 2) F dX3_readAll_1 rfl ?_
  refine V.put (q := 5) (ws' := [_, _, _, _, _, _, _]) (fs' := [_, _, _, _, _, _, _]) F 0 6 dX3_readAll_2 rfl rfl rfl inX3_readAll_X3 tyX3 tyX3_ok nmX3 (by decide) (List.mem_of_getElem? (i := 1) rfl) rfl rfl rfl rfl (Nat.le_of_ble_eq_true rfl) rfl rfl ?_
  refine V.aload_n (q := 6) F dX3_readAll_5 rfl rfl rfl ?_
  refine V.iconst (q := 7) F dX3_readAll_6 rfl ?_
  refine V.put (q := 10) (ws' := [_, _, _, _, _, _, _]) (fs' := [_, _, _, _, _, _, _]) F 0 5 dX3_readAll_7 rfl rfl rfl inX3_readAll_X3 tyX3 tyX3_ok nmX3 (by decide) (List.mem_of_getElem? (i := 2) rfl) rfl rfl rfl rfl (Nat.le_of_ble_eq_true rfl) rfl rfl ?_
  refine V.iconst (q := 11) F dX3_readAll_10 rfl ?_
  refine V.istore_n (q := 12) (lo' := [_, _]) F dX3_readAll_11 rfl rfl (Nat.le_of_ble_eq_true rfl) rfl rfl ?_
  have L12 : ∀ (nq : Nat) (i Q E : Int) (rs ds ss hs : Int → Int) (hi : 0 ≤ i ∧ i ≤ (K : Int)) (hQ : Q = plz t n i.toNat) (hH : Held t n rs ds ss hs i), ((K : Int) + 1 - i).toNat < nq → V X (YX3_readAll l G) 0 0 12 [some (.ref hrd), some (.int (zI i))] [] [(hrd, .inr (3, [.ref htx, .ref hrr, .ref hri, .ref hrp, .ref hrh, .int (zI E), .int (zI Q)])), (htx, .inr (5, [.ref htr, .int (zI n)])), (htr, aC G 80 t), (hrr, aI G 16 rs), (hri, aI G 16 ds), (hrp, aI G 16 ss), (hrh, aI G 16 hs)] := by
    intro n12
    induction n12 with
    | zero => intro i Q E rs ds ss hs hi hQ hH hm12; exact absurd hm12 (Nat.not_lt_zero _)
    | succ n12 ih12 =>
      intro i Q E rs ds ss hs hi hQ hH hm12
      have hp := plz_rng hn.1 hK.1 i.toNat (by omega)
      rw [← hQ] at hp
      have hr := iez_rng t n hp.1 hp.2.1
      have ei := eP (iez t n Q)
      have el := sgz_lt (t := t) (n := n) (p := iez t n Q)
      refine V.iload_n (q := 13) F dX3_readAll_12 rfl rfl rfl ?_
      refine V.bipush (q := 15) F dX3_readAll_13 rfl (by decide) ?_
      refine V.icmp_ge (q := 18) (tgt := 70) F dX3_readAll_15 rfl (by decide) (by omega) (fun k15 => by exfalso; omega) (fun k15 => ?_)
      refine V.aload_n (q := 19) F dX3_readAll_18 rfl rfl rfl ?_
      refine V.iload_n (q := 20) F dX3_readAll_19 rfl rfl rfl ?_
      refine V.callV (q := 23) F [0, 1, 2, 3, 4, 5, 6] 0 dX3_readAll_20 rfl (c_X3_readEntry l G hrd htx htr hrr hri hrp hrh _ _ _ _ _ _ _ _ _ (by omega) ht (by omega) (by omega)) gX3_readAll_X3_readEntry rfl rfl ydX3_readEntry ⟨Nat.le_of_ble_eq_true rfl, Nat.le_of_ble_eq_true rfl⟩ (ci := 3) rfl rfl rfl rfl (Nat.le_of_ble_eq_true rfl) rfl rfl ⟨Nat.zero_le _, Nat.zero_le _⟩ (fun r9 w9 h9 _ => ?_)
      obtain ⟨rs', ds', ss', hs', rfl, rfl, hok⟩ := h9
      refine V.eq (pc' := 23) (st' := [_]) (ws' := [_, _, _, _, _, _, _]) rfl rfl rfl rfl ?_
      refine V.if_ne (q := 26) (tgt := 28) F dX3_readAll_23 rfl (by decide) (by omega) (fun k23 => ?_) (fun k23 => ?_)
      · have hz : 0 ≤ iez t n Q := by omega
        have hok4 := hok hz
        rw [ei, if_pos hz]
        refine V.aload_n (q := 29) F dX3_readAll_28 rfl rfl rfl ?_
        refine V.iload_n (q := 30) F dX3_readAll_29 rfl rfl rfl ?_
        refine V.iconst (q := 31) F dX3_readAll_30 rfl ?_
        refine V.iadd (q := 32) F dX3_readAll_31 rfl ?_
        refine V.put (q := 35) (ws' := [_, _, _, _, _, _, _]) (fs' := [_, _, _, _, _, _, _]) F 0 5 dX3_readAll_32 rfl rfl rfl inX3_readAll_X3 tyX3 tyX3_ok nmX3 (by decide) (List.mem_of_getElem? (i := 2) rfl) rfl rfl rfl rfl (Nat.le_of_ble_eq_true rfl) rfl rfl ?_
        refine V.aload_n (q := 36) F dX3_readAll_35 rfl rfl rfl ?_
        refine V.bipush (q := 38) F dX3_readAll_36 rfl (by decide) ?_
        refine V.callV (q := 41) F [0, 1, 2] 0 dX3_readAll_38 rfl (c_X3_take l G hrd htx htr hrr hri hrp hrh _ _ _ _ _ (by omega) ht (by omega) (by omega)) gX3_readAll_X3_take rfl rfl ydX3_take ⟨Nat.le_of_ble_eq_true rfl, Nat.le_of_ble_eq_true rfl⟩ (ci := 3) rfl rfl rfl rfl (Nat.le_of_ble_eq_true rfl) rfl rfl ⟨Nat.zero_le _, Nat.zero_le _⟩ (kkf (st' := [_]) (ws' := [_, _, _, _, _, _, _]) rfl rfl ?_)
        refine V.if_ne (q := 44) (tgt := 64) F dX3_readAll_41 rfl (by decide) (by omega) (fun k41 => ?_) (fun k41 => ?_)
        · refine V.iinc (q := 67) (lo' := [_, _]) F dX3_readAll_64 rfl rfl (Nat.le_of_ble_eq_true rfl) rfl rfl ?_
          refine V.goto (tgt := 12) F dX3_readAll_67 (by decide) ?_
          have hs59 : sgz t n (iez t n Q) = 59 := by omega
          have hiK : i < (K : Int) := by
            rcases Int.lt_or_le i (K : Int) with h | h
            · exact h
            · exfalso
              have e : i.toNat = K := by omega
              rw [e] at hQ
              rw [← hQ] at hKc
              exact hKc ⟨by omega, hs59⟩
          rw [if_pos hs59]
          exact ih12 (i + 1) _ _ _ _ _ _ (by omega) (by rw [show (i + 1).toNat = i.toNat + 1 by omega, plz, ← hQ]) (by rw [hok4.1, hok4.2.1, hok4.2.2.1, hok4.2.2.2, hQ]; exact hH.step hi.1) (by omega)
        · have hiK : i = (K : Int) := by
            rcases Int.lt_or_le i (K : Int) with h | h
            · exfalso
              have hc := hK.1 i.toNat (by omega)
              rw [← hQ] at hc
              exact absurd hc.2 (by omega)
            · omega
          have eQ : plz t n K = Q := by rw [hQ]; congr 1; omega
          rw [eQ] at eK hKc hKl hir
          rw [if_neg (show ¬ sgz t n (iez t n Q) = 59 by omega)]
          refine V.aload_n (q := 45) F dX3_readAll_44 rfl rfl rfl ?_
          refine V.get (q := 48) F 0 6 dX3_readAll_45 rfl rfl rfl inX3_readAll_X3 (by decide) (List.mem_of_getElem? (i := 1) rfl) rfl ?_
          refine V.aload_n (q := 49) F dX3_readAll_48 rfl rfl rfl ?_
          refine V.get (q := 52) F 0 0 dX3_readAll_49 rfl rfl rfl inX3_readAll_X3 (by decide) (List.mem_of_getElem? (i := 3) rfl) rfl ?_
          refine V.callV (q := 55) F [1] 1 dX3_readAll_52 rfl (c_X5_length l G htx htr _ ) gX3_readAll_X5_length rfl rfl ydX5_length ⟨Nat.le_of_ble_eq_true rfl, Nat.le_of_ble_eq_true rfl⟩ (ci := 5) rfl rfl rfl rfl (Nat.le_of_ble_eq_true rfl) rfl rfl ⟨Nat.zero_le _, Nat.zero_le _⟩ (kkf (st' := [_, _]) (ws' := [_, _, _, _, _, _, _]) rfl rfl ?_)
          refine V.icmp_ne (q := 58) (tgt := 62) F dX3_readAll_55 rfl (by decide) (by omega) (fun k55 => ?_) (fun k55 => ?_)
          · refine V.iconst (q := 63) F dX3_readAll_62 rfl ?_
            first
              | exact V.zret F T (by omega) dX3_readAll_63 ⟨_, _, _, _, _, (by rw [eQ, if_pos (by omega)]), (wcons (objEq (vcons rfl (vcons rfl (vcons rfl (vcons rfl (vcons rfl (vcons rfl (vcons (congrArg (fun z => Value.int (zI z)) (by rw [eQ]; omega)) rfl)))))))) rfl), (fun _ => ⟨by omega, by rw [hok4.1, hok4.2.1, hok4.2.2.1, hok4.2.2.2, hQ, ← hiK]; exact hH.step hi.1⟩)⟩ [hrd, htx, htr, hrr, hri, hrp, hrh] rfl rfl
              | exact V.zret F T (by omega) dX3_readAll_63 ⟨_, _, _, _, _, (by rw [eQ, if_neg (by omega)]), (wcons (objEq (vcons rfl (vcons rfl (vcons rfl (vcons rfl (vcons rfl (vcons rfl (vcons (congrArg (fun z => Value.int (zI z)) (by rw [eQ]; omega)) rfl)))))))) rfl), (fun _ => ⟨by omega, by rw [hok4.1, hok4.2.1, hok4.2.2.1, hok4.2.2.2, hQ, ← hiK]; exact hH.step hi.1⟩)⟩ [hrd, htx, htr, hrr, hri, hrp, hrh] rfl rfl
          · refine V.iconst (q := 59) F dX3_readAll_58 rfl ?_
            refine V.goto (tgt := 63) F dX3_readAll_59 (by decide) ?_
            first
              | exact V.zret F T (by omega) dX3_readAll_63 ⟨_, _, _, _, _, (by rw [eQ, if_pos (by omega)]), (wcons (objEq (vcons rfl (vcons rfl (vcons rfl (vcons rfl (vcons rfl (vcons rfl (vcons (congrArg (fun z => Value.int (zI z)) (by rw [eQ]; omega)) rfl)))))))) rfl), (fun _ => ⟨by omega, by rw [hok4.1, hok4.2.1, hok4.2.2.1, hok4.2.2.2, hQ, ← hiK]; exact hH.step hi.1⟩)⟩ [hrd, htx, htr, hrr, hri, hrp, hrh] rfl rfl
              | exact V.zret F T (by omega) dX3_readAll_63 ⟨_, _, _, _, _, (by rw [eQ, if_neg (by omega)]), (wcons (objEq (vcons rfl (vcons rfl (vcons rfl (vcons rfl (vcons rfl (vcons rfl (vcons (congrArg (fun z => Value.int (zI z)) (by rw [eQ]; omega)) rfl)))))))) rfl), (fun _ => ⟨by omega, by rw [hok4.1, hok4.2.1, hok4.2.2.1, hok4.2.2.2, hQ, ← hiK]; exact hH.step hi.1⟩)⟩ [hrd, htx, htr, hrr, hri, hrp, hrh] rfl rfl
      · have hiK : i = (K : Int) := by
          rcases Int.lt_or_le i (K : Int) with h | h
          · exfalso
            have hc := hK.1 i.toNat (by omega)
            rw [← hQ] at hc
            exact absurd hc.1 (by omega)
          · omega
        have eQ : plz t n K = Q := by rw [hQ]; congr 1; omega
        rw [eQ] at eK hKc hKl hir
        refine V.iconst (q := 27) F dX3_readAll_26 rfl ?_
        exact V.zret F T (by omega) dX3_readAll_27 ⟨_, _, _, _, _, (by rw [eQ, if_neg (by omega)]), (wcons (objEq (vcons rfl (vcons rfl (vcons rfl (vcons rfl (vcons rfl (vcons rfl (vcons (congrArg (fun z => Value.int (zI z)) (by rw [eQ])) rfl)))))))) rfl), fun h9 => absurd h9 (by rw [eQ]; omega)⟩ [hrd, htx, htr, hrr, hri, hrp, hrh] rfl rfl
  exact L12 _ 0 _ _ _ _ _ _ (by omega) rfl (fun j h1 h2 => absurd h2 (by omega)) (Nat.lt_succ_self _)

abbrev YX3_hoursOf (l : Launch) (G : Gx) : Sx := (cX3_hoursOf, 4, RX3, wsX3_hoursOf, rmD 0, l, G)
theorem ydX3_hoursOf : ydOk yX3_hoursOf 1 := by decide +kernel
theorem inX3_hoursOf_X3 : ∀ w ∈ wsX30, w ∈ wsX3_hoursOf := fun _ h => List.mem_cons_of_mem _ (List.mem_append_right _ h)
set_option maxHeartbeats 1000000 in
set_option maxRecDepth 20000 in
theorem c_X3_hoursOf (l : Launch) (G : Gx) (hrd htx htr hrr hri hrp hrh : Nat) (rs hs : Int → Int) (E P r : Int) (hE : 0 ≤ E ∧ E ≤ 16) (h1 : 0 ≤ r ∧ r < 16) (hb : ∀ j, 0 ≤ j → j < E → 0 ≤ rs j ∧ rs j < 16) : Ct l G yX3_hoursOf wsX3_hoursOf (rmD 0) [.ref hrd, .int (zI r)] [(hrd, .inr (3, [.ref htx, .ref hrr, .ref hri, .ref hrp, .ref hrh, .int (zI E), .int (zI P)])), (hrr, aI G 16 rs), (hrh, aI G 16 hs)] (Fn (some (.int (zI (sz (fun i => if rs i = r then hs i else 0) 0 E)))) [(hrd, .inr (3, [.ref htx, .ref hrr, .ref hri, .ref hrp, .ref hrh, .int (zI E), .int (zI P)])), (hrr, aI G 16 rs), (hrh, aI G 16 hs)]) := by
  refine Ct.intro (cc := cX3_hoursOf) (maxL := 4) (ret := (some .int)) (lo0 := [some (.ref hrd), some (.int (zI r)), none, none]) (by decide +kernel) rfl ⟨rfl, rfl⟩ (Nat.le_of_ble_eq_true rfl) rfl ?_
  intro X F T
  change Fx X (YX3_hoursOf l G) at F
  change V X (YX3_hoursOf l G) 0 0 0 _ _ _
  refine V.iconst (q := 1) F dX3_hoursOf_0 rfl ?_
  refine V.istore_n (q := 2) (lo' := [_, _, _, _]) F dX3_hoursOf_1 rfl rfl (Nat.le_of_ble_eq_true rfl) rfl rfl ?_
  refine V.iconst (q := 3) F dX3_hoursOf_2 rfl ?_
  refine V.istore_n (q := 4) (lo' := [_, _, _, _]) F dX3_hoursOf_3 rfl rfl (Nat.le_of_ble_eq_true rfl) rfl rfl ?_
  have L4 : ∀ (nq : Nat) (i S : Int) (hi : 0 ≤ i ∧ i ≤ E) (hS : S = sz (fun i => if rs i = r then hs i else 0) 0 i), (E - i).toNat < nq → V X (YX3_hoursOf l G) 0 0 4 [some (.ref hrd), some (.int (zI r)), some (.int (zI S)), some (.int (zI i))] [] [(hrd, .inr (3, [.ref htx, .ref hrr, .ref hri, .ref hrp, .ref hrh, .int (zI E), .int (zI P)])), (hrr, aI G 16 rs), (hrh, aI G 16 hs)] := by
    intro n4
    induction n4 with
    | zero => intro i S hi hS hm4; exact absurd hm4 (Nat.not_lt_zero _)
    | succ n4 ih4 =>
      intro i S hi hS hm4
      have hbi := hb i
      refine V.iload_n (q := 5) F dX3_hoursOf_4 rfl rfl rfl ?_
      refine V.aload_n (q := 6) F dX3_hoursOf_5 rfl rfl rfl ?_
      refine V.get (q := 9) F 0 5 dX3_hoursOf_6 rfl rfl rfl inX3_hoursOf_X3 (by decide) (List.mem_of_getElem? (i := 1) rfl) rfl ?_
      refine V.icmp_ge (q := 12) (tgt := 37) F dX3_hoursOf_9 rfl (by decide) (by omega) (fun k9 => ?_) (fun k9 => ?_)
      · refine V.iload_n (q := 38) F dX3_hoursOf_37 rfl rfl rfl ?_
        exact V.iret F T dX3_hoursOf_38 (fnI (by rw [hS, show i = E by omega]) rfl) [hrd, hrr, hrh] rfl rfl
      · refine V.aload_n (q := 13) F dX3_hoursOf_12 rfl rfl rfl ?_
        refine V.get (q := 16) F 0 1 dX3_hoursOf_13 rfl rfl rfl inX3_hoursOf_X3 (by decide) (List.mem_of_getElem? (i := 2) rfl) rfl ?_
        refine V.iload_n (q := 17) F dX3_hoursOf_16 rfl rfl rfl ?_
        refine V.iald (q := 18) F 1 dX3_hoursOf_17 rfl rfl (by decide) (by omega) ?_
        refine V.iload_n (q := 19) F dX3_hoursOf_18 rfl rfl rfl ?_
        refine V.icmp_ne (q := 22) (tgt := 31) F dX3_hoursOf_19 rfl (by decide) (by omega) (fun k19 => ?_) (fun k19 => ?_)
        · refine V.iinc (q := 34) (lo' := [_, _, _, _]) F dX3_hoursOf_31 rfl rfl (Nat.le_of_ble_eq_true rfl) rfl rfl ?_
          refine V.goto (tgt := 4) F dX3_hoursOf_34 (by decide) ?_
          exact ih4 (i + 1) _ (by omega) (by rw [sz_succ _ hi.1, ← hS]; first | rw [if_pos k19] | (rw [if_neg k19]; exact (Int.add_zero _).symm)) (by omega)
        · refine V.iload_n (q := 23) F dX3_hoursOf_22 rfl rfl rfl ?_
          refine V.aload_n (q := 24) F dX3_hoursOf_23 rfl rfl rfl ?_
          refine V.get (q := 27) F 0 4 dX3_hoursOf_24 rfl rfl rfl inX3_hoursOf_X3 (by decide) (List.mem_of_getElem? (i := 3) rfl) rfl ?_
          refine V.iload_n (q := 28) F dX3_hoursOf_27 rfl rfl rfl ?_
          refine V.iald (q := 29) F 2 dX3_hoursOf_28 rfl rfl (by decide) (by omega) ?_
          refine V.iadd (q := 30) F dX3_hoursOf_29 rfl ?_
          refine V.istore_n (q := 31) (lo' := [_, _, _, _]) F dX3_hoursOf_30 rfl rfl (Nat.le_of_ble_eq_true rfl) rfl rfl ?_
          refine V.iinc (q := 34) (lo' := [_, _, _, _]) F dX3_hoursOf_31 rfl rfl (Nat.le_of_ble_eq_true rfl) rfl rfl ?_
          refine V.goto (tgt := 4) F dX3_hoursOf_34 (by decide) ?_
          exact ih4 (i + 1) _ (by omega) (by rw [sz_succ _ hi.1, ← hS]; first | rw [if_pos k19] | (rw [if_neg k19]; exact (Int.add_zero _).symm)) (by omega)
  exact L4 _ 0 0 (by omega) (sz_self _ _).symm (Nat.lt_succ_self _)

/-- one entry of a text logged -/
def entA (a : Int → Int) (r d s h : Int) : Int → Int := if d = -1 then upz a (25360 + r) (a (25360 + r) + h) else addW a r d s h

abbrev YX3_addEntry (l : Launch) (G : Gx) : Sx := (cX3_addEntry, 3, RX3, wsX3_addEntry, rmD 2, l, G)
theorem ydX3_addEntry : ydOk yX3_addEntry 2 := by decide +kernel
theorem inX3_addEntry_X3 : ∀ w ∈ wsX30, w ∈ wsX3_addEntry := fun _ h => List.mem_cons_of_mem _ (List.mem_append_left _ (List.mem_append_right _ h))
set_option maxHeartbeats 1000000 in
set_option maxRecDepth 20000 in
theorem c_X3_addEntry (l : Launch) (G : Gx) (hrd htx htr hrr hri hrp hrh hd hr ht : Nat) (a rs ds ss hs : Int → Int) (E P e : Int) (he : 0 ≤ e ∧ e < 16) (hb : (0 ≤ rs e ∧ rs e < 16) ∧ (ds e = -1 ∨ (0 ≤ ds e ∧ ds e < 16 ∧ 1 ≤ ss e ∧ ss e ≤ 99))) : Ct l G yX3_addEntry wsX3_addEntry (rmD 2) [.ref hrd, .ref hd, .int (zI e)] [(hrd, .inr (3, [.ref htx, .ref hrr, .ref hri, .ref hrp, .ref hrh, .int (zI E), .int (zI P)])), (hrr, aI G 16 rs), (hri, aI G 16 ds), (hrp, aI G 16 ss), (hrh, aI G 16 hs), (hd, .inr (0, [.ref hr, .ref ht])), (hr, aI G 26181 a)] (Fn none [(hrd, .inr (3, [.ref htx, .ref hrr, .ref hri, .ref hrp, .ref hrh, .int (zI E), .int (zI P)])), (hrr, aI G 16 rs), (hri, aI G 16 ds), (hrp, aI G 16 ss), (hrh, aI G 16 hs), (hd, .inr (0, [.ref hr, .ref ht])), (hr, aI G 26181 (entA a (rs e) (ds e) (ss e) (hs e)))]) := by
  refine Ct.intro (cc := cX3_addEntry) (maxL := 3) (ret := none) (lo0 := [some (.ref hrd), some (.ref hd), some (.int (zI e))]) (by decide +kernel) rfl ⟨rfl, rfl⟩ (Nat.le_of_ble_eq_true rfl) rfl ?_
  intro X F T
  change Fx X (YX3_addEntry l G) at F
  change V X (YX3_addEntry l G) 0 0 0 _ _ _
  refine V.aload_n (q := 1) F dX3_addEntry_0 rfl rfl rfl ?_
  refine V.get (q := 4) F 0 2 dX3_addEntry_1 rfl rfl rfl inX3_addEntry_X3 (by decide) (List.mem_of_getElem? (i := 1) rfl) rfl ?_
  refine V.iload_n (q := 5) F dX3_addEntry_4 rfl rfl rfl ?_
  refine V.iald (q := 6) F 2 dX3_addEntry_5 rfl rfl (by decide) (by omega) ?_
  refine V.iconst (q := 7) F dX3_addEntry_6 rfl ?_
  refine V.icmp_ne (q := 10) (tgt := 29) F dX3_addEntry_7 rfl (by decide) (by omega) (fun k7 => ?_) (fun k7 => ?_)
  · refine V.aload_n (q := 30) F dX3_addEntry_29 rfl rfl rfl ?_
    refine V.aload_n (q := 31) F dX3_addEntry_30 rfl rfl rfl ?_
    refine V.get (q := 34) F 0 1 dX3_addEntry_31 rfl rfl rfl inX3_addEntry_X3 (by decide) (List.mem_of_getElem? (i := 2) rfl) rfl ?_
    refine V.iload_n (q := 35) F dX3_addEntry_34 rfl rfl rfl ?_
    refine V.iald (q := 36) F 1 dX3_addEntry_35 rfl rfl (by decide) (by omega) ?_
    refine V.aload_n (q := 37) F dX3_addEntry_36 rfl rfl rfl ?_
    refine V.get (q := 40) F 0 2 dX3_addEntry_37 rfl rfl rfl inX3_addEntry_X3 (by decide) (List.mem_of_getElem? (i := 1) rfl) rfl ?_
    refine V.iload_n (q := 41) F dX3_addEntry_40 rfl rfl rfl ?_
    refine V.iald (q := 42) F 2 dX3_addEntry_41 rfl rfl (by decide) (by omega) ?_
    refine V.aload_n (q := 43) F dX3_addEntry_42 rfl rfl rfl ?_
    refine V.get (q := 46) F 0 3 dX3_addEntry_43 rfl rfl rfl inX3_addEntry_X3 (by decide) (List.mem_of_getElem? (i := 4) rfl) rfl ?_
    refine V.iload_n (q := 47) F dX3_addEntry_46 rfl rfl rfl ?_
    refine V.iald (q := 48) F 3 dX3_addEntry_47 rfl rfl (by decide) (by omega) ?_
    refine V.aload_n (q := 49) F dX3_addEntry_48 rfl rfl rfl ?_
    refine V.get (q := 52) F 0 4 dX3_addEntry_49 rfl rfl rfl inX3_addEntry_X3 (by decide) (List.mem_of_getElem? (i := 3) rfl) rfl ?_
    refine V.iload_n (q := 53) F dX3_addEntry_52 rfl rfl rfl ?_
    refine V.iald (q := 54) F 4 dX3_addEntry_53 rfl rfl (by decide) (by omega) ?_
    refine V.callV (q := 57) F [5, 6] 5 dX3_addEntry_54 rfl (c_X0_addWindy l G hd hr ht _ _ _ _ _ (by omega) (by omega) (by omega)) gX3_addEntry_X0_addWindy rfl rfl ydX0_addWindy ⟨Nat.le_of_ble_eq_true rfl, Nat.le_of_ble_eq_true rfl⟩ (ci := 0) rfl rfl rfl rfl (Nat.le_of_ble_eq_true rfl) rfl rfl ⟨Nat.zero_le _, Nat.zero_le _⟩ (kkf (st' := []) (ws' := [_, _, _, _, _, _, _]) rfl rfl ?_)
    exact V.vret F T dX3_addEntry_57 ⟨rfl, (wcons rfl (wcons rfl (wcons rfl (wcons rfl (wcons rfl (wcons rfl (wcons (arEqI (by unfold entA; first | rw [if_pos k7] | rw [if_neg k7])) rfl)))))))⟩ [hrd, hrr, hri, hrp, hrh, hd, hr] rfl rfl
  · refine V.aload_n (q := 11) F dX3_addEntry_10 rfl rfl rfl ?_
    refine V.aload_n (q := 12) F dX3_addEntry_11 rfl rfl rfl ?_
    refine V.get (q := 15) F 0 1 dX3_addEntry_12 rfl rfl rfl inX3_addEntry_X3 (by decide) (List.mem_of_getElem? (i := 2) rfl) rfl ?_
    refine V.iload_n (q := 16) F dX3_addEntry_15 rfl rfl rfl ?_
    refine V.iald (q := 17) F 1 dX3_addEntry_16 rfl rfl (by decide) (by omega) ?_
    refine V.aload_n (q := 18) F dX3_addEntry_17 rfl rfl rfl ?_
    refine V.get (q := 21) F 0 4 dX3_addEntry_18 rfl rfl rfl inX3_addEntry_X3 (by decide) (List.mem_of_getElem? (i := 3) rfl) rfl ?_
    refine V.iload_n (q := 22) F dX3_addEntry_21 rfl rfl rfl ?_
    refine V.iald (q := 23) F 4 dX3_addEntry_22 rfl rfl (by decide) (by omega) ?_
    refine V.callV (q := 26) F [5, 6] 5 dX3_addEntry_23 rfl (c_X0_addCalm l G hd hr ht _ _ _ (by omega)) gX3_addEntry_X0_addCalm rfl rfl ydX0_addCalm ⟨Nat.le_of_ble_eq_true rfl, Nat.le_of_ble_eq_true rfl⟩ (ci := 0) rfl rfl rfl rfl (Nat.le_of_ble_eq_true rfl) rfl rfl ⟨Nat.zero_le _, Nat.zero_le _⟩ (kkf (st' := []) (ws' := [_, _, _, _, _, _, _]) rfl rfl ?_)
    refine V.goto (tgt := 57) F dX3_addEntry_26 (by decide) ?_
    exact V.vret F T dX3_addEntry_57 ⟨rfl, (wcons rfl (wcons rfl (wcons rfl (wcons rfl (wcons rfl (wcons rfl (wcons (arEqI (by unfold entA; first | rw [if_pos k7] | rw [if_neg k7])) rfl)))))))⟩ [hrd, hrr, hri, hrp, hrh, hd, hr] rfl rfl

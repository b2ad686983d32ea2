theorem bsi_w {m g : Int → Int} {i : Int} (hi : 0 ≤ i) : bsi m g (i + 1).toNat = if g i = 0 ∧ (bsi m g i.toNat < 0 ∨ m (bsi m g i.toNat) < m i) then i else bsi m g i.toNat := by
  rw [show (i + 1).toNat = i.toNat + 1 by omega, bsi, Int.toNat_of_nonneg hi]

abbrev YX4_giveOne (l : Launch) (G : Gx) : Sx := (cX4_giveOne, 3, RX4, wsX4_giveOne, rmD 0, l, G)
theorem ydX4_giveOne : ydOk yX4_giveOne 0 := by decide +kernel
theorem inX4_giveOne_X4 : ∀ w ∈ wsX40, w ∈ wsX4_giveOne := fun _ h => List.mem_cons_of_mem _ (List.mem_append_right _ h)
set_option maxHeartbeats 1000000 in
set_option maxRecDepth 20000 in
theorem c_X4_giveOne (l : Launch) (G : Gx) (hs hsr hsm hsg : Nat) (f m g : Int → Int) (mi : Int) (hm : ∀ j, 0 ≤ j → j < 48 → 0 ≤ m j ∧ m j < 10000) (hg : ∀ j, 0 ≤ j → j < 48 → 0 ≤ g j ∧ g j ≤ 1) : Ct l G yX4_giveOne wsX4_giveOne (rmD 0) [.ref hs] [(hs, .inr (4, [.ref hsr, .ref hsm, .ref hsg, .int (zI mi)])), (hsr, aI G 48 f), (hsm, aI G 48 m), (hsg, aZ G 48 g)] (Fn none [(hs, .inr (4, [.ref hsr, .ref hsm, .ref hsg, .int (zI mi)])), (hsr, aI G 48 ((dlS m (f, g)).1)), (hsm, aI G 48 m), (hsg, aZ G 48 ((dlS m (f, g)).2))]) := by
  refine Ct.intro (cc := cX4_giveOne) (maxL := 3) (ret := none) (lo0 := [some (.ref hs), none, none]) (by decide +kernel) rfl ⟨rfl, rfl⟩ (Nat.le_of_ble_eq_true rfl) rfl ?_
  intro X F T
  change Fx X (YX4_giveOne l G) at F
  change V X (YX4_giveOne l G) 0 0 0 _ _ _
  refine V.iconst (q := 1) F dX4_giveOne_0 rfl ?_
  refine V.istore_n (q := 2) (lo' := [_, _, _]) F dX4_giveOne_1 rfl rfl (Nat.le_of_ble_eq_true rfl) rfl rfl ?_
  refine V.iconst (q := 3) F dX4_giveOne_2 rfl ?_
  refine V.istore_n (q := 4) (lo' := [_, _, _]) F dX4_giveOne_3 rfl rfl (Nat.le_of_ble_eq_true rfl) rfl rfl ?_
  have L4 : ∀ (nq : Nat) (i b : Int) (hi : 0 ≤ i ∧ i ≤ 48) (hb : b = bsi m g i.toNat) (hb2 : -1 ≤ b ∧ b < 48 ∧ b < i + 1), (48 - i).toNat < nq → V X (YX4_giveOne l G) 0 0 4 [some (.ref hs), some (.int (zI b)), some (.int (zI i))] [] [(hs, .inr (4, [.ref hsr, .ref hsm, .ref hsg, .int (zI mi)])), (hsr, aI G 48 f), (hsm, aI G 48 m), (hsg, aZ G 48 g)] := by
    intro n4
    induction n4 with
    | zero => intro i b hi hb hb2 hm4; exact absurd hm4 (Nat.not_lt_zero _)
    | succ n4 ih4 =>
      intro i b hi hb hb2 hm4
      have hgi := hg i
      have hmi := hm i
      have hmb := hm b
      refine V.iload_n (q := 5) F dX4_giveOne_4 rfl rfl rfl ?_
      refine V.bipush (q := 7) F dX4_giveOne_5 rfl (by decide) ?_
      refine V.icmp_ge (q := 10) (tgt := 46) F dX4_giveOne_7 rfl (by decide) (by omega) (fun k7 => ?_) (fun k7 => ?_)
      · have he : i = 48 := by omega
        subst he
        have hb3 : bsi m g 48 = b := hb.symm
        refine V.iload_n (q := 47) F dX4_giveOne_46 rfl rfl rfl ?_
        refine V.if_lt (q := 50) (tgt := 67) F dX4_giveOne_47 rfl (by decide) (by omega) (fun k47 => ?_) (fun k47 => ?_)
        · exact V.vret F T dX4_giveOne_67 ⟨rfl, (by unfold dlS; first | (rw [if_pos (by show 0 ≤ bsi m g 48; omega)]; simp only [hb3]) | (rw [if_neg (by show ¬ 0 ≤ bsi m g 48; omega)]))⟩ [hs, hsr, hsm, hsg] rfl rfl
        · refine V.aload_n (q := 51) F dX4_giveOne_50 rfl rfl rfl ?_
          refine V.get (q := 54) F 0 2 dX4_giveOne_51 rfl rfl rfl inX4_giveOne_X4 (by decide) (List.mem_of_getElem? (i := 1) rfl) rfl ?_
          refine V.iload_n (q := 55) F dX4_giveOne_54 rfl rfl rfl ?_
          refine V.iconst (q := 56) F dX4_giveOne_55 rfl ?_
          refine V.zast (q := 57) (ws' := [_, _, _, _]) F 3 dX4_giveOne_56 rfl rfl (by decide) (by omega) (by omega) rfl ?_
          refine V.aload_n (q := 58) F dX4_giveOne_57 rfl rfl rfl ?_
          refine V.get (q := 61) F 0 0 dX4_giveOne_58 rfl rfl rfl inX4_giveOne_X4 (by decide) (List.mem_of_getElem? (i := 3) rfl) rfl ?_
          refine V.iload_n (q := 62) F dX4_giveOne_61 rfl rfl rfl ?_
          refine V.dup2 (q := 63) F dX4_giveOne_62 rfl rfl rfl ?_
          refine V.iald (q := 64) F 1 dX4_giveOne_63 rfl rfl (by decide) (by omega) ?_
          refine V.iconst (q := 65) F dX4_giveOne_64 rfl ?_
          refine V.iadd (q := 66) F dX4_giveOne_65 rfl ?_
          refine V.iast (q := 67) (ws' := [_, _, _, _]) F 1 dX4_giveOne_66 rfl rfl (by decide) (by omega) rfl ?_
          exact V.vret F T dX4_giveOne_67 ⟨rfl, (by unfold dlS; first | (rw [if_pos (by show 0 ≤ bsi m g 48; omega)]; simp only [hb3]) | (rw [if_neg (by show ¬ 0 ≤ bsi m g 48; omega)]))⟩ [hs, hsr, hsm, hsg] rfl rfl
      · refine V.aload_n (q := 11) F dX4_giveOne_10 rfl rfl rfl ?_
        refine V.get (q := 14) F 0 2 dX4_giveOne_11 rfl rfl rfl inX4_giveOne_X4 (by decide) (List.mem_of_getElem? (i := 1) rfl) rfl ?_
        refine V.iload_n (q := 15) F dX4_giveOne_14 rfl rfl rfl ?_
        refine V.zald (q := 16) F 3 dX4_giveOne_15 rfl rfl (by decide) (by omega) ?_
        refine V.if_ne (q := 19) (tgt := 40) F dX4_giveOne_16 rfl (by decide) (by omega) (fun k16 => ?_) (fun k16 => ?_)
        · refine V.iinc (q := 43) (lo' := [_, _, _]) F dX4_giveOne_40 rfl rfl (Nat.le_of_ble_eq_true rfl) rfl rfl ?_
          refine V.goto (tgt := 4) F dX4_giveOne_43 (by decide) ?_
          exact ih4 (i + 1) _ (by omega) (by rw [bsi_w hi.1, ← hb]; first | rw [if_pos (by omega)] | rw [if_neg (by omega)]) (by omega) (by omega)
        · refine V.iload_n (q := 20) F dX4_giveOne_19 rfl rfl rfl ?_
          refine V.if_lt (q := 23) (tgt := 38) F dX4_giveOne_20 rfl (by decide) (by omega) (fun k20 => ?_) (fun k20 => ?_)
          · refine V.iload_n (q := 39) F dX4_giveOne_38 rfl rfl rfl ?_
            refine V.istore_n (q := 40) (lo' := [_, _, _]) F dX4_giveOne_39 rfl rfl (Nat.le_of_ble_eq_true rfl) rfl rfl ?_
            refine V.iinc (q := 43) (lo' := [_, _, _]) F dX4_giveOne_40 rfl rfl (Nat.le_of_ble_eq_true rfl) rfl rfl ?_
            refine V.goto (tgt := 4) F dX4_giveOne_43 (by decide) ?_
            exact ih4 (i + 1) _ (by omega) (by rw [bsi_w hi.1, ← hb]; first | rw [if_pos (by omega)] | rw [if_neg (by omega)]) (by omega) (by omega)
          · refine V.aload_n (q := 24) F dX4_giveOne_23 rfl rfl rfl ?_
            refine V.get (q := 27) F 0 1 dX4_giveOne_24 rfl rfl rfl inX4_giveOne_X4 (by decide) (List.mem_of_getElem? (i := 2) rfl) rfl ?_
            refine V.iload_n (q := 28) F dX4_giveOne_27 rfl rfl rfl ?_
            refine V.iald (q := 29) F 2 dX4_giveOne_28 rfl rfl (by decide) (by omega) ?_
            refine V.aload_n (q := 30) F dX4_giveOne_29 rfl rfl rfl ?_
            refine V.get (q := 33) F 0 1 dX4_giveOne_30 rfl rfl rfl inX4_giveOne_X4 (by decide) (List.mem_of_getElem? (i := 2) rfl) rfl ?_
            refine V.iload_n (q := 34) F dX4_giveOne_33 rfl rfl rfl ?_
            refine V.iald (q := 35) F 2 dX4_giveOne_34 rfl rfl (by decide) (by omega) ?_
            refine V.icmp_le (q := 38) (tgt := 40) F dX4_giveOne_35 rfl (by decide) (by omega) (fun k35 => ?_) (fun k35 => ?_)
            · refine V.iinc (q := 43) (lo' := [_, _, _]) F dX4_giveOne_40 rfl rfl (Nat.le_of_ble_eq_true rfl) rfl rfl ?_
              refine V.goto (tgt := 4) F dX4_giveOne_43 (by decide) ?_
              exact ih4 (i + 1) _ (by omega) (by rw [bsi_w hi.1, ← hb]; first | rw [if_pos (by omega)] | rw [if_neg (by omega)]) (by omega) (by omega)
            · refine V.iload_n (q := 39) F dX4_giveOne_38 rfl rfl rfl ?_
              refine V.istore_n (q := 40) (lo' := [_, _, _]) F dX4_giveOne_39 rfl rfl (Nat.le_of_ble_eq_true rfl) rfl rfl ?_
              refine V.iinc (q := 43) (lo' := [_, _, _]) F dX4_giveOne_40 rfl rfl (Nat.le_of_ble_eq_true rfl) rfl rfl ?_
              refine V.goto (tgt := 4) F dX4_giveOne_43 (by decide) ?_
              exact ih4 (i + 1) _ (by omega) (by rw [bsi_w hi.1, ← hb]; first | rw [if_pos (by omega)] | rw [if_neg (by omega)]) (by omega) (by omega)
  exact L4 _ 0 (-1) (by omega) rfl (by omega) (Nat.lt_succ_self _)

abbrev YX4_fillByRank (l : Launch) (G : Gx) : Sx := (cX4_fillByRank, 4, RX4, wsX4_fillByRank, rmD 3, l, G)
theorem ydX4_fillByRank : ydOk yX4_fillByRank 2 := by decide +kernel
theorem inX4_fillByRank_X4 : ∀ w ∈ wsX40, w ∈ wsX4_fillByRank := fun _ h => List.mem_cons_of_mem _ (List.mem_append_left _ (List.mem_append_right _ h))
set_option maxHeartbeats 1000000 in
set_option maxRecDepth 20000 in
theorem c_X4_fillByRank (l : Launch) (G : Gx) (hs hsr hsm hsg hd hr ht : Nat) (a f m : Int → Int) (mi r : Int) (h1 : 0 ≤ r ∧ r < 16) (hI : Inv a) : Ct l G yX4_fillByRank wsX4_fillByRank (rmD 3) [.ref hs, .ref hd, .int (zI r)] [(hs, .inr (4, [.ref hsr, .ref hsm, .ref hsg, .int (zI mi)])), (hsr, aI G 48 f), (hsm, aI G 48 m), (hd, .inr (0, [.ref hr, .ref ht])), (hr, aI G 26181 a)] (Fn none [(hs, .inr (4, [.ref hsr, .ref hsm, .ref hsg, .int (zI (mis a r))])), (hsr, aI G 48 (fil (shr a r) f 48)), (hsm, aI G 48 (fil (srm a r) m 48)), (hd, .inr (0, [.ref hr, .ref ht])), (hr, aI G 26181 a)]) := by
  refine Ct.intro (cc := cX4_fillByRank) (maxL := 4) (ret := none) (lo0 := [some (.ref hs), some (.ref hd), some (.int (zI r)), none]) (by decide +kernel) rfl ⟨rfl, rfl⟩ (Nat.le_of_ble_eq_true rfl) rfl ?_
  intro X F T
  change Fx X (YX4_fillByRank l G) at F
  change V X (YX4_fillByRank l G) 0 0 0 _ _ _
  refine V.aload_n (q := 1) F dX4_fillByRank_0 rfl rfl rfl ?_
  refine V.aload_n (q := 2) F dX4_fillByRank_1 rfl rfl rfl ?_
  refine V.iload_n (q := 3) F dX4_fillByRank_2 rfl rfl rfl ?_
  refine V.callV (q := 6) F [0, 1, 2, 3, 4] 0 dX4_fillByRank_3 rfl (c_X4_divide l G hs hsr hsm hsg hd hr ht _ _ _ _ _ (by omega) hI) gX4_fillByRank_X4_divide rfl rfl ydX4_divide ⟨Nat.le_of_ble_eq_true rfl, Nat.le_of_ble_eq_true rfl⟩ (ci := 4) rfl rfl rfl rfl (Nat.le_of_ble_eq_true rfl) rfl rfl ⟨Nat.zero_le _, Nat.zero_le _⟩ (kkf (st' := []) (ws' := [_, _, _, _, _]) rfl rfl ?_)
  refine V.iconst (q := 7) F dX4_fillByRank_6 rfl ?_
  refine V.istore_n (q := 8) (lo' := [_, _, _, _]) F dX4_fillByRank_7 rfl rfl (Nat.le_of_ble_eq_true rfl) rfl rfl ?_
  have L8 : ∀ (nq : Nat) (i : Int) (hi : 0 ≤ i ∧ i ≤ 48), (48 - i).toNat < nq → V X (YX4_fillByRank l G) 0 0 8 [some (.ref hs), some (.ref hd), some (.int (zI r)), some (.int (zI i))] [] [(hs, .inr (4, [.ref hsr, .ref hsm, .ref hsg, .int (zI (mis a r))])), (hsr, aI G 48 (fil (shr a r) (fil (shq a r) f 48) i)), (hsm, aI G 48 (fil (srm a r) m 48)), (hd, .inr (0, [.ref hr, .ref ht])), (hr, aI G 26181 a)] := by
    intro n8
    induction n8 with
    | zero => intro i hi hm8; exact absurd hm8 (Nat.not_lt_zero _)
    | succ n8 ih8 =>
      intro i hi hm8
      have hml := mis_rng hI h1
      have hpl := pah_rng (srm a r) i
      refine V.iload_n (q := 9) F dX4_fillByRank_8 rfl rfl rfl ?_
      refine V.bipush (q := 11) F dX4_fillByRank_9 rfl (by decide) ?_
      refine V.icmp_ge (q := 14) (tgt := 51) F dX4_fillByRank_11 rfl (by decide) (by omega) (fun k11 => ?_) (fun k11 => ?_)
      · have he : i = 48 := by omega
        subst he
        rw [fil_fil]
        exact V.vret F T dX4_fillByRank_51 ⟨rfl, rfl⟩ [hs, hsr, hsm, hd, hr] rfl rfl
      · have J45 : ∀ (w : Int → Int) (hw : w = fil (shr a r) (fil (shq a r) f 48) (i + 1)), V X (YX4_fillByRank l G) 0 0 45 [some (.ref hs), some (.ref hd), some (.int (zI r)), some (.int (zI i))] [] [(hs, .inr (4, [.ref hsr, .ref hsm, .ref hsg, .int (zI (mis a r))])), (hsr, aI G 48 w), (hsm, aI G 48 (fil (srm a r) m 48)), (hd, .inr (0, [.ref hr, .ref ht])), (hr, aI G 26181 a)] := by
          intro w hw
          subst hw
          refine V.iinc (q := 48) (lo' := [_, _, _, _]) F dX4_fillByRank_45 rfl rfl (Nat.le_of_ble_eq_true rfl) rfl rfl ?_
          refine V.goto (tgt := 8) F dX4_fillByRank_48 (by decide) ?_
          exact ih8 (i + 1) (by omega) (by omega)
        refine V.aload_n (q := 15) F dX4_fillByRank_14 rfl rfl rfl ?_
        refine V.get (q := 18) F 0 1 dX4_fillByRank_15 rfl rfl rfl inX4_fillByRank_X4 (by decide) (List.mem_of_getElem? (i := 1) rfl) rfl ?_
        refine V.iload_n (q := 19) F dX4_fillByRank_18 rfl rfl rfl ?_
        refine V.iald (q := 20) F 2 dX4_fillByRank_19 rfl rfl (by decide) (by omega) ?_
        rw [fil_in (srm a r) m hi.1 (show i < 48 by omega)]
        have hml2 := srm_rng hI h1 (p := i) (by omega)
        refine V.if_le (q := 23) (tgt := 45) F dX4_fillByRank_20 rfl (by decide) (by omega) (fun k20 => ?_) (fun k20 => ?_)
        · exact J45 _ (by first | exact fil_s (shr a r) _ hi.1 (by rw [fil_out _ _ (Or.inr (Int.le_refl i)), fil_in _ _ hi.1 (by omega)]; unfold shr; rw [if_pos ⟨by omega, by omega⟩]) | (rw [← fil_s (shr a r) _ hi.1 rfl]; funext j; unfold upz; split <;> first | rfl | (rename_i hj; subst hj; rw [fil_out _ _ (Or.inr (Int.le_refl _)), fil_in _ _ hi.1 (by omega)]; unfold shr; rw [if_neg (by omega)]; exact (Int.add_zero _).symm)))
        · refine V.aload_n (q := 24) F dX4_fillByRank_23 rfl rfl rfl ?_
          refine V.iload_n (q := 25) F dX4_fillByRank_24 rfl rfl rfl ?_
          refine V.callV (q := 28) F [0, 2] 0 dX4_fillByRank_25 rfl (c_X4_partsAhead l G hs hsr hsm hsg _ _ _ (fun j h3 h4 => by rw [fil_in _ _ h3 h4]; have := srm_rng hI h1 (p := j) ⟨h3, h4⟩; omega) (by omega)) gX4_fillByRank_X4_partsAhead rfl rfl ydX4_partsAhead ⟨Nat.le_of_ble_eq_true rfl, Nat.le_of_ble_eq_true rfl⟩ (ci := 4) rfl rfl rfl rfl (Nat.le_of_ble_eq_true rfl) rfl rfl ⟨Nat.zero_le _, Nat.zero_le _⟩ (kkf (st' := [_]) (ws' := [_, _, _, _, _]) rfl rfl ?_)
          rw [pah_congr (m' := srm a r) (fun j h3 h4 => fil_in _ _ h3 h4) (show 0 ≤ i ∧ i < 48 by omega)]
          refine V.aload_n (q := 29) F dX4_fillByRank_28 rfl rfl rfl ?_
          refine V.get (q := 32) F 0 3 dX4_fillByRank_29 rfl rfl rfl inX4_fillByRank_X4 (by decide) (List.mem_of_getElem? (i := 2) rfl) rfl ?_
          refine V.icmp_ge (q := 35) (tgt := 45) F dX4_fillByRank_32 rfl (by decide) (by omega) (fun k32 => ?_) (fun k32 => ?_)
          · exact J45 _ (by first | exact fil_s (shr a r) _ hi.1 (by rw [fil_out _ _ (Or.inr (Int.le_refl i)), fil_in _ _ hi.1 (by omega)]; unfold shr; rw [if_pos ⟨by omega, by omega⟩]) | (rw [← fil_s (shr a r) _ hi.1 rfl]; funext j; unfold upz; split <;> first | rfl | (rename_i hj; subst hj; rw [fil_out _ _ (Or.inr (Int.le_refl _)), fil_in _ _ hi.1 (by omega)]; unfold shr; rw [if_neg (by omega)]; exact (Int.add_zero _).symm)))
          · refine V.aload_n (q := 36) F dX4_fillByRank_35 rfl rfl rfl ?_
            refine V.get (q := 39) F 0 0 dX4_fillByRank_36 rfl rfl rfl inX4_fillByRank_X4 (by decide) (List.mem_of_getElem? (i := 3) rfl) rfl ?_
            refine V.iload_n (q := 40) F dX4_fillByRank_39 rfl rfl rfl ?_
            refine V.dup2 (q := 41) F dX4_fillByRank_40 rfl rfl rfl ?_
            refine V.iald (q := 42) F 1 dX4_fillByRank_41 rfl rfl (by decide) (by omega) ?_
            refine V.iconst (q := 43) F dX4_fillByRank_42 rfl ?_
            refine V.iadd (q := 44) F dX4_fillByRank_43 rfl ?_
            refine V.iast (q := 45) (ws' := [_, _, _, _, _]) F 1 dX4_fillByRank_44 rfl rfl (by decide) (by omega) rfl ?_
            exact J45 _ (by first | exact fil_s (shr a r) _ hi.1 (by rw [fil_out _ _ (Or.inr (Int.le_refl i)), fil_in _ _ hi.1 (by omega)]; unfold shr; rw [if_pos ⟨by omega, by omega⟩]) | (rw [← fil_s (shr a r) _ hi.1 rfl]; funext j; unfold upz; split <;> first | rfl | (rename_i hj; subst hj; rw [fil_out _ _ (Or.inr (Int.le_refl _)), fil_in _ _ hi.1 (by omega)]; unfold shr; rw [if_neg (by omega)]; exact (Int.add_zero _).symm)))
  refine V.eq (pc' := 8) (lo' := [_, _, _, _]) (st' := []) (ws' := [_, (hsr, aI G 48 (fil (shr a r) (fil (shq a r) f 48) 0)), _, _, _]) rfl rfl rfl (by rw [fil_0]) ?_
  exact L8 _ 0 (by omega) (Nat.lt_succ_self _)

abbrev YX4_fillByDealing (l : Launch) (G : Gx) : Sx := (cX4_fillByDealing, 4, RX4, wsX4_fillByDealing, rmD 3, l, G)
theorem ydX4_fillByDealing : ydOk yX4_fillByDealing 2 := by decide +kernel
theorem inX4_fillByDealing_X4 : ∀ w ∈ wsX40, w ∈ wsX4_fillByDealing := fun _ h => List.mem_cons_of_mem _ (List.mem_append_left _ (List.mem_append_right _ h))
set_option maxHeartbeats 1000000 in
set_option maxRecDepth 20000 in
theorem c_X4_fillByDealing (l : Launch) (G : Gx) (hs hsr hsm hsg hd hr ht : Nat) (a f m g : Int → Int) (mi r : Int) (h1 : 0 ≤ r ∧ r < 16) (hI : Inv a) : Ct l G yX4_fillByDealing wsX4_fillByDealing (rmD 3) [.ref hs, .ref hd, .int (zI r)] [(hs, .inr (4, [.ref hsr, .ref hsm, .ref hsg, .int (zI mi)])), (hsr, aI G 48 f), (hsm, aI G 48 m), (hsg, aZ G 48 g), (hd, .inr (0, [.ref hr, .ref ht])), (hr, aI G 26181 a)] (Fn none [(hs, .inr (4, [.ref hsr, .ref hsm, .ref hsg, .int (zI (mis a r))])), (hsr, aI G 48 ((dlN (fil (srm a r) m 48) (fil (shq a r) f 48, fil (fun _ => 0) g 48) (mis a r).toNat).1)), (hsm, aI G 48 (fil (srm a r) m 48)), (hsg, aZ G 48 ((dlN (fil (srm a r) m 48) (fil (shq a r) f 48, fil (fun _ => 0) g 48) (mis a r).toNat).2)), (hd, .inr (0, [.ref hr, .ref ht])), (hr, aI G 26181 a)]) := by
  refine Ct.intro (cc := cX4_fillByDealing) (maxL := 4) (ret := none) (lo0 := [some (.ref hs), some (.ref hd), some (.int (zI r)), none]) (by decide +kernel) rfl ⟨rfl, rfl⟩ (Nat.le_of_ble_eq_true rfl) rfl ?_
  intro X F T
  change Fx X (YX4_fillByDealing l G) at F
  change V X (YX4_fillByDealing l G) 0 0 0 _ _ _
  refine V.aload_n (q := 1) F dX4_fillByDealing_0 rfl rfl rfl ?_
  refine V.aload_n (q := 2) F dX4_fillByDealing_1 rfl rfl rfl ?_
  refine V.iload_n (q := 3) F dX4_fillByDealing_2 rfl rfl rfl ?_
  refine V.callV (q := 6) F [0, 1, 2, 4, 5] 0 dX4_fillByDealing_3 rfl (c_X4_divide l G hs hsr hsm hsg hd hr ht _ _ _ _ _ (by omega) hI) gX4_fillByDealing_X4_divide rfl rfl ydX4_divide ⟨Nat.le_of_ble_eq_true rfl, Nat.le_of_ble_eq_true rfl⟩ (ci := 4) rfl rfl rfl rfl (Nat.le_of_ble_eq_true rfl) rfl rfl ⟨Nat.zero_le _, Nat.zero_le _⟩ (kkf (st' := []) (ws' := [_, _, _, _, _, _]) rfl rfl ?_)
  refine V.iconst (q := 7) F dX4_fillByDealing_6 rfl ?_
  refine V.istore_n (q := 8) (lo' := [_, _, _, _]) F dX4_fillByDealing_7 rfl rfl (Nat.le_of_ble_eq_true rfl) rfl rfl ?_
  have L8 : ∀ (nq : Nat) (i : Int) (hi : 0 ≤ i ∧ i ≤ 48), (48 - i).toNat < nq → V X (YX4_fillByDealing l G) 0 0 8 [some (.ref hs), some (.ref hd), some (.int (zI r)), some (.int (zI i))] [] [(hs, .inr (4, [.ref hsr, .ref hsm, .ref hsg, .int (zI (mis a r))])), (hsr, aI G 48 (fil (shq a r) f 48)), (hsm, aI G 48 (fil (srm a r) m 48)), (hsg, aZ G 48 (fil (fun _ => 0) g i)), (hd, .inr (0, [.ref hr, .ref ht])), (hr, aI G 26181 a)] := by
    intro n8
    induction n8 with
    | zero => intro i hi hm8; exact absurd hm8 (Nat.not_lt_zero _)
    | succ n8 ih8 =>
      intro i hi hm8
      refine V.iload_n (q := 9) F dX4_fillByDealing_8 rfl rfl rfl ?_
      refine V.bipush (q := 11) F dX4_fillByDealing_9 rfl (by decide) ?_
      refine V.icmp_ge (q := 14) (tgt := 27) F dX4_fillByDealing_11 rfl (by decide) (by omega) (fun k11 => ?_) (fun k11 => ?_)
      · have he : i = 48 := by omega
        subst he
        refine V.iconst (q := 28) F dX4_fillByDealing_27 rfl ?_
        refine V.istore_n (q := 29) (lo' := [_, _, _, _]) F dX4_fillByDealing_28 rfl rfl (Nat.le_of_ble_eq_true rfl) rfl rfl ?_
        have L29 : ∀ (nq : Nat) (i : Int) (hi2 : 0 ≤ i ∧ (i ≤ mis a r ∨ i = 0)), (mis a r - i).toNat < nq → V X (YX4_fillByDealing l G) 0 0 29 [some (.ref hs), some (.ref hd), some (.int (zI r)), some (.int (zI i))] [] [(hs, .inr (4, [.ref hsr, .ref hsm, .ref hsg, .int (zI (mis a r))])), (hsr, aI G 48 ((dlN (fil (srm a r) m 48) (fil (shq a r) f 48, fil (fun _ => 0) g 48) i.toNat).1)), (hsm, aI G 48 (fil (srm a r) m 48)), (hsg, aZ G 48 ((dlN (fil (srm a r) m 48) (fil (shq a r) f 48, fil (fun _ => 0) g 48) i.toNat).2)), (hd, .inr (0, [.ref hr, .ref ht])), (hr, aI G 26181 a)] := by
          intro n29
          induction n29 with
          | zero => intro i hi2 hm29; exact absurd hm29 (Nat.not_lt_zero _)
          | succ n29 ih29 =>
            intro i hi2 hm29
            have hml := mis_rng hI h1
            refine V.iload_n (q := 30) F dX4_fillByDealing_29 rfl rfl rfl ?_
            refine V.aload_n (q := 31) F dX4_fillByDealing_30 rfl rfl rfl ?_
            refine V.get (q := 34) F 0 3 dX4_fillByDealing_31 rfl rfl rfl inX4_fillByDealing_X4 (by decide) (List.mem_of_getElem? (i := 2) rfl) rfl ?_
            refine V.icmp_ge (q := 37) (tgt := 47) F dX4_fillByDealing_34 rfl (by decide) (by omega) (fun k34 => ?_) (fun k34 => ?_)
            · have he : i.toNat = (mis a r).toNat := by omega
              rw [he]
              exact V.vret F T dX4_fillByDealing_47 ⟨rfl, rfl⟩ [hs, hsr, hsm, hsg, hd, hr] rfl rfl
            · refine V.aload_n (q := 38) F dX4_fillByDealing_37 rfl rfl rfl ?_
              refine V.callV (q := 41) F [0, 1, 2, 3] 0 dX4_fillByDealing_38 rfl (c_X4_giveOne l G hs hsr hsm hsg _ _ _ _ (fun j h3 h4 => by rw [fil_in _ _ h3 h4]; have := srm_rng hI h1 (p := j) ⟨h3, h4⟩; omega) (dlN_01 _ _ (fun j h3 h4 => by show 0 ≤ fil (fun _ => 0) g 48 j ∧ fil (fun _ => 0) g 48 j ≤ 1; rw [fil_in _ _ h3 h4]; omega) _)) gX4_fillByDealing_X4_giveOne rfl rfl ydX4_giveOne ⟨Nat.le_of_ble_eq_true rfl, Nat.le_of_ble_eq_true rfl⟩ (ci := 4) rfl rfl rfl rfl (Nat.le_of_ble_eq_true rfl) rfl rfl ⟨Nat.zero_le _, Nat.zero_le _⟩ (kkf (st' := []) (ws' := [_, _, _, _, _, _]) rfl rfl ?_)
              refine V.eq (pc' := 41) (lo' := [_, _, _, _]) (st' := []) (ws' := [_, (hsr, aI G 48 (dlN (fil (srm a r) m 48) (fil (shq a r) f 48, fil (fun _ => 0) g 48) (i + 1).toNat).1), _, (hsg, aZ G 48 (dlN (fil (srm a r) m 48) (fil (shq a r) f 48, fil (fun _ => 0) g 48) (i + 1).toNat).2), _, _]) rfl rfl rfl (by rw [show (i + 1).toNat = i.toNat + 1 by omega]; rfl) ?_
              refine V.iinc (q := 44) (lo' := [_, _, _, _]) F dX4_fillByDealing_41 rfl rfl (Nat.le_of_ble_eq_true rfl) rfl rfl ?_
              refine V.goto (tgt := 29) F dX4_fillByDealing_44 (by decide) ?_
              exact ih29 (i + 1) (by omega) (by omega)
        exact L29 _ 0 (by omega) (Nat.lt_succ_self _)
      · refine V.aload_n (q := 15) F dX4_fillByDealing_14 rfl rfl rfl ?_
        refine V.get (q := 18) F 0 2 dX4_fillByDealing_15 rfl rfl rfl inX4_fillByDealing_X4 (by decide) (List.mem_of_getElem? (i := 1) rfl) rfl ?_
        refine V.iload_n (q := 19) F dX4_fillByDealing_18 rfl rfl rfl ?_
        refine V.iconst (q := 20) F dX4_fillByDealing_19 rfl ?_
        refine V.zast (q := 21) (ws' := [_, _, _, _, _, _]) F 3 dX4_fillByDealing_20 rfl rfl (by decide) (by omega) (by omega) rfl ?_
        rw [fil_s _ _ hi.1 rfl]
        refine V.iinc (q := 24) (lo' := [_, _, _, _]) F dX4_fillByDealing_21 rfl rfl (Nat.le_of_ble_eq_true rfl) rfl rfl ?_
        refine V.goto (tgt := 8) F dX4_fillByDealing_24 (by decide) ?_
        exact ih8 (i + 1) (by omega) (by omega)
  refine V.eq (pc' := 8) (lo' := [_, _, _, _]) (st' := []) (ws' := [_, _, _, (hsg, aZ G 48 (fil (fun _ => 0) g 0)), _, _]) rfl rfl rfl (by rw [fil_0]) ?_
  exact L8 _ 0 (by omega) (Nat.lt_succ_self _)

abbrev YX1_compare (l : Launch) (G : Gx) : Sx := (cX1_compare, 3, RX1, wsX1_compare, rmD 1, l, G)
theorem ydX1_compare : ydOk yX1_compare 2 := by decide +kernel
theorem inX1_compare_X1 : ∀ w ∈ wsX10, w ∈ wsX1_compare := fun _ h => List.mem_cons_of_mem _ (List.mem_append_right _ h)
set_option maxHeartbeats 1000000 in
set_option maxRecDepth 20000 in
theorem c_X1_compare (l : Launch) (G : Gx) (hg hs : Nat) (df ds sc e d : Int) (h1 : -100000 ≤ e ∧ e ≤ 100000) (h2 : -100000 ≤ d ∧ d ≤ 100000) : Ct l G yX1_compare wsX1_compare (rmD 1) [.ref hg, .int (zI e), .int (zI d)] [(hg, .inr (1, [.ref hs, .int (zI df), .int (zI ds), .int (zI sc)]))] (Fn none [(hg, .inr (1, [.ref hs, .int (zI (df + (if e = d then 0 else 1))), .int (zI (ds + absz (e - d))), .int (zI (sc + (if d < e then 1 else 0)))]))]) := by
  refine Ct.intro (cc := cX1_compare) (maxL := 3) (ret := none) (lo0 := [some (.ref hg), some (.int (zI e)), some (.int (zI d))]) (by decide +kernel) rfl ⟨rfl, rfl⟩ (Nat.le_of_ble_eq_true rfl) rfl ?_
  intro X F T
  change Fx X (YX1_compare l G) at F
  change V X (YX1_compare l G) 0 0 0 _ _ _
  have J15 : ∀ (x : Int) (hx : x = df + (if e = d then 0 else 1)), V X (YX1_compare l G) 0 0 15 [some (.ref hg), some (.int (zI e)), some (.int (zI d))] [] [(hg, .inr (1, [.ref hs, .int (zI x), .int (zI ds), .int (zI sc)]))] := by
    intro x hx
    have J30 : ∀ (y : Int) (hy : y = sc + (if d < e then 1 else 0)), V X (YX1_compare l G) 0 0 30 [some (.ref hg), some (.int (zI e)), some (.int (zI d))] [] [(hg, .inr (1, [.ref hs, .int (zI x), .int (zI ds), .int (zI y)]))] := by
      intro y hy
      refine V.aload_n (q := 31) F dX1_compare_30 rfl rfl rfl ?_
      refine V.dup (q := 32) F dX1_compare_31 rfl rfl ?_
      refine V.get (q := 35) F 0 2 dX1_compare_32 rfl rfl rfl inX1_compare_X1 (by decide) (List.mem_of_getElem? (i := 3) rfl) rfl ?_
      refine V.iload_n (q := 36) F dX1_compare_35 rfl rfl rfl ?_
      refine V.iload_n (q := 37) F dX1_compare_36 rfl rfl rfl ?_
      refine V.isub (q := 38) F dX1_compare_37 rfl ?_
      refine V.mabs (q := 41) F dX1_compare_38 rfl (List.mem_of_getElem? (i := 4) rfl) (List.mem_of_getElem? (i := 5) rfl) (List.mem_of_getElem? (i := 6) rfl) (List.mem_of_getElem? (i := 7) rfl) (Nat.le_of_ble_eq_true rfl) (Nat.le_of_ble_eq_true rfl) ⟨Nat.zero_le _, Nat.zero_le _⟩ (by omega) ?_
      refine V.iadd (q := 42) F dX1_compare_41 rfl ?_
      refine V.put (q := 45) (ws' := [_]) (fs' := [_, _, _, _]) F 0 2 dX1_compare_42 rfl rfl rfl inX1_compare_X1 tyX1 tyX1_ok nmX1 (by decide) (List.mem_of_getElem? (i := 3) rfl) rfl rfl rfl rfl (Nat.le_of_ble_eq_true rfl) rfl rfl ?_
      exact V.vret F T dX1_compare_45 ⟨rfl, (by subst hx; subst hy; rfl)⟩ [hg] rfl rfl
    refine V.iload_n (q := 16) F dX1_compare_15 rfl rfl rfl ?_
    refine V.iload_n (q := 17) F dX1_compare_16 rfl rfl rfl ?_
    refine V.icmp_le (q := 20) (tgt := 30) F dX1_compare_17 rfl (by decide) (by omega) (fun k17 => ?_) (fun k17 => ?_)
    · exact J30 _ (by first | (rw [if_neg (by omega)]; omega) | (rw [if_pos (by omega)]))
    · refine V.aload_n (q := 21) F dX1_compare_20 rfl rfl rfl ?_
      refine V.dup (q := 22) F dX1_compare_21 rfl rfl ?_
      refine V.get (q := 25) F 0 3 dX1_compare_22 rfl rfl rfl inX1_compare_X1 (by decide) (List.mem_of_getElem? (i := 2) rfl) rfl ?_
      refine V.iconst (q := 26) F dX1_compare_25 rfl ?_
      refine V.iadd (q := 27) F dX1_compare_26 rfl ?_
      refine V.put (q := 30) (ws' := [_]) (fs' := [_, _, _, _]) F 0 3 dX1_compare_27 rfl rfl rfl inX1_compare_X1 tyX1 tyX1_ok nmX1 (by decide) (List.mem_of_getElem? (i := 2) rfl) rfl rfl rfl rfl (Nat.le_of_ble_eq_true rfl) rfl rfl ?_
      exact J30 _ (by first | (rw [if_neg (by omega)]; omega) | (rw [if_pos (by omega)]))
  refine V.iload_n (q := 1) F dX1_compare_0 rfl rfl rfl ?_
  refine V.iload_n (q := 2) F dX1_compare_1 rfl rfl rfl ?_
  refine V.icmp_eq (q := 5) (tgt := 15) F dX1_compare_2 rfl (by decide) (by omega) (fun k2 => ?_) (fun k2 => ?_)
  · exact J15 _ (by first | (rw [if_pos k2]; omega) | (rw [if_neg k2]))
  · refine V.aload_n (q := 6) F dX1_compare_5 rfl rfl rfl ?_
    refine V.dup (q := 7) F dX1_compare_6 rfl rfl ?_
    refine V.get (q := 10) F 0 1 dX1_compare_7 rfl rfl rfl inX1_compare_X1 (by decide) (List.mem_of_getElem? (i := 1) rfl) rfl ?_
    refine V.iconst (q := 11) F dX1_compare_10 rfl ?_
    refine V.iadd (q := 12) F dX1_compare_11 rfl ?_
    refine V.put (q := 15) (ws' := [_]) (fs' := [_, _, _, _]) F 0 1 dX1_compare_12 rfl rfl rfl inX1_compare_X1 tyX1 tyX1_ok nmX1 (by decide) (List.mem_of_getElem? (i := 1) rfl) rfl rfl rfl rfl (Nat.le_of_ble_eq_true rfl) rfl rfl ?_
    exact J15 _ (by first | (rw [if_pos k2]; omega) | (rw [if_neg k2]))

abbrev YX1_measure (l : Launch) (G : Gx) : Sx := (cX1_measure, 4, RX1, wsX1_measure, rmD 4, l, G)
theorem ydX1_measure : ydOk yX1_measure 2 := by decide +kernel
theorem inX1_measure_X1 : ∀ w ∈ wsX10, w ∈ wsX1_measure := fun _ h => List.mem_cons_of_mem _ (List.mem_append_left _ (List.mem_append_left _ (List.mem_append_right _ h)))
theorem inX1_measure_X4 : ∀ w ∈ wsX40, w ∈ wsX1_measure := fun _ h => List.mem_cons_of_mem _ (List.mem_append_left _ (List.mem_append_right _ h))
set_option maxHeartbeats 1000000 in
set_option maxRecDepth 20000 in
theorem c_X1_measure (l : Launch) (G : Gx) (hg hs hsr hsm hsg hd hr ht : Nat) (a f m : Int → Int) (df ds sc mi r : Int) (h1 : 0 ≤ r ∧ r < 16) (hI : Inv a) : Ct l G yX1_measure wsX1_measure (rmD 4) [.ref hg, .ref hd, .int (zI r)] [(hg, .inr (1, [.ref hs, .int (zI df), .int (zI ds), .int (zI sc)])), (hs, .inr (4, [.ref hsr, .ref hsm, .ref hsg, .int (zI mi)])), (hsr, aI G 48 f), (hsm, aI G 48 m), (hd, .inr (0, [.ref hr, .ref ht])), (hr, aI G 26181 a)] (Fn none [(hg, .inr (1, [.ref hs, .int (zI (difz a r)), .int (zI (disz a r)), .int (zI (scrz a r))])), (hs, .inr (4, [.ref hsr, .ref hsm, .ref hsg, .int (zI (mis a r))])), (hsr, aI G 48 (fil (shr a r) f 48)), (hsm, aI G 48 (fil (srm a r) m 48)), (hd, .inr (0, [.ref hr, .ref ht])), (hr, aI G 26181 a)]) := by
  refine Ct.intro (cc := cX1_measure) (maxL := 4) (ret := none) (lo0 := [some (.ref hg), some (.ref hd), some (.int (zI r)), none]) (by decide +kernel) rfl ⟨rfl, rfl⟩ (Nat.le_of_ble_eq_true rfl) rfl ?_
  intro X F T
  change Fx X (YX1_measure l G) at F
  change V X (YX1_measure l G) 0 0 0 _ _ _
  have hw := hI.w h1
  have hgc := hI.p (j := 26144 + r) (by omega) (by omega)
  have hgs := cshz_rng hI h1
  refine V.aload_n (q := 1) F dX1_measure_0 rfl rfl rfl ?_
  refine V.get (q := 4) F 0 0 dX1_measure_1 rfl rfl rfl inX1_measure_X1 (by decide) (List.mem_of_getElem? (i := 1) rfl) rfl ?_
  refine V.aload_n (q := 5) F dX1_measure_4 rfl rfl rfl ?_
  refine V.iload_n (q := 6) F dX1_measure_5 rfl rfl rfl ?_
  refine V.callV (q := 9) F [1, 2, 3, 4, 5] 1 dX1_measure_6 rfl (c_X4_fillByRank l G hs hsr hsm hsg hd hr ht _ _ _ _ _ (by omega) hI) gX1_measure_X4_fillByRank rfl rfl ydX4_fillByRank ⟨Nat.le_of_ble_eq_true rfl, Nat.le_of_ble_eq_true rfl⟩ (ci := 4) rfl rfl rfl rfl (Nat.le_of_ble_eq_true rfl) rfl rfl ⟨Nat.zero_le _, Nat.zero_le _⟩ (kkf (st' := []) (ws' := [_, _, _, _, _, _]) rfl rfl ?_)
  refine V.aload_n (q := 10) F dX1_measure_9 rfl rfl rfl ?_
  refine V.iconst (q := 11) F dX1_measure_10 rfl ?_
  refine V.put (q := 14) (ws' := [_, _, _, _, _, _]) (fs' := [_, _, _, _]) F 0 1 dX1_measure_11 rfl rfl rfl inX1_measure_X1 tyX1 tyX1_ok nmX1 (by decide) (List.mem_of_getElem? (i := 2) rfl) rfl rfl rfl rfl (Nat.le_of_ble_eq_true rfl) rfl rfl ?_
  refine V.aload_n (q := 15) F dX1_measure_14 rfl rfl rfl ?_
  refine V.iconst (q := 16) F dX1_measure_15 rfl ?_
  refine V.put (q := 19) (ws' := [_, _, _, _, _, _]) (fs' := [_, _, _, _]) F 0 2 dX1_measure_16 rfl rfl rfl inX1_measure_X1 tyX1 tyX1_ok nmX1 (by decide) (List.mem_of_getElem? (i := 3) rfl) rfl rfl rfl rfl (Nat.le_of_ble_eq_true rfl) rfl rfl ?_
  refine V.aload_n (q := 20) F dX1_measure_19 rfl rfl rfl ?_
  refine V.iconst (q := 21) F dX1_measure_20 rfl ?_
  refine V.put (q := 24) (ws' := [_, _, _, _, _, _]) (fs' := [_, _, _, _]) F 0 3 dX1_measure_21 rfl rfl rfl inX1_measure_X1 tyX1 tyX1_ok nmX1 (by decide) (List.mem_of_getElem? (i := 4) rfl) rfl rfl rfl rfl (Nat.le_of_ble_eq_true rfl) rfl rfl ?_
  refine V.iconst (q := 25) F dX1_measure_24 rfl ?_
  refine V.istore_n (q := 26) (lo' := [_, _, _, _]) F dX1_measure_25 rfl rfl (Nat.le_of_ble_eq_true rfl) rfl rfl ?_
  have L26 : ∀ (nq : Nat) (i x y z : Int) (hi : 0 ≤ i ∧ i ≤ 48) (hx : x = sz (fun p => if a (25376 + r * 48 + p) = shr a r p then 0 else 1) 0 i) (hy : y = sz (fun p => absz (a (25376 + r * 48 + p) - shr a r p)) 0 i) (hz : z = sz (fun p => if shr a r p < a (25376 + r * 48 + p) then 1 else 0) 0 i), (48 - i).toNat < nq → V X (YX1_measure l G) 0 0 26 [some (.ref hg), some (.ref hd), some (.int (zI r)), some (.int (zI i))] [] [(hg, .inr (1, [.ref hs, .int (zI x), .int (zI y), .int (zI z)])), (hs, .inr (4, [.ref hsr, .ref hsm, .ref hsg, .int (zI (mis a r))])), (hsr, aI G 48 (fil (shr a r) f 48)), (hsm, aI G 48 (fil (srm a r) m 48)), (hd, .inr (0, [.ref hr, .ref ht])), (hr, aI G 26181 a)] := by
    intro n26
    induction n26 with
    | zero => intro i x y z hi hx hy hz hm26; exact absurd hm26 (Nat.not_lt_zero _)
    | succ n26 ih26 =>
      intro i x y z hi hx hy hz hm26
      refine V.iload_n (q := 27) F dX1_measure_26 rfl rfl rfl ?_
      refine V.bipush (q := 29) F dX1_measure_27 rfl (by decide) ?_
      refine V.icmp_ge (q := 32) (tgt := 57) F dX1_measure_29 rfl (by decide) (by omega) (fun k29 => ?_) (fun k29 => ?_)
      · have he : i = 48 := by omega
        subst he
        refine V.aload_n (q := 58) F dX1_measure_57 rfl rfl rfl ?_
        refine V.aload_n (q := 59) F dX1_measure_58 rfl rfl rfl ?_
        refine V.iload_n (q := 60) F dX1_measure_59 rfl rfl rfl ?_
        refine V.callV (q := 63) F [4, 5] 4 dX1_measure_60 rfl (c_X0_circle l G hd hr ht _ _ (by omega)) gX1_measure_X0_circle rfl rfl ydX0_circle ⟨Nat.le_of_ble_eq_true rfl, Nat.le_of_ble_eq_true rfl⟩ (ci := 0) rfl rfl rfl rfl (Nat.le_of_ble_eq_true rfl) rfl rfl ⟨Nat.zero_le _, Nat.zero_le _⟩ (kkf (st' := [_, _]) (ws' := [_, _, _, _, _, _]) rfl rfl ?_)
        refine V.aload_n (q := 64) F dX1_measure_63 rfl rfl rfl ?_
        refine V.iload_n (q := 65) F dX1_measure_64 rfl rfl rfl ?_
        refine V.callV (q := 68) F [4, 5] 4 dX1_measure_65 rfl (c_X0_calmShare l G hd hr ht _ _ (by omega) hw) gX1_measure_X0_calmShare rfl rfl ydX0_calmShare ⟨Nat.le_of_ble_eq_true rfl, Nat.le_of_ble_eq_true rfl⟩ (ci := 0) rfl rfl rfl rfl (Nat.le_of_ble_eq_true rfl) rfl rfl ⟨Nat.zero_le _, Nat.zero_le _⟩ (kkf (st' := [_, _, _]) (ws' := [_, _, _, _, _, _]) rfl rfl ?_)
        refine V.callV (q := 71) F [0] 0 dX1_measure_68 rfl (c_X1_compare l G hg hs _ _ _ _ _ (by omega) (by omega)) gX1_measure_X1_compare rfl rfl ydX1_compare ⟨Nat.le_of_ble_eq_true rfl, Nat.le_of_ble_eq_true rfl⟩ (ci := 1) rfl rfl rfl rfl (Nat.le_of_ble_eq_true rfl) rfl rfl ⟨Nat.zero_le _, Nat.zero_le _⟩ (kkf (st' := []) (ws' := [_, _, _, _, _, _]) rfl rfl ?_)
        exact V.vret F T dX1_measure_71 ⟨rfl, (by subst hx; subst hy; subst hz; rfl)⟩ [hg, hs, hsr, hsm, hd, hr] rfl rfl
      · refine V.aload_n (q := 33) F dX1_measure_32 rfl rfl rfl ?_
        refine V.aload_n (q := 34) F dX1_measure_33 rfl rfl rfl ?_
        refine V.iload_n (q := 35) F dX1_measure_34 rfl rfl rfl ?_
        refine V.iload_n (q := 36) F dX1_measure_35 rfl rfl rfl ?_
        refine V.callV (q := 39) F [4, 5] 4 dX1_measure_36 rfl (c_X0_petalLength l G hd hr ht _ _ _ (by omega) (by omega)) gX1_measure_X0_petalLength rfl rfl ydX0_petalLength ⟨Nat.le_of_ble_eq_true rfl, Nat.le_of_ble_eq_true rfl⟩ (ci := 0) rfl rfl rfl rfl (Nat.le_of_ble_eq_true rfl) rfl rfl ⟨Nat.zero_le _, Nat.zero_le _⟩ (kkf (st' := [_, _]) (ws' := [_, _, _, _, _, _]) rfl rfl ?_)
        refine V.aload_n (q := 40) F dX1_measure_39 rfl rfl rfl ?_
        refine V.get (q := 43) F 0 0 dX1_measure_40 rfl rfl rfl inX1_measure_X1 (by decide) (List.mem_of_getElem? (i := 1) rfl) rfl ?_
        refine V.get (q := 46) F 1 0 dX1_measure_43 rfl rfl rfl inX1_measure_X4 (by decide) (List.mem_of_getElem? (i := 5) rfl) rfl ?_
        refine V.iload_n (q := 47) F dX1_measure_46 rfl rfl rfl ?_
        refine V.iald (q := 48) F 2 dX1_measure_47 rfl rfl (by decide) (by omega) ?_
        rw [fil_in (shr a r) f hi.1 (show i < 48 by omega)]
        have hgp := hI.p (j := 25376 + r * 48 + i) (by omega) (by omega)
        have hgq := shr_rng hI h1 (p := i) (by omega)
        refine V.callV (q := 51) F [0] 0 dX1_measure_48 rfl (c_X1_compare l G hg hs _ _ _ _ _ (by omega) (by omega)) gX1_measure_X1_compare rfl rfl ydX1_compare ⟨Nat.le_of_ble_eq_true rfl, Nat.le_of_ble_eq_true rfl⟩ (ci := 1) rfl rfl rfl rfl (Nat.le_of_ble_eq_true rfl) rfl rfl ⟨Nat.zero_le _, Nat.zero_le _⟩ (kkf (st' := []) (ws' := [_, _, _, _, _, _]) rfl rfl ?_)
        refine V.iinc (q := 54) (lo' := [_, _, _, _]) F dX1_measure_51 rfl rfl (Nat.le_of_ble_eq_true rfl) rfl rfl ?_
        refine V.goto (tgt := 26) F dX1_measure_54 (by decide) ?_
        exact ih26 (i + 1) _ _ _ (by omega) (by rw [sz_succ _ hi.1, ← hx]) (by rw [sz_succ _ hi.1, ← hy]) (by rw [sz_succ _ hi.1, ← hz]) (by omega)
  exact L26 _ 0 0 0 0 (by omega) (sz_self _ _).symm (sz_self _ _).symm (sz_self _ _).symm (Nat.lt_succ_self _)

/-! the law: its script's cells, its loop, its start -/
theorem nw1 : Cond.methodLinkNest RX3 64 yX6_roseOf RX6 ∈ lw_tbl := List.mem_append_right _ (by decide +kernel)
theorem nw2 : Cond.methodLinkNest RX3 81 yX6_isBetween RX6 ∈ lw_tbl := List.mem_append_right _ (by decide +kernel)
theorem nw3 : Cond.methodLinkNest RX4 45 yX6_partOf RX6 ∈ lw_tbl := List.mem_append_right _ (by decide +kernel)
theorem nw4 : Cond.methodLinkNest RX5 23 yX6_isBetween RX6 ∈ lw_tbl := List.mem_append_right _ (by decide +kernel)
abbrev YL_cell (l : Launch) (G : Gx) : Sx := (cL_cell, 2, RL, wsL_cell, rmD 0, l, G)
theorem ydL_cell : ydOk yL_cell 2 := by decide +kernel
theorem c_L_cell (l : Launch) (G : Gx) {b L : Nat} {xs : Nat → Int32} (hL : L ≤ 3072) {i : Int} (hi : 0 ≤ i ∧ i ≤ 200) : CtC l G b L xs yL_cell wsL_cell (rmD 0) [.ref b, .int (zI i)] (Fn (some (.int (zI (celz xs L i)))) []) := by
  refine CtC.intro (cc := cL_cell) (maxL := 2) (ret := (some .int)) (lo0 := [some (.ref b), some (.int (zI i))]) (by decide +kernel) rfl ⟨rfl, rfl⟩ (Nat.le_of_ble_eq_true rfl) rfl ?_
  intro X F S T
  change Fx X (YL_cell l G) at F
  change V X (YL_cell l G) 0 0 0 _ _ _
  refine V.iload_n (q := 1) F dL_cell_0 rfl rfl rfl ?_
  refine V.aload_n (q := 2) F dL_cell_1 rfl rfl rfl ?_
  refine V.slen (q := 3) F S dL_cell_2 rfl ?_
  refine V.icmp_ge (q := 6) (tgt := 12) F dL_cell_3 rfl (by decide) (by omega) (fun k3 => ?_) (fun k3 => ?_)
  · refine V.sipush (q := 15) F dL_cell_12 rfl (by decide) ?_
    refine V.iload_n (q := 16) F dL_cell_15 rfl rfl rfl ?_
    refine V.iconst (q := 17) F dL_cell_16 rfl ?_
    refine V.iadd (q := 18) F dL_cell_17 rfl ?_
    refine V.imul (q := 19) F dL_cell_18 rfl ?_
    refine V.iload_n (q := 20) F dL_cell_19 rfl rfl rfl ?_
    refine V.bipush (q := 22) F dL_cell_20 rfl (by decide) ?_
    refine V.iadd (q := 23) F dL_cell_22 rfl ?_
    refine V.imul (q := 24) F dL_cell_23 rfl ?_
    exact V.iret F T dL_cell_24 (fnI (by unfold celz; rw [if_neg (by omega)]) rfl) [] rfl rfl
  · refine V.aload_n (q := 7) F dL_cell_6 rfl rfl rfl ?_
    refine V.iload_n (q := 8) F dL_cell_7 rfl rfl rfl ?_
    refine V.sld (q := 9) F S dL_cell_8 rfl hL (by omega) ?_
    refine V.goto (tgt := 24) F dL_cell_9 (by decide) ?_
    exact V.iret F T dL_cell_24 (fnI (by unfold celz; rw [if_pos (by omega)]) rfl) [] rfl rfl
abbrev YL (l : Launch) (G : Gx) : Sx := (cL_law, 5, RL, wsL_law, room_1, l, G)
set_option maxHeartbeats 8000000 in
set_option maxRecDepth 20000 in
theorem law_body {X : Cx} {l : Launch} {G : Gx} {A : Nat → Nat} {wa b L : Nat} {xs : Nat → Int32} {a R sn t wf : Int → Int} {o s bb n : Int} {κ : Scr} (F : Fx X (YL l G)) (S : SX X b L xs) (hL : L ≤ 3072) (hP : PI 0 a o s) (hs0 : s = 0) (hbb0 : bb = 0) (hn0 : n = 0) (hbb : 0 ≤ bb ∧ bb ≤ 1) (hn : 0 ≤ n ∧ n ≤ 80) (ht : ∀ j, 0 ≤ t j ∧ t j < 65536) (hsn : ∀ j, 0 ≤ sn j) (hall0 : allz a (0 * 4 + 0) = 0) (hall3 : allz a (3 * 4 + 3) = 0) : V X (YL l G) 28 159333 13 [some (.ref b), some (.ref (A 0)), some (.ref wa), none, none] [] (WX A G a o s R bb sn t n κ ++ [(wa, aI G 48 wf)]) := by
  have hI := hP.1
  have hpar : Par t n 0 := by rw [hn0]; exact par_00 t
  refine V.aload_n (q := 14) F dL_law_13 rfl rfl rfl ?_
  refine V.callSX (q := 17) F 27 rfl nd27 dL_law_14 rfl (c_L_areAll l G A a R sn t o s bb n 0  κ hP hbb hn ht ) gL_law_L_areAll rfl ydL_areAll ⟨Nat.le_of_ble_eq_true rfl, Nat.le_of_ble_eq_true rfl⟩ rfl rfl (Nat.le_of_ble_eq_true rfl) ⟨Nat.le_of_ble_eq_true rfl, Nat.le_of_ble_eq_true rfl⟩ (fun r9 w9 h9 => ?_)
  obtain ⟨κ, rfl, rfl⟩ := h9
  refine V.eq (pc' := 17) (st' := [_]) (ws' := WX A G a o s R bb sn t n κ ++ [(wa, aI G 48 wf)]) rfl rfl rfl rfl ?_
  refine V.if_eq (q := 20) (tgt := 68) F dL_law_17 rfl (by decide) (by omega) (fun k17 => by exfalso; omega) (fun k17 => ?_)
  refine V.aload_n (q := 21) F dL_law_20 rfl rfl rfl ?_
  refine V.callX (q := 24) F 27 rfl nd27 dL_law_21 rfl (c_X6_undo l G A a κ.1.1 R sn t κ.1.2.1 κ.1.2.2.1 κ.1.2.2.2.1 κ.1.2.2.2.2 κ.2.1.1 κ.2.1.2.1 κ.2.1.2.2 κ.2.2.1.1 κ.2.2.1.2.1 κ.2.2.1.2.2 κ.2.2.2.1.1 κ.2.2.2.1.2.1 κ.2.2.2.1.2.2 o s bb n κ.2.2.2.2.1 κ.2.2.2.2.2.1 κ.2.2.2.2.2.2.1 κ.2.2.2.2.2.2.2.1 κ.2.2.2.2.2.2.2.2.1 κ.2.2.2.2.2.2.2.2.2.1 κ.2.2.2.2.2.2.2.2.2.2.1 κ.2.2.2.2.2.2.2.2.2.2.2 hP.1 hP.2.2.2.1 hP.2.2.2.2 hbb hn ht) gL_law_X6_undo rfl rfl ydX6_undo ⟨Nat.le_of_ble_eq_true rfl, Nat.le_of_ble_eq_true rfl⟩ (ci := 6) rfl rfl rfl rfl (Nat.le_of_ble_eq_true rfl) ⟨Nat.le_of_ble_eq_true rfl, Nat.le_of_ble_eq_true rfl⟩ (fun r9 w9 h9 => ?_)
  obtain ⟨κ, rfl, hneg, hpos⟩ := h9
  have hv9 : rUndo s = -5 := if_pos hs0
  have hs : rUndo s < 0 := by rw [hv9]; decide
  have e9 := hneg hs
  subst e9
  refine V.eq (pc' := 24) (st' := [_]) (ws' := WX A G a o s R bb sn t n κ ++ [(wa, aI G 48 wf)]) rfl rfl rfl rfl ?_
  refine V.bipush (q := 26) F dL_law_24 rfl (by decide) ?_
  refine V.icmp_ne (q := 29) (tgt := 68) F dL_law_26 rfl (by decide) (by omega) (fun k26 => by exfalso; omega) (fun k26 => ?_)
  refine V.aload_n (q := 30) F dL_law_29 rfl rfl rfl ?_
  refine V.callX (q := 33) F 27 rfl nd27 dL_law_30 rfl (c_X6_restore l G A a κ.1.1 R sn t κ.1.2.1 κ.1.2.2.1 κ.1.2.2.2.1 κ.1.2.2.2.2 κ.2.1.1 κ.2.1.2.1 κ.2.1.2.2 κ.2.2.1.1 κ.2.2.1.2.1 κ.2.2.1.2.2 κ.2.2.2.1.1 κ.2.2.2.1.2.1 κ.2.2.2.1.2.2 o s bb n κ.2.2.2.2.1 κ.2.2.2.2.2.1 κ.2.2.2.2.2.2.1 κ.2.2.2.2.2.2.2.1 κ.2.2.2.2.2.2.2.2.1 κ.2.2.2.2.2.2.2.2.2.1 κ.2.2.2.2.2.2.2.2.2.2.1 κ.2.2.2.2.2.2.2.2.2.2.2 hP.1 hP.2.2.2.1 hP.2.2.2.2 hbb hn ht hsn) gL_law_X6_restore rfl rfl ydX6_restore ⟨Nat.le_of_ble_eq_true rfl, Nat.le_of_ble_eq_true rfl⟩ (ci := 6) rfl rfl rfl rfl (Nat.le_of_ble_eq_true rfl) ⟨Nat.le_of_ble_eq_true rfl, Nat.le_of_ble_eq_true rfl⟩ (fun r9 w9 h9 => ?_)
  obtain ⟨κ, rfl, hneg, hpos⟩ := h9
  have hv9 : rRest sn a bb = -5 := if_pos hbb0
  have hs : rRest sn a bb < 0 := by rw [hv9]; decide
  have e9 := hneg hs
  subst e9
  refine V.eq (pc' := 33) (st' := [_]) (ws' := WX A G a o s R bb sn t n κ ++ [(wa, aI G 48 wf)]) rfl rfl rfl rfl ?_
  refine V.bipush (q := 35) F dL_law_33 rfl (by decide) ?_
  refine V.icmp_ne (q := 38) (tgt := 68) F dL_law_35 rfl (by decide) (by omega) (fun k35 => by exfalso; omega) (fun k35 => ?_)
  refine V.aload_n (q := 39) F dL_law_38 rfl rfl rfl ?_
  refine V.callX (q := 42) F 27 rfl nd27 dL_law_39 rfl (c_X6_logAll l G A a κ.1.1 R sn t κ.1.2.1 κ.1.2.2.1 κ.1.2.2.2.1 κ.1.2.2.2.2 κ.2.1.1 κ.2.1.2.1 κ.2.1.2.2 κ.2.2.1.1 κ.2.2.1.2.1 κ.2.2.1.2.2 κ.2.2.2.1.1 κ.2.2.2.1.2.1 κ.2.2.2.1.2.2 o s bb n κ.2.2.2.2.1 κ.2.2.2.2.2.1 κ.2.2.2.2.2.2.1 κ.2.2.2.2.2.2.2.1 κ.2.2.2.2.2.2.2.2.1 κ.2.2.2.2.2.2.2.2.2.1 κ.2.2.2.2.2.2.2.2.2.2.1 κ.2.2.2.2.2.2.2.2.2.2.2 0 hP.1 hP.2.2.2.1 hP.2.2.2.2 hbb hn ht hpar (by omega)) gL_law_X6_logAll rfl rfl ydX6_logAll ⟨Nat.le_of_ble_eq_true rfl, Nat.le_of_ble_eq_true rfl⟩ (ci := 6) rfl rfl rfl rfl (Nat.le_of_ble_eq_true rfl) ⟨Nat.le_of_ble_eq_true rfl, Nat.le_of_ble_eq_true rfl⟩ (fun r9 w9 h9 => ?_)
  obtain ⟨κ, rfl, hneg, hpos⟩ := h9
  have hv9 : rLA a t n 0 = -100 := by rw [hn0]; exact rLA_00 a t
  have hs : rLA a t n 0 < 0 := by rw [hv9]; decide
  have e9 := hneg hs
  subst e9
  refine V.eq (pc' := 42) (st' := [_]) (ws' := WX A G a o s R bb sn t n κ ++ [(wa, aI G 48 wf)]) rfl rfl rfl rfl ?_
  refine V.bipush (q := 44) F dL_law_42 rfl (by decide) ?_
  refine V.icmp_ne (q := 47) (tgt := 68) F dL_law_44 rfl (by decide) (by omega) (fun k44 => by exfalso; omega) (fun k44 => ?_)
  refine V.aload_n (q := 48) F dL_law_47 rfl rfl rfl ?_
  refine V.iconst (q := 49) F dL_law_48 rfl ?_
  refine V.iconst (q := 50) F dL_law_49 rfl ?_
  refine V.callX (q := 53) F 27 rfl nd27 dL_law_50 rfl (c_X6_reason l G A a κ.1.1 R sn t κ.1.2.1 κ.1.2.2.1 κ.1.2.2.2.1 κ.1.2.2.2.2 κ.2.1.1 κ.2.1.2.1 κ.2.1.2.2 κ.2.2.1.1 κ.2.2.1.2.1 κ.2.2.1.2.2 κ.2.2.2.1.1 κ.2.2.2.1.2.1 κ.2.2.2.1.2.2 o s bb n κ.2.2.2.2.1 κ.2.2.2.2.2.1 κ.2.2.2.2.2.2.1 κ.2.2.2.2.2.2.2.1 κ.2.2.2.2.2.2.2.2.1 κ.2.2.2.2.2.2.2.2.2.1 κ.2.2.2.2.2.2.2.2.2.2.1 κ.2.2.2.2.2.2.2.2.2.2.2 0 0 hP.1 hP.2.2.2.1 hP.2.2.2.2 hbb hn ht (by omega) (by omega)) gL_law_X6_reason rfl rfl ydX6_reason ⟨Nat.le_of_ble_eq_true rfl, Nat.le_of_ble_eq_true rfl⟩ (ci := 6) rfl rfl rfl rfl (Nat.le_of_ble_eq_true rfl) ⟨Nat.le_of_ble_eq_true rfl, Nat.le_of_ble_eq_true rfl⟩ (fun r9 w9 h9 => ?_)
  rw [rReas_o (a := a) (p := 0) (q := 0) (by omega) (by omega)] at h9
  obtain ⟨κ, rfl, rfl⟩ := h9
  refine V.eq (pc' := 53) (st' := [_]) (ws' := WX A G a o s R bb sn t n κ ++ [(wa, aI G 48 wf)]) rfl rfl rfl rfl ?_
  have hob0 : obsz a (0 * 4 + 0) = 1 := if_pos hall0
  refine V.iconst (q := 54) F dL_law_53 rfl ?_
  refine V.icmp_ne (q := 57) (tgt := 68) F dL_law_54 rfl (by decide) (by omega) (fun k54 => by exfalso; omega) (fun k54 => ?_)
  refine V.aload_n (q := 58) F dL_law_57 rfl rfl rfl ?_
  refine V.iconst (q := 59) F dL_law_58 rfl ?_
  refine V.iconst (q := 60) F dL_law_59 rfl ?_
  refine V.callX (q := 63) F 27 rfl nd27 dL_law_60 rfl (c_X6_engrave l G A a κ.1.1 R sn t κ.1.2.1 κ.1.2.2.1 κ.1.2.2.2.1 κ.1.2.2.2.2 κ.2.1.1 κ.2.1.2.1 κ.2.1.2.2 κ.2.2.1.1 κ.2.2.1.2.1 κ.2.2.1.2.2 κ.2.2.2.1.1 κ.2.2.2.1.2.1 κ.2.2.2.1.2.2 o s bb n κ.2.2.2.2.1 κ.2.2.2.2.2.1 κ.2.2.2.2.2.2.1 κ.2.2.2.2.2.2.2.1 κ.2.2.2.2.2.2.2.2.1 κ.2.2.2.2.2.2.2.2.2.1 κ.2.2.2.2.2.2.2.2.2.2.1 κ.2.2.2.2.2.2.2.2.2.2.2 3 3 hP.1 hP.2.2.2.1 hP.2.2.2.2 hbb hn ht (by omega) (by omega)) gL_law_X6_engrave rfl rfl ydX6_engrave ⟨Nat.le_of_ble_eq_true rfl, Nat.le_of_ble_eq_true rfl⟩ (ci := 6) rfl rfl rfl rfl (Nat.le_of_ble_eq_true rfl) ⟨Nat.le_of_ble_eq_true rfl, Nat.le_of_ble_eq_true rfl⟩ (fun r9 w9 h9 => ?_)
  obtain ⟨κ, rfl, hneg, hpos⟩ := h9
  have hv9 : rEng a 3 3 = -4 := by unfold rEng; rw [if_neg (by omega), if_pos (Or.inl (show obsz a (3 * 4 + 3) = 1 from if_pos hall3))]
  have hs : rEng a 3 3 < 0 := by rw [hv9]; decide
  have e9 := hneg hs
  subst e9
  refine V.eq (pc' := 63) (st' := [_]) (ws' := WX A G a o s R bb sn t n κ ++ [(wa, aI G 48 wf)]) rfl rfl rfl rfl ?_
  refine V.bipush (q := 65) F dL_law_63 rfl (by decide) ?_
  refine V.icmp_eq (q := 68) (tgt := 70) F dL_law_65 rfl (by decide) (by omega) (fun k65 => ?_) (fun k65 => by exfalso; omega)
  refine V.iconst (q := 71) F dL_law_70 rfl ?_
  refine V.istore_n (q := 72) (lo' := [_, _, _, _, _]) F dL_law_71 rfl rfl (Nat.le_of_ble_eq_true rfl) rfl rfl ?_
  have L72 : ∀ (nq : Nat) (e : Int) (a R wf : Int → Int) (o s : Int) (κ : Scr) (he : 0 ≤ e ∧ e ≤ 80) (hP : PI e a o s), (80 - e).toNat < nq → V X (YL l G) 28 159333 72 [some (.ref b), some (.ref (A 0)), some (.ref wa), some (.int (zI e)), none] [] (WX A G a o s R bb sn t n κ ++ [(wa, aI G 48 wf)]) := by
    intro n72
    induction n72 with
    | zero => intro e a R wf o s κ he hP hm72; exact absurd hm72 (Nat.not_lt_zero _)
    | succ n72 ih72 =>
      intro e a R wf o s κ he hP hm72
      refine V.iload_n (q := 73) F dL_law_72 rfl rfl rfl ?_
      refine V.bipush (q := 75) F dL_law_73 rfl (by decide) ?_
      refine V.icmp_ge (q := 78) (tgt := 184) F dL_law_75 rfl (by decide) (by omega) (fun k75 => ?_) (fun k75 => ?_)
      · refine V.aload_n (q := 185) F dL_law_184 rfl rfl rfl ?_
        refine V.iconst (q := 186) F dL_law_185 rfl ?_
        refine V.iconst (q := 187) F dL_law_186 rfl ?_
        refine V.iconst (q := 188) F dL_law_187 rfl ?_
        refine V.iconst (q := 189) F dL_law_188 rfl ?_
        refine V.iconst (q := 190) F dL_law_189 rfl ?_
        refine V.callX (q := 193) F 27 rfl nd27 dL_law_190 rfl (c_X6_log l G A a κ.1.1 R sn t κ.1.2.1 κ.1.2.2.1 κ.1.2.2.2.1 κ.1.2.2.2.2 κ.2.1.1 κ.2.1.2.1 κ.2.1.2.2 κ.2.2.1.1 κ.2.2.1.2.1 κ.2.2.1.2.2 κ.2.2.2.1.1 κ.2.2.2.1.2.1 κ.2.2.2.1.2.2 o s bb n κ.2.2.2.2.1 κ.2.2.2.2.2.1 κ.2.2.2.2.2.2.1 κ.2.2.2.2.2.2.2.1 κ.2.2.2.2.2.2.2.2.1 κ.2.2.2.2.2.2.2.2.2.1 κ.2.2.2.2.2.2.2.2.2.2.1 κ.2.2.2.2.2.2.2.2.2.2.2 4 0 0 1 1 hP.1 hP.2.2.2.1 hP.2.2.2.2 hbb hn ht (by omega) (by omega) (by omega) (by omega) (by omega)) gL_law_X6_log rfl rfl ydX6_log ⟨Nat.le_of_ble_eq_true rfl, Nat.le_of_ble_eq_true rfl⟩ (ci := 6) rfl rfl rfl rfl (Nat.le_of_ble_eq_true rfl) ⟨Nat.le_of_ble_eq_true rfl, Nat.le_of_ble_eq_true rfl⟩ (fun r9 w9 h9 => ?_)
        obtain ⟨κ, rfl, hneg, hpos⟩ := h9
        have hv9 : rLog a 4 0 0 1 1 = -1 := if_pos (by omega)
        have hs : rLog a 4 0 0 1 1 < 0 := by rw [hv9]; decide
        have e9 := hneg hs
        subst e9
        refine V.eq (pc' := 193) (st' := [_]) (ws' := WX A G a o s R bb sn t n κ ++ [(wa, aI G 48 wf)]) rfl rfl rfl rfl ?_
        refine V.iconst (q := 194) F dL_law_193 rfl ?_
        refine V.icmp_ne (q := 197) (tgt := 299) F dL_law_194 rfl (by decide) (by omega) (fun k194 => by exfalso; omega) (fun k194 => ?_)
        refine V.aload_n (q := 198) F dL_law_197 rfl rfl rfl ?_
        refine V.iconst (q := 199) F dL_law_198 rfl ?_
        refine V.iconst (q := 200) F dL_law_199 rfl ?_
        refine V.iconst (q := 201) F dL_law_200 rfl ?_
        refine V.bipush (q := 203) F dL_law_201 rfl (by decide) ?_
        refine V.iconst (q := 204) F dL_law_203 rfl ?_
        refine V.callX (q := 207) F 27 rfl nd27 dL_law_204 rfl (c_X6_log l G A a κ.1.1 R sn t κ.1.2.1 κ.1.2.2.1 κ.1.2.2.2.1 κ.1.2.2.2.2 κ.2.1.1 κ.2.1.2.1 κ.2.1.2.2 κ.2.2.1.1 κ.2.2.1.2.1 κ.2.2.1.2.2 κ.2.2.2.1.1 κ.2.2.2.1.2.1 κ.2.2.2.1.2.2 o s bb n κ.2.2.2.2.1 κ.2.2.2.2.2.1 κ.2.2.2.2.2.2.1 κ.2.2.2.2.2.2.2.1 κ.2.2.2.2.2.2.2.2.1 κ.2.2.2.2.2.2.2.2.2.1 κ.2.2.2.2.2.2.2.2.2.2.1 κ.2.2.2.2.2.2.2.2.2.2.2 0 0 0 100 1 hP.1 hP.2.2.2.1 hP.2.2.2.2 hbb hn ht (by omega) (by omega) (by omega) (by omega) (by omega)) gL_law_X6_log rfl rfl ydX6_log ⟨Nat.le_of_ble_eq_true rfl, Nat.le_of_ble_eq_true rfl⟩ (ci := 6) rfl rfl rfl rfl (Nat.le_of_ble_eq_true rfl) ⟨Nat.le_of_ble_eq_true rfl, Nat.le_of_ble_eq_true rfl⟩ (fun r9 w9 h9 => ?_)
        obtain ⟨κ, rfl, hneg, hpos⟩ := h9
        have hv9 : rLog a 0 0 0 100 1 = -2 := by unfold rLog; rw [if_neg (by omega), if_pos (by omega)]
        have hs : rLog a 0 0 0 100 1 < 0 := by rw [hv9]; decide
        have e9 := hneg hs
        subst e9
        refine V.eq (pc' := 207) (st' := [_]) (ws' := WX A G a o s R bb sn t n κ ++ [(wa, aI G 48 wf)]) rfl rfl rfl rfl ?_
        refine V.bipush (q := 209) F dL_law_207 rfl (by decide) ?_
        refine V.icmp_ne (q := 212) (tgt := 299) F dL_law_209 rfl (by decide) (by omega) (fun k209 => by exfalso; omega) (fun k209 => ?_)
        refine V.aload_n (q := 213) F dL_law_212 rfl rfl rfl ?_
        refine V.iconst (q := 214) F dL_law_213 rfl ?_
        refine V.iconst (q := 215) F dL_law_214 rfl ?_
        refine V.iconst (q := 216) F dL_law_215 rfl ?_
        refine V.callX (q := 219) F 27 rfl nd27 dL_law_216 rfl (c_X6_calm l G A a κ.1.1 R sn t κ.1.2.1 κ.1.2.2.1 κ.1.2.2.2.1 κ.1.2.2.2.2 κ.2.1.1 κ.2.1.2.1 κ.2.1.2.2 κ.2.2.1.1 κ.2.2.1.2.1 κ.2.2.1.2.2 κ.2.2.2.1.1 κ.2.2.2.1.2.1 κ.2.2.2.1.2.2 o s bb n κ.2.2.2.2.1 κ.2.2.2.2.2.1 κ.2.2.2.2.2.2.1 κ.2.2.2.2.2.2.2.1 κ.2.2.2.2.2.2.2.2.1 κ.2.2.2.2.2.2.2.2.2.1 κ.2.2.2.2.2.2.2.2.2.2.1 κ.2.2.2.2.2.2.2.2.2.2.2 0 0 0 hP.1 hP.2.2.2.1 hP.2.2.2.2 hbb hn ht (by omega) (by omega) (by omega)) gL_law_X6_calm rfl rfl ydX6_calm ⟨Nat.le_of_ble_eq_true rfl, Nat.le_of_ble_eq_true rfl⟩ (ci := 6) rfl rfl rfl rfl (Nat.le_of_ble_eq_true rfl) ⟨Nat.le_of_ble_eq_true rfl, Nat.le_of_ble_eq_true rfl⟩ (fun r9 w9 h9 => ?_)
        obtain ⟨κ, rfl, hneg, hpos⟩ := h9
        have hv9 : rCalm a 0 0 0 = -2 := by unfold rCalm; rw [if_neg (by omega), if_pos (by omega)]
        have hs : rCalm a 0 0 0 < 0 := by rw [hv9]; decide
        have e9 := hneg hs
        subst e9
        refine V.eq (pc' := 219) (st' := [_]) (ws' := WX A G a o s R bb sn t n κ ++ [(wa, aI G 48 wf)]) rfl rfl rfl rfl ?_
        refine V.bipush (q := 221) F dL_law_219 rfl (by decide) ?_
        refine V.icmp_ne (q := 224) (tgt := 299) F dL_law_221 rfl (by decide) (by omega) (fun k221 => by exfalso; omega) (fun k221 => ?_)
        refine V.aload_n (q := 225) F dL_law_224 rfl rfl rfl ?_
        refine V.iconst (q := 226) F dL_law_225 rfl ?_
        refine V.iconst (q := 227) F dL_law_226 rfl ?_
        refine V.bipush (q := 229) F dL_law_227 rfl (by decide) ?_
        refine V.callX (q := 232) F 27 rfl nd27 dL_law_229 rfl (c_X6_turn l G A a κ.1.1 R sn t κ.1.2.1 κ.1.2.2.1 κ.1.2.2.2.1 κ.1.2.2.2.2 κ.2.1.1 κ.2.1.2.1 κ.2.1.2.2 κ.2.2.1.1 κ.2.2.1.2.1 κ.2.2.1.2.2 κ.2.2.2.1.1 κ.2.2.2.1.2.1 κ.2.2.2.1.2.2 o s bb n κ.2.2.2.2.1 κ.2.2.2.2.2.1 κ.2.2.2.2.2.2.1 κ.2.2.2.2.2.2.2.1 κ.2.2.2.2.2.2.2.2.1 κ.2.2.2.2.2.2.2.2.2.1 κ.2.2.2.2.2.2.2.2.2.2.1 κ.2.2.2.2.2.2.2.2.2.2.2 0 0 16 hP.1 hP.2.2.2.1 hP.2.2.2.2 hbb hn ht (by omega) (by omega) (by omega)) gL_law_X6_turn rfl rfl ydX6_turn ⟨Nat.le_of_ble_eq_true rfl, Nat.le_of_ble_eq_true rfl⟩ (ci := 6) rfl rfl rfl rfl (Nat.le_of_ble_eq_true rfl) ⟨Nat.le_of_ble_eq_true rfl, Nat.le_of_ble_eq_true rfl⟩ (fun r9 w9 h9 => ?_)
        obtain ⟨κ, rfl, hneg, hpos⟩ := h9
        have hv9 : rTurn a 0 0 16 = -2 := by unfold rTurn; rw [if_neg (by omega), if_pos (by omega)]
        have hs : rTurn a 0 0 16 < 0 := by rw [hv9]; decide
        have e9 := hneg hs
        subst e9
        refine V.eq (pc' := 232) (st' := [_]) (ws' := WX A G a o s R bb sn t n κ ++ [(wa, aI G 48 wf)]) rfl rfl rfl rfl ?_
        refine V.bipush (q := 234) F dL_law_232 rfl (by decide) ?_
        refine V.icmp_ne (q := 237) (tgt := 299) F dL_law_234 rfl (by decide) (by omega) (fun k234 => by exfalso; omega) (fun k234 => ?_)
        refine V.aload_n (q := 238) F dL_law_237 rfl rfl rfl ?_
        refine V.iconst (q := 239) F dL_law_238 rfl ?_
        refine V.iconst (q := 240) F dL_law_239 rfl ?_
        refine V.callX (q := 243) F 27 rfl nd27 dL_law_240 rfl (c_X6_set l G A a κ.1.1 R sn t κ.1.2.1 κ.1.2.2.1 κ.1.2.2.2.1 κ.1.2.2.2.2 κ.2.1.1 κ.2.1.2.1 κ.2.1.2.2 κ.2.2.1.1 κ.2.2.1.2.1 κ.2.2.1.2.2 κ.2.2.2.1.1 κ.2.2.2.1.2.1 κ.2.2.2.1.2.2 o s bb n κ.2.2.2.2.1 κ.2.2.2.2.2.1 κ.2.2.2.2.2.2.1 κ.2.2.2.2.2.2.2.1 κ.2.2.2.2.2.2.2.2.1 κ.2.2.2.2.2.2.2.2.2.1 κ.2.2.2.2.2.2.2.2.2.2.1 κ.2.2.2.2.2.2.2.2.2.2.2 3 0 hP.1 hP.2.2.2.1 hP.2.2.2.2 hbb hn ht (by omega) (by omega)) gL_law_X6_set rfl rfl ydX6_set ⟨Nat.le_of_ble_eq_true rfl, Nat.le_of_ble_eq_true rfl⟩ (ci := 6) rfl rfl rfl rfl (Nat.le_of_ble_eq_true rfl) ⟨Nat.le_of_ble_eq_true rfl, Nat.le_of_ble_eq_true rfl⟩ (fun r9 w9 h9 => ?_)
        obtain ⟨κ, rfl, hneg, hpos⟩ := h9
        have hv9 : rSet a 3 0 = -1 := if_pos (by omega)
        have hs : rSet a 3 0 < 0 := by rw [hv9]; decide
        have e9 := hneg hs
        subst e9
        refine V.eq (pc' := 243) (st' := [_]) (ws' := WX A G a o s R bb sn t n κ ++ [(wa, aI G 48 wf)]) rfl rfl rfl rfl ?_
        refine V.iconst (q := 244) F dL_law_243 rfl ?_
        refine V.icmp_ne (q := 247) (tgt := 299) F dL_law_244 rfl (by decide) (by omega) (fun k244 => by exfalso; omega) (fun k244 => ?_)
        refine V.aload_n (q := 248) F dL_law_247 rfl rfl rfl ?_
        refine V.iconst (q := 249) F dL_law_248 rfl ?_
        refine V.iconst (q := 250) F dL_law_249 rfl ?_
        refine V.iconst (q := 251) F dL_law_250 rfl ?_
        refine V.iconst (q := 252) F dL_law_251 rfl ?_
        refine V.callX (q := 255) F 27 rfl nd27 dL_law_252 rfl (c_X6_share l G A a κ.1.1 R sn t κ.1.2.1 κ.1.2.2.1 κ.1.2.2.2.1 κ.1.2.2.2.2 κ.2.1.1 κ.2.1.2.1 κ.2.1.2.2 κ.2.2.1.1 κ.2.2.1.2.1 κ.2.2.1.2.2 κ.2.2.2.1.1 κ.2.2.2.1.2.1 κ.2.2.2.1.2.2 o s bb n κ.2.2.2.2.1 κ.2.2.2.2.2.1 κ.2.2.2.2.2.2.1 κ.2.2.2.2.2.2.2.1 κ.2.2.2.2.2.2.2.2.1 κ.2.2.2.2.2.2.2.2.2.1 κ.2.2.2.2.2.2.2.2.2.2.1 κ.2.2.2.2.2.2.2.2.2.2.2 0 0 0 3 hP.1 hP.2.2.2.1 hP.2.2.2.2 hbb hn ht (by omega) (by omega) (by omega) (by omega)) gL_law_X6_share rfl rfl ydX6_share ⟨Nat.le_of_ble_eq_true rfl, Nat.le_of_ble_eq_true rfl⟩ (ci := 6) rfl rfl rfl rfl (Nat.le_of_ble_eq_true rfl) ⟨Nat.le_of_ble_eq_true rfl, Nat.le_of_ble_eq_true rfl⟩ (fun r9 w9 h9 => ?_)
        obtain ⟨κ, rfl, rfl⟩ := h9
        refine V.eq (pc' := 255) (st' := [_]) (ws' := WX A G a o s R bb sn t n κ ++ [(wa, aI G 48 wf)]) rfl rfl rfl rfl ?_
        have hsh9 : rShare a 0 0 0 3 = -1 := if_neg (by omega)
        refine V.iconst (q := 256) F dL_law_255 rfl ?_
        refine V.icmp_ne (q := 259) (tgt := 299) F dL_law_256 rfl (by decide) (by omega) (fun k256 => by exfalso; omega) (fun k256 => ?_)
        refine V.aload_n (q := 260) F dL_law_259 rfl rfl rfl ?_
        refine V.iconst (q := 261) F dL_law_260 rfl ?_
        refine V.iconst (q := 262) F dL_law_261 rfl ?_
        refine V.iconst (q := 263) F dL_law_262 rfl ?_
        refine V.iconst (q := 264) F dL_law_263 rfl ?_
        refine V.callX (q := 267) F 27 rfl nd27 dL_law_264 rfl (c_X6_hours l G A a κ.1.1 R sn t κ.1.2.1 κ.1.2.2.1 κ.1.2.2.2.1 κ.1.2.2.2.2 κ.2.1.1 κ.2.1.2.1 κ.2.1.2.2 κ.2.2.1.1 κ.2.2.1.2.1 κ.2.2.1.2.2 κ.2.2.2.1.1 κ.2.2.2.1.2.1 κ.2.2.2.1.2.2 o s bb n κ.2.2.2.2.1 κ.2.2.2.2.2.1 κ.2.2.2.2.2.2.1 κ.2.2.2.2.2.2.2.1 κ.2.2.2.2.2.2.2.2.1 κ.2.2.2.2.2.2.2.2.2.1 κ.2.2.2.2.2.2.2.2.2.2.1 κ.2.2.2.2.2.2.2.2.2.2.2 0 0 0 4 hP.1 hP.2.2.2.1 hP.2.2.2.2 hbb hn ht (by omega) (by omega) (by omega) (by omega)) gL_law_X6_hours rfl rfl ydX6_hours ⟨Nat.le_of_ble_eq_true rfl, Nat.le_of_ble_eq_true rfl⟩ (ci := 6) rfl rfl rfl rfl (Nat.le_of_ble_eq_true rfl) ⟨Nat.le_of_ble_eq_true rfl, Nat.le_of_ble_eq_true rfl⟩ (fun r9 w9 h9 => ?_)
        obtain ⟨κ, rfl, rfl⟩ := h9
        refine V.eq (pc' := 267) (st' := [_]) (ws' := WX A G a o s R bb sn t n κ ++ [(wa, aI G 48 wf)]) rfl rfl rfl rfl ?_
        have hho9 : rHours a 0 0 0 4 = -1 := by unfold rHours; rw [if_neg (by omega), if_neg (by omega), if_neg (by omega)]
        refine V.iconst (q := 268) F dL_law_267 rfl ?_
        refine V.icmp_ne (q := 271) (tgt := 299) F dL_law_268 rfl (by decide) (by omega) (fun k268 => by exfalso; omega) (fun k268 => ?_)
        refine V.aload_n (q := 272) F dL_law_271 rfl rfl rfl ?_
        refine V.iconst (q := 273) F dL_law_272 rfl ?_
        refine V.iconst (q := 274) F dL_law_273 rfl ?_
        refine V.bipush (q := 276) F dL_law_274 rfl (by decide) ?_
        refine V.callX (q := 279) F 27 rfl nd27 dL_law_276 rfl (c_X6_rose l G A a κ.1.1 R sn t κ.1.2.1 κ.1.2.2.1 κ.1.2.2.2.1 κ.1.2.2.2.2 κ.2.1.1 κ.2.1.2.1 κ.2.1.2.2 κ.2.2.1.1 κ.2.2.1.2.1 κ.2.2.1.2.2 κ.2.2.2.1.1 κ.2.2.2.1.2.1 κ.2.2.2.1.2.2 o s bb n κ.2.2.2.2.1 κ.2.2.2.2.2.1 κ.2.2.2.2.2.2.1 κ.2.2.2.2.2.2.2.1 κ.2.2.2.2.2.2.2.2.1 κ.2.2.2.2.2.2.2.2.2.1 κ.2.2.2.2.2.2.2.2.2.2.1 κ.2.2.2.2.2.2.2.2.2.2.2 0 0 10 hP.1 hP.2.2.2.1 hP.2.2.2.2 hbb hn ht (by omega) (by omega) (by omega)) gL_law_X6_rose rfl rfl ydX6_rose ⟨Nat.le_of_ble_eq_true rfl, Nat.le_of_ble_eq_true rfl⟩ (ci := 6) rfl rfl rfl rfl (Nat.le_of_ble_eq_true rfl) ⟨Nat.le_of_ble_eq_true rfl, Nat.le_of_ble_eq_true rfl⟩ (fun r9 w9 h9 => ?_)
        rw [rRose_10 (a := a) (p := 0) (q := 0) (by omega) (by omega)] at h9
        obtain ⟨κ, rfl, rfl⟩ := h9
        refine V.eq (pc' := 279) (st' := [_]) (ws' := WX A G a o s R bb sn t n κ ++ [(wa, aI G 48 wf)]) rfl rfl rfl rfl ?_
        refine V.bipush (q := 281) F dL_law_279 rfl (by decide) ?_
        refine V.icmp_ne (q := 284) (tgt := 299) F dL_law_281 rfl (by decide) (by omega) (fun k281 => by exfalso; omega) (fun k281 => ?_)
        refine V.aload_n (q := 285) F dL_law_284 rfl rfl rfl ?_
        refine V.bipush (q := 287) F dL_law_285 rfl (by decide) ?_
        refine V.callX (q := 290) F 27 rfl nd27 dL_law_287 rfl (c_X6_count l G A a κ.1.1 R sn t κ.1.2.1 κ.1.2.2.1 κ.1.2.2.2.1 κ.1.2.2.2.2 κ.2.1.1 κ.2.1.2.1 κ.2.1.2.2 κ.2.2.1.1 κ.2.2.1.2.1 κ.2.2.1.2.2 κ.2.2.2.1.1 κ.2.2.2.1.2.1 κ.2.2.2.1.2.2 o s bb n κ.2.2.2.2.1 κ.2.2.2.2.2.1 κ.2.2.2.2.2.2.1 κ.2.2.2.2.2.2.2.1 κ.2.2.2.2.2.2.2.2.1 κ.2.2.2.2.2.2.2.2.2.1 κ.2.2.2.2.2.2.2.2.2.2.1 κ.2.2.2.2.2.2.2.2.2.2.2 11 hP.1 hP.2.2.2.1 hP.2.2.2.2 hbb hn ht (by omega)) gL_law_X6_count rfl rfl ydX6_count ⟨Nat.le_of_ble_eq_true rfl, Nat.le_of_ble_eq_true rfl⟩ (ci := 6) rfl rfl rfl rfl (Nat.le_of_ble_eq_true rfl) ⟨Nat.le_of_ble_eq_true rfl, Nat.le_of_ble_eq_true rfl⟩ (fun r9 w9 h9 => ?_)
        rw [rCount_11] at h9
        obtain ⟨κ, rfl, rfl⟩ := h9
        refine V.eq (pc' := 290) (st' := [_]) (ws' := WX A G a o s R bb sn t n κ ++ [(wa, aI G 48 wf)]) rfl rfl rfl rfl ?_
        refine V.bipush (q := 292) F dL_law_290 rfl (by decide) ?_
        refine V.icmp_ne (q := 295) (tgt := 299) F dL_law_292 rfl (by decide) (by omega) (fun k292 => by exfalso; omega) (fun k292 => ?_)
        refine V.iconst (q := 296) F dL_law_295 rfl ?_
        refine V.goto (tgt := 300) F dL_law_296 (by decide) ?_
        exact V.lend F S dL_law_300 (Nat.le_of_ble_eq_true rfl) (Nat.le_of_ble_eq_true rfl)
      · refine V.aload_n (q := 79) F dL_law_78 rfl rfl rfl ?_
        refine V.iconst (q := 80) F dL_law_79 rfl ?_
        refine V.iload_n (q := 81) F dL_law_80 rfl rfl rfl ?_
        refine V.imul (q := 82) F dL_law_81 rfl ?_
        refine V.callC (q := 85) F S.sc dL_law_82 rfl (c_L_cell l G hL (i := 2 * e) (by omega)) gL_law_L_cell rfl ydL_cell ⟨Nat.le_of_ble_eq_true rfl, Nat.le_of_ble_eq_true rfl⟩ rfl rfl (Nat.le_of_ble_eq_true rfl) ⟨Nat.le_of_ble_eq_true rfl, Nat.le_of_ble_eq_true rfl⟩ ?_
        refine V.eq (pc' := 85) (st' := [_]) rfl rfl rfl rfl ?_
        refine V.istore (q := 87) (lo' := [_, _, _, _, _]) F dL_law_85 rfl (Nat.le_of_ble_eq_true rfl) rfl rfl ?_
        have hv := celz_rng xs L (k := 2 * e) (by omega)
        generalize celz xs L (2 * e) = v at hv ⊢
        refine V.aload_n (q := 88) F dL_law_87 rfl rfl rfl ?_
        refine V.iload (q := 90) F dL_law_88 rfl rfl ?_
        refine V.aload_n (q := 91) F dL_law_90 rfl rfl rfl ?_
        refine V.iconst (q := 92) F dL_law_91 rfl ?_
        refine V.iload_n (q := 93) F dL_law_92 rfl rfl rfl ?_
        refine V.imul (q := 94) F dL_law_93 rfl ?_
        refine V.iconst (q := 95) F dL_law_94 rfl ?_
        refine V.iadd (q := 96) F dL_law_95 rfl ?_
        refine V.callC (q := 99) F S.sc dL_law_96 rfl (c_L_cell l G hL (i := (2 * e) + 1) (by omega)) gL_law_L_cell rfl ydL_cell ⟨Nat.le_of_ble_eq_true rfl, Nat.le_of_ble_eq_true rfl⟩ rfl rfl (Nat.le_of_ble_eq_true rfl) ⟨Nat.le_of_ble_eq_true rfl, Nat.le_of_ble_eq_true rfl⟩ ?_
        refine V.eq (pc' := 99) (st' := [_, _, _]) rfl rfl rfl rfl ?_
        have hw9 := celz_rng xs L (k := 2 * e + 1) (by omega)
        generalize celz xs L (2 * e + 1) = w at hw9 ⊢
        refine V.aload_n (q := 100) F dL_law_99 rfl rfl rfl ?_
        refine V.callS0 (q := 103) F 28 rfl nd28 dL_law_100 rfl (c_L_does l G A wa a R sn t wf o s bb n e v w κ hP hbb hn ht (by omega) hv hw9) gL_law_L_does rfl ydL_does ⟨Nat.le_of_ble_eq_true rfl, Nat.le_of_ble_eq_true rfl⟩ rfl rfl (Nat.le_of_ble_eq_true rfl) ⟨Nat.le_of_ble_eq_true rfl, Nat.le_of_ble_eq_true rfl⟩ (fun r9 w9 h9 => ?_)
        obtain ⟨κ, a2, R2, wf2, o2, s2, rfl, hP2, rfl⟩ := h9
        refine V.eq (pc' := 103) (st' := [_]) (ws' := WX A G a2 o2 s2 R2 bb sn t n κ ++ [(wa, aI G 48 wf2)]) rfl rfl rfl rfl ?_
        refine V.if_eq (q := 106) (tgt := 176) F dL_law_103 rfl (by decide) (by omega) (fun k103 => by exfalso; omega) (fun k103 => ?_)
        have J133 : ∀ (u9 : Int) (κ : Scr) (hu9 : True), V X (YL l G) 28 159333 133 [some (.ref b), some (.ref (A 0)), some (.ref wa), some (.int (zI e)), some (.int (zI v))] [] (WX A G a2 o2 s2 R2 bb sn t n κ ++ [(wa, aI G 48 wf2)]) := by
          intro u9 κ hu9
          have J160 : ∀ (u9 : Int) (κ : Scr) (hu9 : True), V X (YL l G) 28 159333 160 [some (.ref b), some (.ref (A 0)), some (.ref wa), some (.int (zI e)), some (.int (zI v))] [] (WX A G a2 o2 s2 R2 bb sn t n κ ++ [(wa, aI G 48 wf2)]) := by
            intro u9 κ hu9
            have J178 : ∀ (u9 : Int) (κ : Scr) (hu9 : True), V X (YL l G) 28 159333 178 [some (.ref b), some (.ref (A 0)), some (.ref wa), some (.int (zI e)), some (.int (zI v))] [] (WX A G a2 o2 s2 R2 bb sn t n κ ++ [(wa, aI G 48 wf2)]) := by
              intro u9 κ hu9
              refine V.iinc (q := 181) (lo' := [_, _, _, _, _]) F dL_law_178 rfl rfl (Nat.le_of_ble_eq_true rfl) rfl rfl ?_
              refine V.goto (tgt := 72) F dL_law_181 (by decide) ?_
              refine V.mask [true, true, true, true, false] (lo' := [_, _, _, _, _]) rfl ?_
              exact ih72 (e + 1) _ _ _ _ _ _ (by omega) hP2 (by omega)
            refine V.iload_n (q := 161) F dL_law_160 rfl rfl rfl ?_
            refine V.bipush (q := 163) F dL_law_161 rfl (by decide) ?_
            refine V.irem (q := 164) F dL_law_163 rfl ⟨by omega, by omega⟩ ?_
            refine V.bipush (q := 166) F dL_law_164 rfl (by decide) ?_
            refine V.icmp_ne (q := 169) (tgt := 178) F dL_law_166 rfl (by decide) (by omega) (fun k166 => ?_) (fun k166 => ?_)
            · exact J178 0 _ trivial
            · refine V.aload_n (q := 170) F dL_law_169 rfl rfl rfl ?_
              refine V.callSX (q := 173) F 27 rfl nd27 dL_law_170 rfl (c_L_areAll l G A a2 R2 sn t o2 s2 bb n (e + 1)  κ hP2 hbb hn ht ) gL_law_L_areAll rfl ydL_areAll ⟨Nat.le_of_ble_eq_true rfl, Nat.le_of_ble_eq_true rfl⟩ rfl rfl (Nat.le_of_ble_eq_true rfl) ⟨Nat.le_of_ble_eq_true rfl, Nat.le_of_ble_eq_true rfl⟩ (fun r9 w9 h9 => ?_)
              obtain ⟨κ, rfl, rfl⟩ := h9
              refine V.eq (pc' := 173) (st' := [_]) (ws' := WX A G a2 o2 s2 R2 bb sn t n κ ++ [(wa, aI G 48 wf2)]) rfl rfl rfl rfl ?_
              refine V.if_ne (q := 176) (tgt := 178) F dL_law_173 rfl (by decide) (by omega) (fun k173 => ?_) (fun k173 => by exfalso; omega)
              exact J178 0 _ trivial
          refine V.iload_n (q := 134) F dL_law_133 rfl rfl rfl ?_
          refine V.iconst (q := 135) F dL_law_134 rfl ?_
          refine V.irem (q := 136) F dL_law_135 rfl ⟨by omega, by omega⟩ ?_
          refine V.iconst (q := 137) F dL_law_136 rfl ?_
          refine V.icmp_ne (q := 140) (tgt := 160) F dL_law_137 rfl (by decide) (by omega) (fun k137 => ?_) (fun k137 => ?_)
          · exact J160 0 _ trivial
          · refine V.aload_n (q := 141) F dL_law_140 rfl rfl rfl ?_
            refine V.iload (q := 143) F dL_law_141 rfl rfl ?_
            refine V.iconst (q := 144) F dL_law_143 rfl ?_
            refine V.ishrR (q := 145) F dL_law_144 rfl (zI_shr (by omega) (zI 5) 5 32 (by decide +kernel) (by decide +kernel) (by omega)) ?_
            refine V.iconst (q := 146) F dL_law_145 rfl ?_
            refine V.iandR (q := 147) F dL_law_146 rfl ?_
            rw [zI_and1]
            refine V.iload (q := 149) F dL_law_147 rfl rfl ?_
            refine V.bipush (q := 151) F dL_law_149 rfl (by decide) ?_
            refine V.ishrR (q := 152) F dL_law_151 rfl (zI_shr (by omega) (zI 6) 6 64 (by decide +kernel) (by decide +kernel) (by omega)) ?_
            refine V.iconst (q := 153) F dL_law_152 rfl ?_
            refine V.iandR (q := 154) F dL_law_153 rfl ?_
            rw [zI_and1]
            refine V.callSX (q := 157) F 27 rfl nd27 dL_law_154 rfl (c_L_isPlate l G A a2 R2 sn t o2 s2 bb n (e + 1) ((v / 32) % 2) ((v / 64) % 2) κ hP2 hbb hn ht (by omega) (by omega)) gL_law_L_isPlate rfl ydL_isPlate ⟨Nat.le_of_ble_eq_true rfl, Nat.le_of_ble_eq_true rfl⟩ rfl rfl (Nat.le_of_ble_eq_true rfl) ⟨Nat.le_of_ble_eq_true rfl, Nat.le_of_ble_eq_true rfl⟩ (fun r9 w9 h9 => ?_)
            obtain ⟨κ, rfl, rfl⟩ := h9
            refine V.eq (pc' := 157) (st' := [_]) (ws' := WX A G a2 o2 s2 R2 bb sn t n κ ++ [(wa, aI G 48 wf2)]) rfl rfl rfl rfl ?_
            refine V.if_eq (q := 160) (tgt := 176) F dL_law_157 rfl (by decide) (by omega) (fun k157 => by exfalso; omega) (fun k157 => ?_)
            exact J160 0 _ trivial
        refine V.iload_n (q := 107) F dL_law_106 rfl rfl rfl ?_
        refine V.iconst (q := 108) F dL_law_107 rfl ?_
        refine V.irem (q := 109) F dL_law_108 rfl ⟨by omega, by omega⟩ ?_
        refine V.iconst (q := 110) F dL_law_109 rfl ?_
        refine V.icmp_ne (q := 113) (tgt := 133) F dL_law_110 rfl (by decide) (by omega) (fun k110 => ?_) (fun k110 => ?_)
        · exact J133 0 _ trivial
        · refine V.aload_n (q := 114) F dL_law_113 rfl rfl rfl ?_
          refine V.iload (q := 116) F dL_law_114 rfl rfl ?_
          refine V.iconst (q := 117) F dL_law_116 rfl ?_
          refine V.ishrR (q := 118) F dL_law_117 rfl (zI_shr (by omega) (zI 5) 5 32 (by decide +kernel) (by decide +kernel) (by omega)) ?_
          refine V.iconst (q := 119) F dL_law_118 rfl ?_
          refine V.iandR (q := 120) F dL_law_119 rfl ?_
          rw [zI_and1]
          refine V.iload (q := 122) F dL_law_120 rfl rfl ?_
          refine V.bipush (q := 124) F dL_law_122 rfl (by decide) ?_
          refine V.ishrR (q := 125) F dL_law_124 rfl (zI_shr (by omega) (zI 6) 6 64 (by decide +kernel) (by decide +kernel) (by omega)) ?_
          refine V.iconst (q := 126) F dL_law_125 rfl ?_
          refine V.iandR (q := 127) F dL_law_126 rfl ?_
          rw [zI_and1]
          refine V.callSX (q := 130) F 27 rfl nd27 dL_law_127 rfl (c_L_areShares l G A a2 R2 sn t o2 s2 bb n (e + 1) ((v / 32) % 2) ((v / 64) % 2) κ hP2 hbb hn ht (by omega) (by omega)) gL_law_L_areShares rfl ydL_areShares ⟨Nat.le_of_ble_eq_true rfl, Nat.le_of_ble_eq_true rfl⟩ rfl rfl (Nat.le_of_ble_eq_true rfl) ⟨Nat.le_of_ble_eq_true rfl, Nat.le_of_ble_eq_true rfl⟩ (fun r9 w9 h9 => ?_)
          obtain ⟨κ, rfl, rfl⟩ := h9
          refine V.eq (pc' := 130) (st' := [_]) (ws' := WX A G a2 o2 s2 R2 bb sn t n κ ++ [(wa, aI G 48 wf2)]) rfl rfl rfl rfl ?_
          refine V.if_eq (q := 133) (tgt := 176) F dL_law_130 rfl (by decide) (by omega) (fun k130 => by exfalso; omega) (fun k130 => ?_)
          exact J133 0 _ trivial
  exact L72 _ 0 _ _ _ _ _ _ (by omega) hP (Nat.lt_succ_self _)
set_option maxHeartbeats 4000000 in
set_option maxRecDepth 20000 in
theorem law_start {X : Cx} {l : Launch} {G : Gx} {b L : Nat} {xs : Nat → Int32} (F : Fx X (YL l G)) (S : SX X b L xs) (hL : L ≤ 3072) : V X (YL l G) 0 0 0 [some (.ref b), none, none, none, none] [] [] := by
  refine V.new (q := 3) (k' := 1) (n' := 9) (fs := [.null, .null, .null, .int (zI 0), .null, .null, .null, .null, .null]) F 6 dL_law_0 rfl rfl inlX6 tyX6 tyX6_ok (List.mem_of_getElem? (i := 0) rfl) (List.mem_of_getElem? (i := 1) rfl) (List.mem_of_getElem? (i := 2) rfl) dfX6 rfl rfl ⟨Nat.le_of_ble_eq_true rfl, Nat.le_of_ble_eq_true rfl⟩ (fun p0 => ?_)
  refine V.eq (pc' := 3) (ws' := [(p0, .inr (6, [.null, .null, .null, .int (zI 0), .null, .null, .null, .null, .null]))]) rfl rfl rfl rfl ?_
  refine V.dup (q := 4) F dL_law_3 rfl rfl ?_
  refine V.callI (q := 7) (k' := 27) (n' := 159285) (wr := []) F [0] [] dL_law_4 rfl (c_X6_init l G p0) gL_law_X6_init rfl rfl (List.mem_of_getElem? (i := 2) rfl) (List.mem_of_getElem? (i := 4) rfl) (List.mem_of_getElem? (i := 5) rfl) ydX6_init ⟨Nat.le_of_ble_eq_true rfl, Nat.le_of_ble_eq_true rfl⟩ rfl rfl (Nat.le_of_ble_eq_true rfl) rfl rfl rfl rfl (by decide) rfl rfl ⟨Nat.le_of_ble_eq_true rfl, Nat.le_of_ble_eq_true rfl⟩ ?_
  rintro w9 ⟨p1, p2, p3, p4, p5, p6, p7, p8, p9, p10, p11, p12, p13, p14, p15, p16, p17, p18, p19, p20, p21, p22, p23, p24, p25, p26, rfl⟩
  refine V.sub (ws' := [(p0, .inr (6, [.ref p1, .ref p4, .ref p6, .int (zI 0), .ref p7, .ref p8, .ref p14, .ref p18, .ref p22])), (p1, .inr (0, [.ref p2, .ref p3])), (p2, aI G 26181 (upz (upz (upz (fun _ => 0) 26176 12) 26177 30) 26178 5)), (p3, aI G 1584 (fun _ => 0)), (p4, .inr (2, [.ref p5, .int (zI 0), .int (zI 0)])), (p5, aI G 104724 (fun _ => 0)), (p6, aI G 26181 (fun _ => 0)), (p8, .inr (5, [.ref p9, .int (zI 0)])), (p9, aC G 80 (fun _ => 0)), (p7, .inr (3, [.ref p8, .ref p10, .ref p11, .ref p12, .ref p13, .int (zI 0), .int (zI 0)])), (p10, aI G 16 (fun _ => 0)), (p11, aI G 16 (fun _ => 0)), (p12, aI G 16 (fun _ => 0)), (p13, aI G 16 (fun _ => 0)), (p14, .inr (4, [.ref p15, .ref p16, .ref p17, .int (zI 0)])), (p15, aI G 48 (fun _ => 0)), (p16, aI G 48 (fun _ => 0)), (p17, aZ G 48 (fun _ => 0)), (p18, .inr (4, [.ref p19, .ref p20, .ref p21, .int (zI 0)])), (p19, aI G 48 (fun _ => 0)), (p20, aI G 48 (fun _ => 0)), (p21, aZ G 48 (fun _ => 0)), (p22, .inr (1, [.ref p23, .int (zI 0), .int (zI 0), .int (zI 0)])), (p23, .inr (4, [.ref p24, .ref p25, .ref p26, .int (zI 0)])), (p24, aI G 48 (fun _ => 0)), (p25, aI G 48 (fun _ => 0)), (p26, aZ G 48 (fun _ => 0))]) [0, 1, 2, 3, 4, 5, 6, 8, 9, 7, 10, 11, 12, 13, 14, 15, 16, 17, 18, 19, 20, 21, 22, 23, 24, 25, 26] (by decide) rfl ?_
  refine V.eq (pc' := 7) (ws' := [(p0, .inr (6, [.ref p1, .ref p4, .ref p6, .int (zI 0), .ref p7, .ref p8, .ref p14, .ref p18, .ref p22])), (p1, .inr (0, [.ref p2, .ref p3])), (p2, aI G 26181 (upz (upz (upz (fun _ => 0) 26176 12) 26177 30) 26178 5)), (p3, aI G 1584 (fun _ => 0)), (p4, .inr (2, [.ref p5, .int (zI 0), .int (zI 0)])), (p5, aI G 104724 (fun _ => 0)), (p6, aI G 26181 (fun _ => 0)), (p8, .inr (5, [.ref p9, .int (zI 0)])), (p9, aC G 80 (fun _ => 0)), (p7, .inr (3, [.ref p8, .ref p10, .ref p11, .ref p12, .ref p13, .int (zI 0), .int (zI 0)])), (p10, aI G 16 (fun _ => 0)), (p11, aI G 16 (fun _ => 0)), (p12, aI G 16 (fun _ => 0)), (p13, aI G 16 (fun _ => 0)), (p14, .inr (4, [.ref p15, .ref p16, .ref p17, .int (zI 0)])), (p15, aI G 48 (fun _ => 0)), (p16, aI G 48 (fun _ => 0)), (p17, aZ G 48 (fun _ => 0)), (p18, .inr (4, [.ref p19, .ref p20, .ref p21, .int (zI 0)])), (p19, aI G 48 (fun _ => 0)), (p20, aI G 48 (fun _ => 0)), (p21, aZ G 48 (fun _ => 0)), (p22, .inr (1, [.ref p23, .int (zI 0), .int (zI 0), .int (zI 0)])), (p23, .inr (4, [.ref p24, .ref p25, .ref p26, .int (zI 0)])), (p24, aI G 48 (fun _ => 0)), (p25, aI G 48 (fun _ => 0)), (p26, aZ G 48 (fun _ => 0))]) rfl rfl rfl rfl ?_
  refine V.astore_n (q := 8) (lo' := [_, _, _, _, _]) F dL_law_7 rfl rfl (Nat.le_of_ble_eq_true rfl) rfl rfl ?_
  refine V.bipush (q := 10) F dL_law_8 rfl (by decide) ?_
  refine V.newI (q := 12) (N := 48) (k' := 28) (n' := 159333) F dL_law_10 rfl (List.mem_of_getElem? (i := 3) rfl) rfl (by decide) rfl rfl ⟨Nat.le_of_ble_eq_true rfl, Nat.le_of_ble_eq_true rfl⟩ (fun wa => ?_)
  refine V.astore_n (q := 13) (lo' := [_, _, _, _, _]) F dL_law_12 rfl rfl (Nat.le_of_ble_eq_true rfl) rfl rfl ?_
  exact law_body (A := (fun j => [p0, p1, p2, p3, p4, p5, p6, p8, p9, p7, p10, p11, p12, p13, p14, p15, p16, p17, p18, p19, p20, p21, p22, p23, p24, p25, p26].getD j 0)) (wa := wa) (a := a0z) (R := fun _ => 0) (sn := fun _ => 0) (t := fun _ => 0) (wf := fun _ => 0) (o := 0) (s := 0) (bb := 0) (n := 0) (κ := ⟨(fun _ => 0, fun _ => 0, fun _ => 0, fun _ => 0, fun _ => 0), (fun _ => 0, fun _ => 0, fun _ => 0), (fun _ => 0, fun _ => 0, fun _ => 0), (fun _ => 0, fun _ => 0, fun _ => 0), (0, 0, 0, 0, 0, 0, 0, 0)⟩) F S hL PI.start rfl rfl rfl (by omega) (by omega) (fun _ => ⟨Int.le_refl 0, by show (0 : Int) < 65536; omega⟩) (fun _ => Int.le_refl 0) rfl rfl
set_option maxHeartbeats 4000000 in
set_option maxRecDepth 20000 in
theorem whole_start {p : Program} {e : Env} {s : State} {m : MethodId} {below : List Frame} {meth : Method} {c : Code} (l : Launch) (hflags : l.flags = flags0) {b L : Nat} {xs : Nat → Int32} (hL : L ≤ 260) (C0 : lw_At p s m meth c b L xs) : W p l e room_1 s m #[Value.ref b] below meth c s.heap [] 0 0 (lw_Z below #[Value.ref b] s) (entryFrame m ([Value.ref b] : List Value).toArray 5) := by
  obtain ⟨hx, hcb, hr, hml, hown, hts, hX, hbl, hlocks, hgv⟩ := C0
  have hT : ∀ w ∈ wsL_law, w.before #[Value.ref b] s = true := fun w hw => hts w (wsL_law_in w hw)
  obtain ⟨c0, i0, h0⟩ := u_known (C := RX0) (T := TX0) (N := 2) hT inlX0 (hT _ (List.mem_of_getElem? (i := 11) rfl))
  obtain ⟨c1, i1, h1⟩ := u_known (C := RX1) (T := TX1) (N := 4) hT inlX1 (hT _ (List.mem_of_getElem? (i := 32) rfl))
  obtain ⟨c2, i2, h2⟩ := u_known (C := RX2) (T := TX2) (N := 3) hT inlX2 (hT _ (List.mem_of_getElem? (i := 15) rfl))
  obtain ⟨c3, i3, h3⟩ := u_known (C := RX3) (T := TX3) (N := 7) hT inlX3 (hT _ (List.mem_of_getElem? (i := 21) rfl))
  obtain ⟨c4, i4, h4⟩ := u_known (C := RX4) (T := TX4) (N := 4) hT inlX4 (hT _ (List.mem_of_getElem? (i := 27) rfl))
  obtain ⟨c5, i5, h5⟩ := u_known (C := RX5) (T := TX5) (N := 2) hT inlX5 (hT _ (List.mem_of_getElem? (i := 54) rfl))
  obtain ⟨c6, i6, h6⟩ := u_known (C := RX6) (T := TX6) (N := 9) hT inlX6 (hT _ (List.mem_of_getElem? (i := 1) rfl))
  obtain ⟨cAI, kAI, cmI, eI, fI, gI⟩ := Cond.arrayClass_spec (hT _ (List.mem_of_getElem? (i := 3) rfl))
  obtain ⟨cAZ, kAZ, cmZ, eZ, fZ, gZ⟩ := Cond.arrayClass_spec (hT _ (List.mem_of_getElem? (i := 76) rfl))
  obtain ⟨cAC, kAC, cmC, eC, fC, gC⟩ := Cond.arrayClass_spec (hT _ (List.mem_of_getElem? (i := 67) rfl))
  have hK : va_K ((fun k => [c0, c1, c2, c3, c4, c5, c6].getD k 0), (fun k => [i0, i1, i2, i3, i4, i5, i6].getD k (fun _ => 0))) vwCl (tysOf (((fun k => [c0, c1, c2, c3, c4, c5, c6].getD k 0), (fun k => [i0, i1, i2, i3, i4, i5, i6].getD k (fun _ => 0))), cAI, cAI, cAZ, cAC)) s := by
    refine ⟨fun k q hq => ?_, fun k q hq => ?_⟩
    · have hk : k < 7 := (List.getElem?_eq_some_iff.mp hq).1
      rcases (show k = 0 ∨ k = 1 ∨ k = 2 ∨ k = 3 ∨ k = 4 ∨ k = 5 ∨ k = 6 by omega) with rfl | rfl | rfl | rfl | rfl | rfl | rfl <;> cases hq
      · exact h0
      · exact h1
      · exact h2
      · exact h3
      · exact h4
      · exact h5
      · exact h6
    · have hk : k < 4 := (List.getElem?_eq_some_iff.mp hq).1
      rcases (show k = 0 ∨ k = 1 ∨ k = 2 ∨ k = 3 by omega) with rfl | rfl | rfl | rfl <;> cases hq
      · exact ⟨fun n z => ⟨fun k h => (by cases h), kAI, fI, cmI, gI⟩, eI⟩
      · exact ⟨fun n z => ⟨fun k h => (by cases h), kAI, fI, cmI, gI⟩, eI⟩
      · exact ⟨fun n z => ⟨fun k h => (by cases h), kAZ, fZ, cmZ, gZ⟩, eZ⟩
      · exact ⟨fun n z => ⟨fun k h => (by cases h), kAC, fC, cmC, gC⟩, eC⟩
  have hN : NW s := ⟨va_Nw.of rfl (hts _ nw1), va_Nw.of rfl (hts _ nw2), va_Nw.of rfl (hts _ nw3), va_Nw.of rfl (hts _ nw4)⟩
  have hl := lv_entry [Value.ref b] (n := 5) (Nat.le_of_ble_eq_true rfl)
  rw [lg_entry_eq]
  generalize (lg_sl [Value.ref b] ++ List.replicate (5 - (lg_sl [Value.ref b]).length) Slot.unset).toArray = ls at hl ⊢
  exact law_start (G := (((fun k => [c0, c1, c2, c3, c4, c5, c6].getD k 0), (fun k => [i0, i1, i2, i3, i4, i5, i6].getD k (fun _ => 0))), cAI, cAI, cAZ, cAC)) (X := (p, e, s, m, #[Value.ref b], below, meth, c, lw_Z below #[Value.ref b] s, fun q => s.heap.size ≤ q)) ⟨hx, hcb, hml, hown, hT, hK, hN, fun q h => h⟩ ⟨hX, hbl, Nat.not_le.mpr hbl, rfl, hr, hlocks, rfl, fun q h => h⟩ (by omega) s.heap [] ls hl (fun k q hq => by simp at hq) ⟨fun i j p q h1 h2 h3 => by simp at h1, fun k q hq => by simp at hq⟩ va_S.rf

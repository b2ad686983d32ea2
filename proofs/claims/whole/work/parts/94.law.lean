theorem nw1 : Cond.methodLinkNest RX3 64 yX6_roseOf RX6 ∈ lw_tbl := List.mem_append_right _ (by decide +kernel)
theorem nw2 : Cond.methodLinkNest RX3 81 yX6_isBetween RX6 ∈ lw_tbl := List.mem_append_right _ (by decide +kernel)
theorem nw3 : Cond.methodLinkNest RX4 45 yX6_partOf RX6 ∈ lw_tbl := List.mem_append_right _ (by decide +kernel)
theorem nw4 : Cond.methodLinkNest RX5 23 yX6_isBetween RX6 ∈ lw_tbl := List.mem_append_right _ (by decide +kernel)
set_option maxHeartbeats 4000000 in
set_option maxRecDepth 20000 in
theorem law_loop {X : Cx} {l : Launch} {G : Gx} {A : Nat → Nat} {hm ms mp mq mt mpa msh mo mtu b L : Nat} {xs : Nat → Int32} (F : Fx X (YL l G)) (S : SX X b L xs) (hL : L ≤ 3072) : ∀ (nq : Nat) (i : Int) (a R sn t sv past sq pa sh ot tu : Int → Int) (o s bb n : Int) (κ : Scr) (hi : 0 ≤ i ∧ i ≤ (L : Int) + 6) (h : LI a o s R bb sn t n sv past sq), ((L : Int) + 6 - i).toNat < nq → V X (YL l G) 36 202478 18 [some (.ref b), some (.ref (A 0)), some (.ref hm), some (.int (zI i))] [] (WX A G a o s R bb sn t n κ ++ WM hm ms mp mq mt mpa msh mo mtu G sv past s sq bb t n pa sh ot tu) := by
  intro nq
  induction nq with
  | zero => intro i a R sn t sv past sq pa sh ot tu o s bb n κ hi h hmz; exact absurd hmz (Nat.not_lt_zero _)
  | succ nq ih =>
    intro i a R sn t sv past sq pa sh ot tu o s bb n κ hi h hmz
    refine V.iload_n (q := 19) F dL_law_18 rfl rfl rfl ?_
    refine V.aload_n (q := 20) F dL_law_19 rfl rfl rfl ?_
    refine V.slen (q := 21) F S dL_law_20 rfl ?_
    refine V.bipush (q := 23) F dL_law_21 rfl (by decide) ?_
    refine V.isub (q := 24) F dL_law_23 rfl ?_
    refine V.icmp_gt (q := 27) (tgt := 1078) F dL_law_24 rfl (by decide) (by omega) (fun k24 => ?_) (fun k24 => ?_)
    · refine V.iconst (q := 1079) F dL_law_1078 rfl ?_
      exact V.lend F S dL_law_1079 (by decide) (by decide)
    · have hi6 : 0 ≤ i ∧ i + 6 ≤ (L : Int) := by omega
      have kk : KN X l G A hm ms mp mq mt mpa msh mo mtu b i := by
        intro a R sn t sv past sq pa sh ot tu o s bb n κ h
        refine V.iinc (q := 1075) (lo' := [_, _, _, _]) F dL_law_1072 rfl rfl (Nat.le_of_ble_eq_true rfl) rfl rfl ?_
        refine V.goto (tgt := 18) F dL_law_1075 (by decide) ?_
        exact ih (i + 6) a R sn t sv past sq pa sh ot tu o s bb n κ (by omega) h (by omega)
      refine V.aload_n (q := 28) F dL_law_27 rfl rfl rfl ?_
      refine V.iload_n (q := 29) F dL_law_28 rfl rfl rfl ?_
      refine V.sld (q := 30) F S dL_law_29 rfl hL (by omega) ?_
      refine V.bipush (q := 32) F dL_law_30 rfl (by decide) ?_
      refine V.iandR (q := 33) F dL_law_32 rfl ?_
      rw [zI_and31]
      have hr : 0 ≤ scz xs i % 32 ∧ scz xs i % 32 < 32 := by omega
      generalize scz xs i % 32 = w at hr ⊢
      rcases (show w = 0 ∨ w = 1 ∨ w = 2 ∨ w = 3 ∨ w = 4 ∨ w = 5 ∨ w = 6 ∨ w = 7 ∨ w = 8 ∨ w = 9 ∨ w = 10 ∨ w = 11 ∨ w = 12 ∨ w = 13 ∨ w = 14 ∨ w = 15 ∨ w = 16 ∨ w = 17 ∨ w = 18 ∨ w = 19 ∨ w = 20 ∨ w = 21 ∨ w = 22 ∨ w = 23 ∨ w = 24 ∨ w = 25 ∨ (w < 0 ∨ 25 < w) by omega) with rfl | rfl | rfl | rfl | rfl | rfl | rfl | rfl | rfl | rfl | rfl | rfl | rfl | rfl | rfl | rfl | rfl | rfl | rfl | rfl | rfl | rfl | rfl | rfl | rfl | rfl | hsw
      · refine V.tswIn (tgt := 152) F dL_law_33 (by decide) (by decide) (by decide) rfl (by decide) ?_
        exact lcase_0 F S hL hi6 h kk
      · refine V.tswIn (tgt := 215) F dL_law_33 (by decide) (by decide) (by decide) rfl (by decide) ?_
        exact lcase_1 F S hL hi6 h kk
      · refine V.tswIn (tgt := 258) F dL_law_33 (by decide) (by decide) (by decide) rfl (by decide) ?_
        exact lcase_2 F S hL hi6 h kk
      · refine V.tswIn (tgt := 311) F dL_law_33 (by decide) (by decide) (by decide) rfl (by decide) ?_
        exact lcase_3 F S hL hi6 h kk
      · refine V.tswIn (tgt := 354) F dL_law_33 (by decide) (by decide) (by decide) rfl (by decide) ?_
        exact lcase_4 F S hL hi6 h kk
      · refine V.tswIn (tgt := 387) F dL_law_33 (by decide) (by decide) (by decide) rfl (by decide) ?_
        exact lcase_5 F S hL hi6 h kk
      · refine V.tswIn (tgt := 420) F dL_law_33 (by decide) (by decide) (by decide) rfl (by decide) ?_
        exact lcase_6 F S hL hi6 h kk
      · refine V.tswIn (tgt := 453) F dL_law_33 (by decide) (by decide) (by decide) rfl (by decide) ?_
        exact lcase_7 F S hL hi6 h kk
      · refine V.tswIn (tgt := 478) F dL_law_33 (by decide) (by decide) (by decide) rfl (by decide) ?_
        exact lcase_8 F S hL hi6 h kk
      · refine V.tswIn (tgt := 491) F dL_law_33 (by decide) (by decide) (by decide) rfl (by decide) ?_
        exact lcase_9 F S hL hi6 h kk
      · refine V.tswIn (tgt := 504) F dL_law_33 (by decide) (by decide) (by decide) rfl (by decide) ?_
        exact lcase_10 F S hL hi6 h kk
      · refine V.tswIn (tgt := 517) F dL_law_33 (by decide) (by decide) (by decide) rfl (by decide) ?_
        exact lcase_11 F S hL hi6 h kk
      · refine V.tswIn (tgt := 530) F dL_law_33 (by decide) (by decide) (by decide) rfl (by decide) ?_
        exact lcase_12 F S hL hi6 h kk
      · refine V.tswIn (tgt := 543) F dL_law_33 (by decide) (by decide) (by decide) rfl (by decide) ?_
        exact lcase_13 F S hL hi6 h kk
      · refine V.tswIn (tgt := 586) F dL_law_33 (by decide) (by decide) (by decide) rfl (by decide) ?_
        exact lcase_14 F S hL hi6 h kk
      · refine V.tswIn (tgt := 639) F dL_law_33 (by decide) (by decide) (by decide) rfl (by decide) ?_
        exact lcase_15 F S hL hi6 h kk
      · refine V.tswIn (tgt := 692) F dL_law_33 (by decide) (by decide) (by decide) rfl (by decide) ?_
        exact lcase_16 F S hL hi6 h kk
      · refine V.tswIn (tgt := 745) F dL_law_33 (by decide) (by decide) (by decide) rfl (by decide) ?_
        exact lcase_17 F S hL hi6 h kk
      · refine V.tswIn (tgt := 788) F dL_law_33 (by decide) (by decide) (by decide) rfl (by decide) ?_
        exact lcase_18 F S hL hi6 h kk
      · refine V.tswIn (tgt := 831) F dL_law_33 (by decide) (by decide) (by decide) rfl (by decide) ?_
        exact lcase_19 F S hL hi6 h kk
      · refine V.tswIn (tgt := 874) F dL_law_33 (by decide) (by decide) (by decide) rfl (by decide) ?_
        exact lcase_20 F S hL hi6 h kk
      · refine V.tswIn (tgt := 907) F dL_law_33 (by decide) (by decide) (by decide) rfl (by decide) ?_
        exact lcase_21 F S hL hi6 h kk
      · refine V.tswIn (tgt := 950) F dL_law_33 (by decide) (by decide) (by decide) rfl (by decide) ?_
        exact lcase_22 F S hL hi6 h kk
      · refine V.tswIn (tgt := 1003) F dL_law_33 (by decide) (by decide) (by decide) rfl (by decide) ?_
        exact lcase_23 F S hL hi6 h kk
      · refine V.tswIn (tgt := 1036) F dL_law_33 (by decide) (by decide) (by decide) rfl (by decide) ?_
        exact lcase_24 F S hL hi6 h kk
      · refine V.tswIn (tgt := 1049) F dL_law_33 (by decide) (by decide) (by decide) rfl (by decide) ?_
        exact lcase_25 F S hL hi6 h kk
      · refine V.tswOut (tgt := 1072) F dL_law_33 (by omega) hsw (by decide) ?_
        exact kk _ _ _ _ _ _ _ _ _ _ _ _ _ _ _ _ h
set_option maxHeartbeats 4000000 in
set_option maxRecDepth 20000 in
theorem law_start {X : Cx} {l : Launch} {G : Gx} {b L : Nat} {xs : Nat → Int32} (F : Fx X (YL l G)) (S : SX X b L xs) (hL : L ≤ 3072) : V X (YL l G) 0 0 0 [some (.ref b), none, none, none] [] [] := by
  refine V.new (q := 3) (k' := 1) (n' := 9) (fs := [.null, .null, .null, .int (zI 0), .null, .null, .null, .null, .null]) F 6 dL_law_0 rfl rfl inlX6 tyX6 tyX6_ok (List.mem_of_getElem? (i := 0) rfl) (List.mem_of_getElem? (i := 1) rfl) (List.mem_of_getElem? (i := 2) rfl) dfX6 rfl rfl ⟨Nat.le_of_ble_eq_true rfl, Nat.le_of_ble_eq_true rfl⟩ (fun p0 => ?_)
  refine V.eq (pc' := 3) (ws' := [(p0, .inr (6, [.null, .null, .null, .int (zI 0), .null, .null, .null, .null, .null]))]) rfl rfl rfl rfl ?_
  refine V.dup (q := 4) F dL_law_3 rfl rfl ?_
  refine V.callI (q := 7) (k' := 27) (n' := 159285) (wr := []) F [0] [] dL_law_4 rfl (c_X6_init l G p0) gL_law_X6_init rfl rfl (List.mem_of_getElem? (i := 2) rfl) (List.mem_of_getElem? (i := 6) rfl) (List.mem_of_getElem? (i := 7) rfl) ydX6_init ⟨Nat.le_of_ble_eq_true rfl, Nat.le_of_ble_eq_true rfl⟩ rfl rfl (Nat.le_of_ble_eq_true rfl) rfl rfl rfl rfl (by decide) rfl rfl ⟨Nat.le_of_ble_eq_true rfl, Nat.le_of_ble_eq_true rfl⟩ ?_
  rintro w9 ⟨p1, p2, p3, p4, p5, p6, p7, p8, p9, p10, p11, p12, p13, p14, p15, p16, p17, p18, p19, p20, p21, p22, p23, p24, p25, p26, rfl⟩
  refine V.sub (ws' := [(p0, .inr (6, [.ref p1, .ref p4, .ref p6, .int (zI 0), .ref p7, .ref p8, .ref p14, .ref p18, .ref p22])), (p1, .inr (0, [.ref p2, .ref p3])), (p2, aI G 26181 (upz (upz (upz (fun _ => 0) 26176 12) 26177 30) 26178 5)), (p3, aI G 1584 (fun _ => 0)), (p4, .inr (2, [.ref p5, .int (zI 0), .int (zI 0)])), (p5, aI G 104724 (fun _ => 0)), (p6, aI G 26181 (fun _ => 0)), (p8, .inr (5, [.ref p9, .int (zI 0)])), (p9, aC G 80 (fun _ => 0)), (p7, .inr (3, [.ref p8, .ref p10, .ref p11, .ref p12, .ref p13, .int (zI 0), .int (zI 0)])), (p10, aI G 16 (fun _ => 0)), (p11, aI G 16 (fun _ => 0)), (p12, aI G 16 (fun _ => 0)), (p13, aI G 16 (fun _ => 0)), (p14, .inr (4, [.ref p15, .ref p16, .ref p17, .int (zI 0)])), (p15, aI G 48 (fun _ => 0)), (p16, aI G 48 (fun _ => 0)), (p17, aZ G 48 (fun _ => 0)), (p18, .inr (4, [.ref p19, .ref p20, .ref p21, .int (zI 0)])), (p19, aI G 48 (fun _ => 0)), (p20, aI G 48 (fun _ => 0)), (p21, aZ G 48 (fun _ => 0)), (p22, .inr (1, [.ref p23, .int (zI 0), .int (zI 0), .int (zI 0)])), (p23, .inr (4, [.ref p24, .ref p25, .ref p26, .int (zI 0)])), (p24, aI G 48 (fun _ => 0)), (p25, aI G 48 (fun _ => 0)), (p26, aZ G 48 (fun _ => 0))]) [0, 1, 2, 3, 4, 5, 6, 8, 9, 7, 10, 11, 12, 13, 14, 15, 16, 17, 18, 19, 20, 21, 22, 23, 24, 25, 26] (by decide) rfl ?_
  refine V.eq (pc' := 7) (ws' := [(p0, .inr (6, [.ref p1, .ref p4, .ref p6, .int (zI 0), .ref p7, .ref p8, .ref p14, .ref p18, .ref p22])), (p1, .inr (0, [.ref p2, .ref p3])), (p2, aI G 26181 (upz (upz (upz (fun _ => 0) 26176 12) 26177 30) 26178 5)), (p3, aI G 1584 (fun _ => 0)), (p4, .inr (2, [.ref p5, .int (zI 0), .int (zI 0)])), (p5, aI G 104724 (fun _ => 0)), (p6, aI G 26181 (fun _ => 0)), (p8, .inr (5, [.ref p9, .int (zI 0)])), (p9, aC G 80 (fun _ => 0)), (p7, .inr (3, [.ref p8, .ref p10, .ref p11, .ref p12, .ref p13, .int (zI 0), .int (zI 0)])), (p10, aI G 16 (fun _ => 0)), (p11, aI G 16 (fun _ => 0)), (p12, aI G 16 (fun _ => 0)), (p13, aI G 16 (fun _ => 0)), (p14, .inr (4, [.ref p15, .ref p16, .ref p17, .int (zI 0)])), (p15, aI G 48 (fun _ => 0)), (p16, aI G 48 (fun _ => 0)), (p17, aZ G 48 (fun _ => 0)), (p18, .inr (4, [.ref p19, .ref p20, .ref p21, .int (zI 0)])), (p19, aI G 48 (fun _ => 0)), (p20, aI G 48 (fun _ => 0)), (p21, aZ G 48 (fun _ => 0)), (p22, .inr (1, [.ref p23, .int (zI 0), .int (zI 0), .int (zI 0)])), (p23, .inr (4, [.ref p24, .ref p25, .ref p26, .int (zI 0)])), (p24, aI G 48 (fun _ => 0)), (p25, aI G 48 (fun _ => 0)), (p26, aZ G 48 (fun _ => 0))]) rfl rfl rfl rfl ?_
  refine V.astore_n (q := 8) (lo' := [_, _, _, _]) F dL_law_7 rfl rfl (Nat.le_of_ble_eq_true rfl) rfl rfl ?_
  refine V.new (q := 11) (k' := 28) (n' := 159296) (fs := [.null, .null, .int (zI 0), .null, .int (zI 0), .null, .int (zI 0), .null, .null, .null, .null]) F 7 dL_law_8 rfl rfl inlX7 tyX7 tyX7_ok (List.mem_of_getElem? (i := 3) rfl) (List.mem_of_getElem? (i := 4) rfl) (List.mem_of_getElem? (i := 5) rfl) dfX7 rfl rfl ⟨Nat.le_of_ble_eq_true rfl, Nat.le_of_ble_eq_true rfl⟩ (fun r0 => ?_)
  refine V.eq (pc' := 11) (ws' := [(p0, .inr (6, [.ref p1, .ref p4, .ref p6, .int (zI 0), .ref p7, .ref p8, .ref p14, .ref p18, .ref p22])), (p1, .inr (0, [.ref p2, .ref p3])), (p2, aI G 26181 (upz (upz (upz (fun _ => 0) 26176 12) 26177 30) 26178 5)), (p3, aI G 1584 (fun _ => 0)), (p4, .inr (2, [.ref p5, .int (zI 0), .int (zI 0)])), (p5, aI G 104724 (fun _ => 0)), (p6, aI G 26181 (fun _ => 0)), (p8, .inr (5, [.ref p9, .int (zI 0)])), (p9, aC G 80 (fun _ => 0)), (p7, .inr (3, [.ref p8, .ref p10, .ref p11, .ref p12, .ref p13, .int (zI 0), .int (zI 0)])), (p10, aI G 16 (fun _ => 0)), (p11, aI G 16 (fun _ => 0)), (p12, aI G 16 (fun _ => 0)), (p13, aI G 16 (fun _ => 0)), (p14, .inr (4, [.ref p15, .ref p16, .ref p17, .int (zI 0)])), (p15, aI G 48 (fun _ => 0)), (p16, aI G 48 (fun _ => 0)), (p17, aZ G 48 (fun _ => 0)), (p18, .inr (4, [.ref p19, .ref p20, .ref p21, .int (zI 0)])), (p19, aI G 48 (fun _ => 0)), (p20, aI G 48 (fun _ => 0)), (p21, aZ G 48 (fun _ => 0)), (p22, .inr (1, [.ref p23, .int (zI 0), .int (zI 0), .int (zI 0)])), (p23, .inr (4, [.ref p24, .ref p25, .ref p26, .int (zI 0)])), (p24, aI G 48 (fun _ => 0)), (p25, aI G 48 (fun _ => 0)), (p26, aZ G 48 (fun _ => 0)), (r0, .inr (7, [.null, .null, .int (zI 0), .null, .int (zI 0), .null, .int (zI 0), .null, .null, .null, .null]))]) rfl rfl rfl rfl ?_
  refine V.dup (q := 12) F dL_law_11 rfl rfl ?_
  refine V.callI (q := 15) (k' := 36) (n' := 202478) (wr := [(p0, .inr (6, [.ref p1, .ref p4, .ref p6, .int (zI 0), .ref p7, .ref p8, .ref p14, .ref p18, .ref p22])), (p1, .inr (0, [.ref p2, .ref p3])), (p2, aI G 26181 (upz (upz (upz (fun _ => 0) 26176 12) 26177 30) 26178 5)), (p3, aI G 1584 (fun _ => 0)), (p4, .inr (2, [.ref p5, .int (zI 0), .int (zI 0)])), (p5, aI G 104724 (fun _ => 0)), (p6, aI G 26181 (fun _ => 0)), (p8, .inr (5, [.ref p9, .int (zI 0)])), (p9, aC G 80 (fun _ => 0)), (p7, .inr (3, [.ref p8, .ref p10, .ref p11, .ref p12, .ref p13, .int (zI 0), .int (zI 0)])), (p10, aI G 16 (fun _ => 0)), (p11, aI G 16 (fun _ => 0)), (p12, aI G 16 (fun _ => 0)), (p13, aI G 16 (fun _ => 0)), (p14, .inr (4, [.ref p15, .ref p16, .ref p17, .int (zI 0)])), (p15, aI G 48 (fun _ => 0)), (p16, aI G 48 (fun _ => 0)), (p17, aZ G 48 (fun _ => 0)), (p18, .inr (4, [.ref p19, .ref p20, .ref p21, .int (zI 0)])), (p19, aI G 48 (fun _ => 0)), (p20, aI G 48 (fun _ => 0)), (p21, aZ G 48 (fun _ => 0)), (p22, .inr (1, [.ref p23, .int (zI 0), .int (zI 0), .int (zI 0)])), (p23, .inr (4, [.ref p24, .ref p25, .ref p26, .int (zI 0)])), (p24, aI G 48 (fun _ => 0)), (p25, aI G 48 (fun _ => 0)), (p26, aZ G 48 (fun _ => 0))]) F [27] [0, 1, 2, 3, 4, 5, 6, 7, 8, 9, 10, 11, 12, 13, 14, 15, 16, 17, 18, 19, 20, 21, 22, 23, 24, 25, 26] dL_law_12 rfl (c_X7_init l G r0) gL_law_X7_init rfl rfl (List.mem_of_getElem? (i := 5) rfl) (List.mem_of_getElem? (i := 92) rfl) (List.mem_of_getElem? (i := 93) rfl) ydX7_init ⟨Nat.le_of_ble_eq_true rfl, Nat.le_of_ble_eq_true rfl⟩ rfl rfl (Nat.le_of_ble_eq_true rfl) rfl rfl rfl rfl (by decide) rfl rfl ⟨Nat.le_of_ble_eq_true rfl, Nat.le_of_ble_eq_true rfl⟩ ?_
  rintro w9 ⟨r1, r2, r3, r4, r5, r6, r7, r8, rfl⟩
  refine V.astore_n (q := 16) (lo' := [_, _, _, _]) F dL_law_15 rfl rfl (Nat.le_of_ble_eq_true rfl) rfl rfl ?_
  refine V.iconst (q := 17) F dL_law_16 rfl ?_
  refine V.istore_n (q := 18) (lo' := [_, _, _, _]) F dL_law_17 rfl rfl (Nat.le_of_ble_eq_true rfl) rfl rfl ?_
  exact law_loop (A := (fun j => [p0, p1, p2, p3, p4, p5, p6, p8, p9, p7, p10, p11, p12, p13, p14, p15, p16, p17, p18, p19, p20, p21, p22, p23, p24, p25, p26].getD j 0)) F S hL _ 0 a0z (fun _ => 0) (fun _ => 0) (fun _ => 0) sv0z (fun _ => 0) (fun _ => 0) (fun _ => 0) (fun _ => 0) (fun _ => 0) (fun _ => 0) 0 0 0 0 ⟨(fun _ => 0, fun _ => 0, fun _ => 0, fun _ => 0, fun _ => 0), (fun _ => 0, fun _ => 0, fun _ => 0), (fun _ => 0, fun _ => 0, fun _ => 0), (fun _ => 0, fun _ => 0, fun _ => 0), (0, 0, 0, 0, 0, 0, 0, 0)⟩ (by omega) LI.start (Nat.lt_succ_self _)
set_option maxHeartbeats 4000000 in
set_option maxRecDepth 20000 in
theorem whole_start {p : Program} {e : Env} {s : State} {m : MethodId} {below : List Frame} {meth : Method} {c : Code} (l : Launch) (hflags : l.flags = flags0) {b L : Nat} {xs : Nat → Int32} (hL : L ≤ 3072) (C0 : lw_At p s m meth c b L xs) : W p l e room_1 s m #[Value.ref b] below meth c s.heap [] 0 0 (lw_Z below #[Value.ref b] s) (entryFrame m ([Value.ref b] : List Value).toArray 4) := by
  obtain ⟨hx, hcb, hr, hml, hown, hts, hX, hbl, hlocks, hgv⟩ := C0
  have hT : ∀ w ∈ wsL_law, w.before #[Value.ref b] s = true := fun w hw => hts w (wsL_law_in w hw)
  obtain ⟨c0, i0, h0⟩ := u_known (C := RX0) (T := TX0) (N := 2) hT inlX0 (hT _ (List.mem_of_getElem? (i := 13) rfl))
  obtain ⟨c1, i1, h1⟩ := u_known (C := RX1) (T := TX1) (N := 4) hT inlX1 (hT _ (List.mem_of_getElem? (i := 35) rfl))
  obtain ⟨c2, i2, h2⟩ := u_known (C := RX2) (T := TX2) (N := 3) hT inlX2 (hT _ (List.mem_of_getElem? (i := 17) rfl))
  obtain ⟨c3, i3, h3⟩ := u_known (C := RX3) (T := TX3) (N := 7) hT inlX3 (hT _ (List.mem_of_getElem? (i := 24) rfl))
  obtain ⟨c4, i4, h4⟩ := u_known (C := RX4) (T := TX4) (N := 4) hT inlX4 (hT _ (List.mem_of_getElem? (i := 30) rfl))
  obtain ⟨c5, i5, h5⟩ := u_known (C := RX5) (T := TX5) (N := 2) hT inlX5 (hT _ (List.mem_of_getElem? (i := 57) rfl))
  obtain ⟨c6, i6, h6⟩ := u_known (C := RX6) (T := TX6) (N := 9) hT inlX6 (hT _ (List.mem_of_getElem? (i := 1) rfl))
  obtain ⟨c7, i7, h7⟩ := u_known (C := RX7) (T := TX7) (N := 11) hT inlX7 (hT _ (List.mem_of_getElem? (i := 4) rfl))
  obtain ⟨cAI, kAI, cmI, eI, fI, gI⟩ := Cond.arrayClass_spec (hT _ (List.mem_of_getElem? (i := 20) rfl))
  obtain ⟨cAJ, kAJ, cmJ, eJ, fJ, gJ⟩ := Cond.arrayClass_spec (hT _ (List.mem_of_getElem? (i := 96) rfl))
  obtain ⟨cAZ, kAZ, cmZ, eZ, fZ, gZ⟩ := Cond.arrayClass_spec (hT _ (List.mem_of_getElem? (i := 79) rfl))
  obtain ⟨cAC, kAC, cmC, eC, fC, gC⟩ := Cond.arrayClass_spec (hT _ (List.mem_of_getElem? (i := 70) rfl))
  have hK : va_K ((fun k => [c0, c1, c2, c3, c4, c5, c6, c7].getD k 0), (fun k => [i0, i1, i2, i3, i4, i5, i6, i7].getD k (fun _ => 0))) vwCl (tysOf (((fun k => [c0, c1, c2, c3, c4, c5, c6, c7].getD k 0), (fun k => [i0, i1, i2, i3, i4, i5, i6, i7].getD k (fun _ => 0))), cAI, cAJ, cAZ, cAC)) s := by
    refine ⟨fun k q hq => ?_, fun k q hq => ?_⟩
    · have hk : k < 8 := (List.getElem?_eq_some_iff.mp hq).1
      rcases (show k = 0 ∨ k = 1 ∨ k = 2 ∨ k = 3 ∨ k = 4 ∨ k = 5 ∨ k = 6 ∨ k = 7 by omega) with rfl | rfl | rfl | rfl | rfl | rfl | rfl | rfl <;> cases hq
      · exact h0
      · exact h1
      · exact h2
      · exact h3
      · exact h4
      · exact h5
      · exact h6
      · exact h7
    · have hk : k < 4 := (List.getElem?_eq_some_iff.mp hq).1
      rcases (show k = 0 ∨ k = 1 ∨ k = 2 ∨ k = 3 by omega) with rfl | rfl | rfl | rfl <;> cases hq
      · exact ⟨fun n z => ⟨fun k h => (by cases h), kAI, fI, cmI, gI⟩, eI⟩
      · exact ⟨fun n z => ⟨fun k h => (by cases h), kAJ, fJ, cmJ, gJ⟩, eJ⟩
      · exact ⟨fun n z => ⟨fun k h => (by cases h), kAZ, fZ, cmZ, gZ⟩, eZ⟩
      · exact ⟨fun n z => ⟨fun k h => (by cases h), kAC, fC, cmC, gC⟩, eC⟩
  have hN : NW s := ⟨va_Nw.of rfl (hts _ nw1), va_Nw.of rfl (hts _ nw2), va_Nw.of rfl (hts _ nw3), va_Nw.of rfl (hts _ nw4)⟩
  have hl := lv_entry [Value.ref b] (n := 4) (Nat.le_of_ble_eq_true rfl)
  rw [lg_entry_eq]
  generalize (lg_sl [Value.ref b] ++ List.replicate (4 - (lg_sl [Value.ref b]).length) Slot.unset).toArray = ls at hl ⊢
  exact law_start (G := (((fun k => [c0, c1, c2, c3, c4, c5, c6, c7].getD k 0), (fun k => [i0, i1, i2, i3, i4, i5, i6, i7].getD k (fun _ => 0))), cAI, cAJ, cAZ, cAC)) (X := (p, e, s, m, #[Value.ref b], below, meth, c, lw_Z below #[Value.ref b] s, fun q => s.heap.size ≤ q)) ⟨hx, hcb, hml, hown, hT, hK, hN, fun q h => h⟩ ⟨hX, hbl, Nat.not_le.mpr hbl, rfl, hr, hlocks, rfl, fun q h => h⟩ hL s.heap [] ls hl (fun k q hq => by simp at hq) ⟨fun i j p q h1 h2 h3 => by simp at h1, fun k q hq => by simp at hq⟩ va_S.rf

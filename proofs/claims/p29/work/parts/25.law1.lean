/-! the law: low, shares, quarters -/
abbrev YL_low (l : Launch) (G : Gx) : Sx := (cL_low, 2, RL, wsL_low, rmD 0, l, G)
theorem ydL_low : ydOk yL_low 2 := by decide +kernel
set_option maxHeartbeats 1000000 in
set_option maxRecDepth 20000 in
theorem c_L_low (l : Launch) (G : Gx)  (x y : Int) (hx : -2147483648 ≤ x ∧ x < 2147483648) (hy : 1 ≤ y ∧ y ≤ 1000) : Ct l G yL_low wsL_low (rmD 0) [.int (zI x), .int (zI y)] [] (Fn (some (.int (zI (x % 2147483648 % y)))) []) := by
  refine Ct.intro (cc := cL_low) (maxL := 2) (ret := (some .int)) (lo0 := [some (.int (zI x)), some (.int (zI y))]) (by decide +kernel) rfl ⟨rfl, rfl⟩ (Nat.le_of_ble_eq_true rfl) rfl ?_
  intro X F T
  change Fx X (YL_low l G) at F
  change V X (YL_low l G) 0 0 0 _ _ _
  refine V.iload_n (q := 1) F dL_low_0 rfl rfl rfl ?_
  refine V.ldc (q := 3) (v := 2147483647) (z := 2147483647) F dL_low_1 rfl (List.mem_of_getElem? (i := 1) rfl) (by decide +kernel) ?_
  refine V.iandR (q := 4) F dL_low_3 rfl ?_
  rw [zI_andm]
  refine V.iload_n (q := 5) F dL_low_4 rfl rfl rfl ?_
  refine V.irem (q := 6) F dL_low_5 rfl ⟨by omega, by omega⟩ ?_
  exact V.iret F T dL_low_6 (fnI rfl rfl) [] rfl rfl

abbrev YL_areShares (l : Launch) (G : Gx) : Sx := (cL_areShares, 18, RL, wsL_areShares, rmD 7, l, G)
theorem ydL_areShares : ydOk yL_areShares 3 := by decide +kernel
set_option maxHeartbeats 4000000 in
set_option maxRecDepth 20000 in
theorem c_L_areShares (l : Launch) (G : Gx) (A : Nat → Nat)  (a R sn t : Int → Int) (o s bb n N p q : Int) (κ : Scr) (hP : PI N a o s) (hbb : 0 ≤ bb ∧ bb ≤ 1) (hn : 0 ≤ n ∧ n ≤ 80) (ht : ∀ j, 0 ≤ t j ∧ t j < 65536) (hp : 0 ≤ p ∧ p ≤ 3) (hq4 : 0 ≤ q ∧ q ≤ 3) : Ct l G yL_areShares wsL_areShares (rmD 7) [.ref (A 0), .int (zI p), .int (zI q)] (WX A G a o s R bb sn t n κ) (RdX A G a o s R bb sn t n 1) := by
  refine Ct.intro (cc := cL_areShares) (maxL := 18) (ret := (some .boolean)) (lo0 := [some (.ref (A 0)), some (.int (zI p)), some (.int (zI q)), none, none, none, none, none, none, none, none, none, none, none, none, none, none, none]) (by decide +kernel) rfl ⟨rfl, rfl⟩ (Nat.le_of_ble_eq_true rfl) rfl ?_
  intro X F T
  change Fx X (YL_areShares l G) at F
  change V X (YL_areShares l G) 0 0 0 _ _ _
  refine V.eq (pc' := 0) (ws' := WX A G a o s R bb sn t n κ ++ []) rfl rfl rfl (List.append_nil _).symm ?_
  have hr : 0 ≤ p * 4 + q ∧ p * 4 + q < 16 := by omega
  have hI := hP.1
  have hw := hI.w hr
  refine V.aload_n (q := 1) F dL_areShares_0 rfl rfl rfl ?_
  refine V.iload_n (q := 2) F dL_areShares_1 rfl rfl rfl ?_
  refine V.iload_n (q := 3) F dL_areShares_2 rfl rfl rfl ?_
  refine V.iconst (q := 4) F dL_areShares_3 rfl ?_
  refine V.callX (q := 7) F 27 rfl nd27 dL_areShares_4 rfl (c_X6_rose l G A a κ.1.1 R sn t κ.1.2.1 κ.1.2.2.1 κ.1.2.2.2.1 κ.1.2.2.2.2 κ.2.1.1 κ.2.1.2.1 κ.2.1.2.2 κ.2.2.1.1 κ.2.2.1.2.1 κ.2.2.1.2.2 κ.2.2.2.1.1 κ.2.2.2.1.2.1 κ.2.2.2.1.2.2 o s bb n κ.2.2.2.2.1 κ.2.2.2.2.2.1 κ.2.2.2.2.2.2.1 κ.2.2.2.2.2.2.2.1 κ.2.2.2.2.2.2.2.2.1 κ.2.2.2.2.2.2.2.2.2.1 κ.2.2.2.2.2.2.2.2.2.2.1 κ.2.2.2.2.2.2.2.2.2.2.2 p q 1 hP.1 hP.2.2.2.1 hP.2.2.2.2 hbb hn ht (by omega) (by omega) (by omega)) gL_areShares_X6_rose rfl rfl ydX6_rose ⟨Nat.le_of_ble_eq_true rfl, Nat.le_of_ble_eq_true rfl⟩ (ci := 6) rfl rfl rfl rfl (Nat.le_of_ble_eq_true rfl) ⟨Nat.le_of_ble_eq_true rfl, Nat.le_of_ble_eq_true rfl⟩ (fun r9 w9 h9 => ?_)
  rw [rRose_1 (a := a) (p := p) (q := q) (by omega) (by omega)] at h9
  obtain ⟨κ, rfl, rfl⟩ := h9
  refine V.eq (pc' := 7) (st' := [_]) (ws' := WX A G a o s R bb sn t n κ ++ []) rfl rfl rfl rfl ?_
  refine V.istore_n (q := 8) (lo' := [_, _, _, _, _, _, _, _, _, _, _, _, _, _, _, _, _, _]) F dL_areShares_7 rfl rfl (Nat.le_of_ble_eq_true rfl) rfl rfl ?_
  refine V.aload_n (q := 9) F dL_areShares_8 rfl rfl rfl ?_
  refine V.iload_n (q := 10) F dL_areShares_9 rfl rfl rfl ?_
  refine V.iload_n (q := 11) F dL_areShares_10 rfl rfl rfl ?_
  refine V.iconst (q := 12) F dL_areShares_11 rfl ?_
  refine V.callX (q := 15) F 27 rfl nd27 dL_areShares_12 rfl (c_X6_rose l G A a κ.1.1 R sn t κ.1.2.1 κ.1.2.2.1 κ.1.2.2.2.1 κ.1.2.2.2.2 κ.2.1.1 κ.2.1.2.1 κ.2.1.2.2 κ.2.2.1.1 κ.2.2.1.2.1 κ.2.2.1.2.2 κ.2.2.2.1.1 κ.2.2.2.1.2.1 κ.2.2.2.1.2.2 o s bb n κ.2.2.2.2.1 κ.2.2.2.2.2.1 κ.2.2.2.2.2.2.1 κ.2.2.2.2.2.2.2.1 κ.2.2.2.2.2.2.2.2.1 κ.2.2.2.2.2.2.2.2.2.1 κ.2.2.2.2.2.2.2.2.2.2.1 κ.2.2.2.2.2.2.2.2.2.2.2 p q 2 hP.1 hP.2.2.2.1 hP.2.2.2.2 hbb hn ht (by omega) (by omega) (by omega)) gL_areShares_X6_rose rfl rfl ydX6_rose ⟨Nat.le_of_ble_eq_true rfl, Nat.le_of_ble_eq_true rfl⟩ (ci := 6) rfl rfl rfl rfl (Nat.le_of_ble_eq_true rfl) ⟨Nat.le_of_ble_eq_true rfl, Nat.le_of_ble_eq_true rfl⟩ (fun r9 w9 h9 => ?_)
  rw [rRose_2 (a := a) (p := p) (q := q) (by omega) (by omega)] at h9
  obtain ⟨κ, rfl, rfl⟩ := h9
  refine V.eq (pc' := 15) (st' := [_]) (ws' := WX A G a o s R bb sn t n κ ++ []) rfl rfl rfl rfl ?_
  refine V.istore (q := 17) (lo' := [_, _, _, _, _, _, _, _, _, _, _, _, _, _, _, _, _, _]) F dL_areShares_15 rfl (Nat.le_of_ble_eq_true rfl) rfl rfl ?_
  refine V.aload_n (q := 18) F dL_areShares_17 rfl rfl rfl ?_
  refine V.iload_n (q := 19) F dL_areShares_18 rfl rfl rfl ?_
  refine V.iload_n (q := 20) F dL_areShares_19 rfl rfl rfl ?_
  refine V.iconst (q := 21) F dL_areShares_20 rfl ?_
  refine V.callX (q := 24) F 27 rfl nd27 dL_areShares_21 rfl (c_X6_rose l G A a κ.1.1 R sn t κ.1.2.1 κ.1.2.2.1 κ.1.2.2.2.1 κ.1.2.2.2.2 κ.2.1.1 κ.2.1.2.1 κ.2.1.2.2 κ.2.2.1.1 κ.2.2.1.2.1 κ.2.2.1.2.2 κ.2.2.2.1.1 κ.2.2.2.1.2.1 κ.2.2.2.1.2.2 o s bb n κ.2.2.2.2.1 κ.2.2.2.2.2.1 κ.2.2.2.2.2.2.1 κ.2.2.2.2.2.2.2.1 κ.2.2.2.2.2.2.2.2.1 κ.2.2.2.2.2.2.2.2.2.1 κ.2.2.2.2.2.2.2.2.2.2.1 κ.2.2.2.2.2.2.2.2.2.2.2 p q 0 hP.1 hP.2.2.2.1 hP.2.2.2.2 hbb hn ht (by omega) (by omega) (by omega)) gL_areShares_X6_rose rfl rfl ydX6_rose ⟨Nat.le_of_ble_eq_true rfl, Nat.le_of_ble_eq_true rfl⟩ (ci := 6) rfl rfl rfl rfl (Nat.le_of_ble_eq_true rfl) ⟨Nat.le_of_ble_eq_true rfl, Nat.le_of_ble_eq_true rfl⟩ (fun r9 w9 h9 => ?_)
  rw [rRose_0 (a := a) (p := p) (q := q) (by omega) (by omega)] at h9
  obtain ⟨κ, rfl, rfl⟩ := h9
  refine V.eq (pc' := 24) (st' := [_]) (ws' := WX A G a o s R bb sn t n κ ++ []) rfl rfl rfl rfl ?_
  refine V.istore (q := 26) (lo' := [_, _, _, _, _, _, _, _, _, _, _, _, _, _, _, _, _, _]) F dL_areShares_24 rfl (Nat.le_of_ble_eq_true rfl) rfl rfl ?_
  refine V.iconst (q := 27) F dL_areShares_26 rfl ?_
  refine V.istore (q := 29) (lo' := [_, _, _, _, _, _, _, _, _, _, _, _, _, _, _, _, _, _]) F dL_areShares_27 rfl (Nat.le_of_ble_eq_true rfl) rfl rfl ?_
  refine V.iconst (q := 30) F dL_areShares_29 rfl ?_
  refine V.istore (q := 32) (lo' := [_, _, _, _, _, _, _, _, _, _, _, _, _, _, _, _, _, _]) F dL_areShares_30 rfl (Nat.le_of_ble_eq_true rfl) rfl rfl ?_
  refine V.bipush (q := 34) F dL_areShares_32 rfl (by decide) ?_
  refine V.istore (q := 36) (lo' := [_, _, _, _, _, _, _, _, _, _, _, _, _, _, _, _, _, _]) F dL_areShares_34 rfl (Nat.le_of_ble_eq_true rfl) rfl rfl ?_
  refine V.iconst (q := 37) F dL_areShares_36 rfl ?_
  refine V.istore (q := 39) (lo' := [_, _, _, _, _, _, _, _, _, _, _, _, _, _, _, _, _, _]) F dL_areShares_37 rfl (Nat.le_of_ble_eq_true rfl) rfl rfl ?_
  refine V.iconst (q := 40) F dL_areShares_39 rfl ?_
  refine V.istore (q := 42) (lo' := [_, _, _, _, _, _, _, _, _, _, _, _, _, _, _, _, _, _]) F dL_areShares_40 rfl (Nat.le_of_ble_eq_true rfl) rfl rfl ?_
  have L42 : ∀ (nq : Nat) (d S H M B : Int) (κ : Scr) (hd : 0 ≤ d ∧ d ≤ 16) (hS : S = sz (shr a (p * 4 + q)) 0 (d * 3)) (hH : H = sz (fun x => hbz a (p * 4 + q) x 1 100) 0 d) (hM : (M, B) = pvz (fun x => hbz a (p * 4 + q) x 1 100) d.toNat) (hM2 : 0 ≤ M ∧ M ≤ 9999), (16 - d).toNat < nq → V X (YL_areShares l G) 0 0 42 [some (.ref (A 0)), some (.int (zI p)), some (.int (zI q)), some (.int (zI (a (25344 + (p * 4 + q))))), some (.int (zI (a (25360 + (p * 4 + q))))), some (.int (zI (a (25344 + (p * 4 + q)) + a (25360 + (p * 4 + q))))), some (.int (zI S)), some (.int (zI H)), some (.int (zI B)), some (.int (zI M)), some (.int (zI d)), none, none, none, none, none, none, none] [] (WX A G a o s R bb sn t n κ ++ []) := by
    intro n42
    induction n42 with
    | zero => intro d S H M B κ hd hS hH hM hM2 hm42; exact absurd hm42 (Nat.not_lt_zero _)
    | succ n42 ih42 =>
      intro d S H M B κ hd hS hH hM hM2 hm42
      refine V.iload (q := 44) F dL_areShares_42 rfl rfl ?_
      refine V.bipush (q := 46) F dL_areShares_44 rfl (by decide) ?_
      refine V.icmp_ge (q := 49) (tgt := 255) F dL_areShares_46 rfl (by decide) (by omega) (fun k46 => ?_) (fun k46 => ?_)
      · have hS48 : S = if a (25344 + (p * 4 + q)) = 0 then 0 else 100 := by rw [hS, show d * 3 = 48 by omega]; exact shr_sum hI hr
        have hHw : H = a (25344 + (p * 4 + q)) := by rw [hH, show d = 16 by omega]; exact wnd_dir hI hr
        have hBp : B = prevz a (p * 4 + q) := by unfold prevz; rw [show (16 : Nat) = d.toNat by omega, ← hM]
        refine V.iconst (q := 256) F dL_areShares_255 rfl ?_
        refine V.istore (q := 258) (lo' := [_, _, _, _, _, _, _, _, _, _, _, _, _, _, _, _, _, _]) F dL_areShares_256 rfl (Nat.le_of_ble_eq_true rfl) rfl rfl ?_
        refine V.iconst (q := 259) F dL_areShares_258 rfl ?_
        refine V.istore (q := 261) (lo' := [_, _, _, _, _, _, _, _, _, _, _, _, _, _, _, _, _, _]) F dL_areShares_259 rfl (Nat.le_of_ble_eq_true rfl) rfl rfl ?_
        have L261 : ∀ (nq : Nat) (k z : Int) (κ : Scr) (hk9 : 0 ≤ k ∧ k ≤ 3) (hz : z = 0), (3 - k).toNat < nq → V X (YL_areShares l G) 0 0 261 [some (.ref (A 0)), some (.int (zI p)), some (.int (zI q)), some (.int (zI (a (25344 + (p * 4 + q))))), some (.int (zI (a (25360 + (p * 4 + q))))), some (.int (zI (a (25344 + (p * 4 + q)) + a (25360 + (p * 4 + q))))), some (.int (zI S)), some (.int (zI H)), some (.int (zI B)), some (.int (zI M)), some (.int (zI z)), some (.int (zI k)), none, none, none, none, none, none] [] (WX A G a o s R bb sn t n κ ++ []) := by
          intro n261
          induction n261 with
          | zero => intro k z κ hk9 hz hm261; exact absurd hm261 (Nat.not_lt_zero _)
          | succ n261 ih261 =>
            intro k z κ hk9 hz hm261
            refine V.iload (q := 263) F dL_areShares_261 rfl rfl ?_
            refine V.iconst (q := 264) F dL_areShares_263 rfl ?_
            refine V.icmp_ge (q := 267) (tgt := 332) F dL_areShares_264 rfl (by decide) (by omega) (fun k264 => ?_) (fun k264 => ?_)
            · have hml := mean_law hI hr
              refine V.aload_n (q := 333) F dL_areShares_332 rfl rfl rfl ?_
              refine V.iload_n (q := 334) F dL_areShares_333 rfl rfl rfl ?_
              refine V.iload_n (q := 335) F dL_areShares_334 rfl rfl rfl ?_
              refine V.iconst (q := 336) F dL_areShares_335 rfl ?_
              refine V.callX (q := 339) F 27 rfl nd27 dL_areShares_336 rfl (c_X6_rose l G A a κ.1.1 R sn t κ.1.2.1 κ.1.2.2.1 κ.1.2.2.2.1 κ.1.2.2.2.2 κ.2.1.1 κ.2.1.2.1 κ.2.1.2.2 κ.2.2.1.1 κ.2.2.1.2.1 κ.2.2.1.2.2 κ.2.2.2.1.1 κ.2.2.2.1.2.1 κ.2.2.2.1.2.2 o s bb n κ.2.2.2.2.1 κ.2.2.2.2.2.1 κ.2.2.2.2.2.2.1 κ.2.2.2.2.2.2.2.1 κ.2.2.2.2.2.2.2.2.1 κ.2.2.2.2.2.2.2.2.2.1 κ.2.2.2.2.2.2.2.2.2.2.1 κ.2.2.2.2.2.2.2.2.2.2.2 p q 5 hP.1 hP.2.2.2.1 hP.2.2.2.2 hbb hn ht (by omega) (by omega) (by omega)) gL_areShares_X6_rose rfl rfl ydX6_rose ⟨Nat.le_of_ble_eq_true rfl, Nat.le_of_ble_eq_true rfl⟩ (ci := 6) rfl rfl rfl rfl (Nat.le_of_ble_eq_true rfl) ⟨Nat.le_of_ble_eq_true rfl, Nat.le_of_ble_eq_true rfl⟩ (fun r9 w9 h9 => ?_)
              rw [rRose_5 (a := a) (p := p) (q := q) (by omega) (by omega)] at h9
              obtain ⟨κ, rfl, rfl⟩ := h9
              refine V.eq (pc' := 339) (st' := [_]) (ws' := WX A G a o s R bb sn t n κ ++ []) rfl rfl rfl rfl ?_
              refine V.istore (q := 341) (lo' := [_, _, _, _, _, _, _, _, _, _, _, _, _, _, _, _, _, _]) F dL_areShares_339 rfl (Nat.le_of_ble_eq_true rfl) rfl rfl ?_
              refine V.aload_n (q := 342) F dL_areShares_341 rfl rfl rfl ?_
              refine V.iload_n (q := 343) F dL_areShares_342 rfl rfl rfl ?_
              refine V.iload_n (q := 344) F dL_areShares_343 rfl rfl rfl ?_
              refine V.iconst (q := 345) F dL_areShares_344 rfl ?_
              refine V.callX (q := 348) F 27 rfl nd27 dL_areShares_345 rfl (c_X6_rose l G A a κ.1.1 R sn t κ.1.2.1 κ.1.2.2.1 κ.1.2.2.2.1 κ.1.2.2.2.2 κ.2.1.1 κ.2.1.2.1 κ.2.1.2.2 κ.2.2.1.1 κ.2.2.1.2.1 κ.2.2.1.2.2 κ.2.2.2.1.1 κ.2.2.2.1.2.1 κ.2.2.2.1.2.2 o s bb n κ.2.2.2.2.1 κ.2.2.2.2.2.1 κ.2.2.2.2.2.2.1 κ.2.2.2.2.2.2.2.1 κ.2.2.2.2.2.2.2.2.1 κ.2.2.2.2.2.2.2.2.2.1 κ.2.2.2.2.2.2.2.2.2.2.1 κ.2.2.2.2.2.2.2.2.2.2.2 p q 4 hP.1 hP.2.2.2.1 hP.2.2.2.2 hbb hn ht (by omega) (by omega) (by omega)) gL_areShares_X6_rose rfl rfl ydX6_rose ⟨Nat.le_of_ble_eq_true rfl, Nat.le_of_ble_eq_true rfl⟩ (ci := 6) rfl rfl rfl rfl (Nat.le_of_ble_eq_true rfl) ⟨Nat.le_of_ble_eq_true rfl, Nat.le_of_ble_eq_true rfl⟩ (fun r9 w9 h9 => ?_)
              rw [rRose_4 (a := a) (p := p) (q := q) (by omega) (by omega)] at h9
              obtain ⟨κ, rfl, rfl⟩ := h9
              refine V.eq (pc' := 348) (st' := [_]) (ws' := WX A G a o s R bb sn t n κ ++ []) rfl rfl rfl rfl ?_
              refine V.istore (q := 350) (lo' := [_, _, _, _, _, _, _, _, _, _, _, _, _, _, _, _, _, _]) F dL_areShares_348 rfl (Nat.le_of_ble_eq_true rfl) rfl rfl ?_
              have J400 : ∀ (x400 : Int) (κ : Scr) (hx400 : x400 = 1), V X (YL_areShares l G) 0 0 400 [some (.ref (A 0)), some (.int (zI p)), some (.int (zI q)), some (.int (zI (a (25344 + (p * 4 + q))))), some (.int (zI (a (25360 + (p * 4 + q))))), some (.int (zI (a (25344 + (p * 4 + q)) + a (25360 + (p * 4 + q))))), some (.int (zI S)), some (.int (zI H)), some (.int (zI B)), some (.int (zI M)), some (.int (zI z)), some (.int (zI (meanz a (p * 4 + q)))), some (.int (zI (gsz a (p * 4 + q) 99))), none, none, none, none, none] [.int (zI x400)] (WX A G a o s R bb sn t n κ ++ []) := by
                intro x400 κ hx400
                refine V.istore (q := 402) (lo' := [_, _, _, _, _, _, _, _, _, _, _, _, _, _, _, _, _, _]) F dL_areShares_400 rfl (Nat.le_of_ble_eq_true rfl) rfl rfl ?_
                refine V.iload (q := 404) F dL_areShares_402 rfl rfl ?_
                refine V.if_ne (q := 407) (tgt := 494) F dL_areShares_404 rfl (by decide) (by omega) (fun k404 => by exfalso; omega) (fun k404 => ?_)
                refine V.iload (q := 409) F dL_areShares_407 rfl rfl ?_
                refine V.if_eq (q := 412) (tgt := 494) F dL_areShares_409 rfl (by decide) (by omega) (fun k409 => by exfalso; omega) (fun k409 => ?_)
                refine V.iload (q := 414) F dL_areShares_412 rfl rfl ?_
                refine V.iload_n (q := 415) F dL_areShares_414 rfl rfl rfl ?_
                refine V.iload (q := 417) F dL_areShares_415 rfl rfl ?_
                refine V.iadd (q := 418) F dL_areShares_417 rfl ?_
                refine V.icmp_ne (q := 421) (tgt := 494) F dL_areShares_418 rfl (by decide) (by omega) (fun k418 => by exfalso; omega) (fun k418 => ?_)
                refine V.iload (q := 423) F dL_areShares_421 rfl rfl ?_
                refine V.iload_n (q := 424) F dL_areShares_423 rfl rfl rfl ?_
                refine V.icmp_ne (q := 427) (tgt := 494) F dL_areShares_424 rfl (by decide) (by omega) (fun k424 => by exfalso; omega) (fun k424 => ?_)
                refine V.iload (q := 429) F dL_areShares_427 rfl rfl ?_
                refine V.sipush (q := 432) F dL_areShares_429 rfl (by decide) ?_
                refine V.icmp_gt (q := 435) (tgt := 494) F dL_areShares_432 rfl (by decide) (by omega) (fun k432 => by exfalso; omega) (fun k432 => ?_)
                refine V.iload (q := 437) F dL_areShares_435 rfl rfl ?_
                have J447 : ∀ (x447 : Int) (κ : Scr) (hx447 : x447 = if a (25344 + (p * 4 + q)) = 0 then 0 else 100), V X (YL_areShares l G) 0 0 447 [some (.ref (A 0)), some (.int (zI p)), some (.int (zI q)), some (.int (zI (a (25344 + (p * 4 + q))))), some (.int (zI (a (25360 + (p * 4 + q))))), some (.int (zI (a (25344 + (p * 4 + q)) + a (25360 + (p * 4 + q))))), some (.int (zI S)), some (.int (zI H)), some (.int (zI B)), some (.int (zI M)), some (.int (zI z)), some (.int (zI (meanz a (p * 4 + q)))), some (.int (zI (gsz a (p * 4 + q) 99))), some (.int (zI x400)), none, none, none, none] [.int (zI x447), .int (zI S)] (WX A G a o s R bb sn t n κ ++ []) := by
                  intro x447 κ hx447
                  refine V.icmp_ne (q := 450) (tgt := 494) F dL_areShares_447 rfl (by decide) (by omega) (fun k447 => by exfalso; omega) (fun k447 => ?_)
                  refine V.aload_n (q := 451) F dL_areShares_450 rfl rfl rfl ?_
                  refine V.iload_n (q := 452) F dL_areShares_451 rfl rfl rfl ?_
                  refine V.iload_n (q := 453) F dL_areShares_452 rfl rfl rfl ?_
                  refine V.iconst (q := 454) F dL_areShares_453 rfl ?_
                  have hcs : cshz a (p * 4 + q) = if 0 < a (25344 + (p * 4 + q)) + a (25360 + (p * 4 + q)) then 100 * a (25360 + (p * 4 + q)) / (a (25344 + (p * 4 + q)) + a (25360 + (p * 4 + q))) else 0 := rfl
                  have hcr := cshz_rng hI hr
                  refine V.callX (q := 457) F 27 rfl nd27 dL_areShares_454 rfl (c_X6_rose l G A a κ.1.1 R sn t κ.1.2.1 κ.1.2.2.1 κ.1.2.2.2.1 κ.1.2.2.2.2 κ.2.1.1 κ.2.1.2.1 κ.2.1.2.2 κ.2.2.1.1 κ.2.2.1.2.1 κ.2.2.1.2.2 κ.2.2.2.1.1 κ.2.2.2.1.2.1 κ.2.2.2.1.2.2 o s bb n κ.2.2.2.2.1 κ.2.2.2.2.2.1 κ.2.2.2.2.2.2.1 κ.2.2.2.2.2.2.2.1 κ.2.2.2.2.2.2.2.2.1 κ.2.2.2.2.2.2.2.2.2.1 κ.2.2.2.2.2.2.2.2.2.2.1 κ.2.2.2.2.2.2.2.2.2.2.2 p q 3 hP.1 hP.2.2.2.1 hP.2.2.2.2 hbb hn ht (by omega) (by omega) (by omega)) gL_areShares_X6_rose rfl rfl ydX6_rose ⟨Nat.le_of_ble_eq_true rfl, Nat.le_of_ble_eq_true rfl⟩ (ci := 6) rfl rfl rfl rfl (Nat.le_of_ble_eq_true rfl) ⟨Nat.le_of_ble_eq_true rfl, Nat.le_of_ble_eq_true rfl⟩ (fun r9 w9 h9 => ?_)
                  rw [rRose_3 (a := a) (p := p) (q := q) (by omega) (by omega)] at h9
                  obtain ⟨κ, rfl, rfl⟩ := h9
                  refine V.eq (pc' := 457) (st' := [_]) (ws' := WX A G a o s R bb sn t n κ ++ []) rfl rfl rfl rfl ?_
                  have J474 : ∀ (x474 : Int) (κ : Scr) (hx474 : x474 = if a (25344 + (p * 4 + q)) + a (25360 + (p * 4 + q)) = 0 then 0 else 100 * a (25360 + (p * 4 + q)) / (a (25344 + (p * 4 + q)) + a (25360 + (p * 4 + q)))), V X (YL_areShares l G) 0 0 474 [some (.ref (A 0)), some (.int (zI p)), some (.int (zI q)), some (.int (zI (a (25344 + (p * 4 + q))))), some (.int (zI (a (25360 + (p * 4 + q))))), some (.int (zI (a (25344 + (p * 4 + q)) + a (25360 + (p * 4 + q))))), some (.int (zI S)), some (.int (zI H)), some (.int (zI B)), some (.int (zI M)), some (.int (zI z)), some (.int (zI (meanz a (p * 4 + q)))), some (.int (zI (gsz a (p * 4 + q) 99))), some (.int (zI x400)), none, none, none, none] [.int (zI x474), .int (zI (cshz a (p * 4 + q)))] (WX A G a o s R bb sn t n κ ++ []) := by
                    intro x474 κ hx474
                    refine V.icmp_ne (q := 477) (tgt := 494) F dL_areShares_474 rfl (by decide) (by omega) (fun k474 => by exfalso; omega) (fun k474 => ?_)
                    have hpr := prevz_rng hI hr
                    refine V.aload_n (q := 478) F dL_areShares_477 rfl rfl rfl ?_
                    refine V.iload_n (q := 479) F dL_areShares_478 rfl rfl rfl ?_
                    refine V.iload_n (q := 480) F dL_areShares_479 rfl rfl rfl ?_
                    refine V.bipush (q := 482) F dL_areShares_480 rfl (by decide) ?_
                    refine V.callX (q := 485) F 27 rfl nd27 dL_areShares_482 rfl (c_X6_rose l G A a κ.1.1 R sn t κ.1.2.1 κ.1.2.2.1 κ.1.2.2.2.1 κ.1.2.2.2.2 κ.2.1.1 κ.2.1.2.1 κ.2.1.2.2 κ.2.2.1.1 κ.2.2.1.2.1 κ.2.2.1.2.2 κ.2.2.2.1.1 κ.2.2.2.1.2.1 κ.2.2.2.1.2.2 o s bb n κ.2.2.2.2.1 κ.2.2.2.2.2.1 κ.2.2.2.2.2.2.1 κ.2.2.2.2.2.2.2.1 κ.2.2.2.2.2.2.2.2.1 κ.2.2.2.2.2.2.2.2.2.1 κ.2.2.2.2.2.2.2.2.2.2.1 κ.2.2.2.2.2.2.2.2.2.2.2 p q 9 hP.1 hP.2.2.2.1 hP.2.2.2.2 hbb hn ht (by omega) (by omega) (by omega)) gL_areShares_X6_rose rfl rfl ydX6_rose ⟨Nat.le_of_ble_eq_true rfl, Nat.le_of_ble_eq_true rfl⟩ (ci := 6) rfl rfl rfl rfl (Nat.le_of_ble_eq_true rfl) ⟨Nat.le_of_ble_eq_true rfl, Nat.le_of_ble_eq_true rfl⟩ (fun r9 w9 h9 => ?_)
                    rw [rRose_9 (a := a) (p := p) (q := q) (by omega) (by omega)] at h9
                    obtain ⟨κ, rfl, rfl⟩ := h9
                    refine V.eq (pc' := 485) (st' := [_]) (ws' := WX A G a o s R bb sn t n κ ++ []) rfl rfl rfl rfl ?_
                    refine V.iload (q := 487) F dL_areShares_485 rfl rfl ?_
                    refine V.icmp_ne (q := 490) (tgt := 494) F dL_areShares_487 rfl (by decide) (by omega) (fun k487 => by exfalso; omega) (fun k487 => ?_)
                    refine V.iconst (q := 491) F dL_areShares_490 rfl ?_
                    refine V.goto (tgt := 495) F dL_areShares_491 (by decide) ?_
                    exact V.zret F T (Or.inr rfl) dL_areShares_495 ⟨κ, rfl, List.append_nil _⟩ [(A 0), (A 1), (A 2), (A 3), (A 4), (A 5), (A 6), (A 7), (A 8), (A 9), (A 10), (A 11), (A 12), (A 13), (A 14), (A 15), (A 16), (A 17), (A 18), (A 19), (A 20), (A 21), (A 22), (A 23), (A 24), (A 25), (A 26)] rfl rfl
                  refine V.iload (q := 459) F dL_areShares_457 rfl rfl ?_
                  refine V.if_ne (q := 462) (tgt := 466) F dL_areShares_459 rfl (by decide) (by omega) (fun k459 => ?_) (fun k459 => ?_)
                  · refine V.bipush (q := 468) F dL_areShares_466 rfl (by decide) ?_
                    refine V.iload (q := 470) F dL_areShares_468 rfl rfl ?_
                    refine V.imul (q := 471) F dL_areShares_470 rfl ?_
                    refine V.iload (q := 473) F dL_areShares_471 rfl rfl ?_
                    refine V.idiv (q := 474) F dL_areShares_473 rfl ⟨by omega, by omega⟩ ?_
                    exact J474 _ _ (by omega)
                  · refine V.iconst (q := 463) F dL_areShares_462 rfl ?_
                    refine V.goto (tgt := 474) F dL_areShares_463 (by decide) ?_
                    exact J474 _ _ (by omega)
                refine V.iload_n (q := 438) F dL_areShares_437 rfl rfl rfl ?_
                refine V.if_ne (q := 441) (tgt := 445) F dL_areShares_438 rfl (by decide) (by omega) (fun k438 => ?_) (fun k438 => ?_)
                · refine V.bipush (q := 447) F dL_areShares_445 rfl (by decide) ?_
                  exact J447 _ _ (by omega)
                · refine V.iconst (q := 442) F dL_areShares_441 rfl ?_
                  refine V.goto (tgt := 447) F dL_areShares_442 (by decide) ?_
                  exact J447 _ _ (by omega)
              refine V.iload_n (q := 351) F dL_areShares_350 rfl rfl rfl ?_
              refine V.if_ne (q := 354) (tgt := 376) F dL_areShares_351 rfl (by decide) (by omega) (fun k351 => ?_) (fun k351 => ?_)
              · refine V.iload (q := 378) F dL_areShares_376 rfl rfl ?_
                refine V.if_le (q := 381) (tgt := 399) F dL_areShares_378 rfl (by decide) (by omega) (fun k378 => by exfalso; omega) (fun k378 => ?_)
                refine V.iload (q := 383) F dL_areShares_381 rfl rfl ?_
                refine V.iload (q := 385) F dL_areShares_383 rfl rfl ?_
                refine V.icmp_gt (q := 388) (tgt := 399) F dL_areShares_385 rfl (by decide) (by omega) (fun k385 => by exfalso; omega) (fun k385 => ?_)
                refine V.iload (q := 390) F dL_areShares_388 rfl rfl ?_
                refine V.bipush (q := 392) F dL_areShares_390 rfl (by decide) ?_
                refine V.icmp_ge (q := 395) (tgt := 399) F dL_areShares_392 rfl (by decide) (by omega) (fun k392 => by exfalso; omega) (fun k392 => ?_)
                refine V.iconst (q := 396) F dL_areShares_395 rfl ?_
                refine V.goto (tgt := 400) F dL_areShares_396 (by decide) ?_
                exact J400 _ _ (by omega)
              · refine V.iload (q := 356) F dL_areShares_354 rfl rfl ?_
                refine V.bipush (q := 358) F dL_areShares_356 rfl (by decide) ?_
                refine V.icmp_ne (q := 361) (tgt := 372) F dL_areShares_358 rfl (by decide) (by omega) (fun k358 => by exfalso; omega) (fun k358 => ?_)
                refine V.iload (q := 363) F dL_areShares_361 rfl rfl ?_
                refine V.bipush (q := 365) F dL_areShares_363 rfl (by decide) ?_
                refine V.icmp_ne (q := 368) (tgt := 372) F dL_areShares_365 rfl (by decide) (by omega) (fun k365 => by exfalso; omega) (fun k365 => ?_)
                refine V.iconst (q := 369) F dL_areShares_368 rfl ?_
                refine V.goto (tgt := 400) F dL_areShares_369 (by decide) ?_
                exact J400 _ _ (by omega)
            · have hc := clz_rng hI hr (k := k) (by omega)
              refine V.aload_n (q := 268) F dL_areShares_267 rfl rfl rfl ?_
              refine V.iload_n (q := 269) F dL_areShares_268 rfl rfl rfl ?_
              refine V.iload_n (q := 270) F dL_areShares_269 rfl rfl rfl ?_
              refine V.bipush (q := 272) F dL_areShares_270 rfl (by decide) ?_
              refine V.iload (q := 274) F dL_areShares_272 rfl rfl ?_
              refine V.iadd (q := 275) F dL_areShares_274 rfl ?_
              refine V.callX (q := 278) F 27 rfl nd27 dL_areShares_275 rfl (c_X6_rose l G A a κ.1.1 R sn t κ.1.2.1 κ.1.2.2.1 κ.1.2.2.2.1 κ.1.2.2.2.2 κ.2.1.1 κ.2.1.2.1 κ.2.1.2.2 κ.2.2.1.1 κ.2.2.1.2.1 κ.2.2.1.2.2 κ.2.2.2.1.1 κ.2.2.2.1.2.1 κ.2.2.2.1.2.2 o s bb n κ.2.2.2.2.1 κ.2.2.2.2.2.1 κ.2.2.2.2.2.2.1 κ.2.2.2.2.2.2.2.1 κ.2.2.2.2.2.2.2.2.1 κ.2.2.2.2.2.2.2.2.2.1 κ.2.2.2.2.2.2.2.2.2.2.1 κ.2.2.2.2.2.2.2.2.2.2.2 p q (6 + k) hP.1 hP.2.2.2.1 hP.2.2.2.2 hbb hn ht (by omega) (by omega) (by omega)) gL_areShares_X6_rose rfl rfl ydX6_rose ⟨Nat.le_of_ble_eq_true rfl, Nat.le_of_ble_eq_true rfl⟩ (ci := 6) rfl rfl rfl rfl (Nat.le_of_ble_eq_true rfl) ⟨Nat.le_of_ble_eq_true rfl, Nat.le_of_ble_eq_true rfl⟩ (fun r9 w9 h9 => ?_)
              rw [rRose_c (a := a) (p := p) (q := q) (by omega) (by omega) (k := k) (by omega)] at h9
              obtain ⟨κ, rfl, rfl⟩ := h9
              refine V.eq (pc' := 278) (st' := [_]) (ws' := WX A G a o s R bb sn t n κ ++ []) rfl rfl rfl rfl ?_
              refine V.istore (q := 280) (lo' := [_, _, _, _, _, _, _, _, _, _, _, _, _, _, _, _, _, _]) F dL_areShares_278 rfl (Nat.le_of_ble_eq_true rfl) rfl rfl ?_
              refine V.iconst (q := 281) F dL_areShares_280 rfl ?_
              refine V.istore (q := 283) (lo' := [_, _, _, _, _, _, _, _, _, _, _, _, _, _, _, _, _, _]) F dL_areShares_281 rfl (Nat.le_of_ble_eq_true rfl) rfl rfl ?_
              have L283 : ∀ (nq : Nat) (e T9 : Int) (κ : Scr) (he : 0 ≤ e ∧ e ≤ 16) (hT : T9 = clz a (p * 4 + q) k - sz (fun x => phz a (p * 4 + q) x k) 0 e), (16 - e).toNat < nq → V X (YL_areShares l G) 0 0 283 [some (.ref (A 0)), some (.int (zI p)), some (.int (zI q)), some (.int (zI (a (25344 + (p * 4 + q))))), some (.int (zI (a (25360 + (p * 4 + q))))), some (.int (zI (a (25344 + (p * 4 + q)) + a (25360 + (p * 4 + q))))), some (.int (zI S)), some (.int (zI H)), some (.int (zI B)), some (.int (zI M)), some (.int (zI z)), some (.int (zI k)), some (.int (zI T9)), some (.int (zI e)), none, none, none, none] [] (WX A G a o s R bb sn t n κ ++ []) := by
                intro n283
                induction n283 with
                | zero => intro e T9 κ he hT hm283; exact absurd hm283 (Nat.not_lt_zero _)
                | succ n283 ih283 =>
                  intro e T9 κ he hT hm283
                  refine V.iload (q := 285) F dL_areShares_283 rfl rfl ?_
                  refine V.bipush (q := 287) F dL_areShares_285 rfl (by decide) ?_
                  refine V.icmp_ge (q := 290) (tgt := 311) F dL_areShares_287 rfl (by decide) (by omega) (fun k287 => ?_) (fun k287 => ?_)
                  · have hT0 : T9 = 0 := by rw [hT, show e = 16 by omega]; exact Int.sub_self (clz a (p * 4 + q) k)
                    refine V.iload (q := 313) F dL_areShares_311 rfl rfl ?_
                    refine V.iload (q := 315) F dL_areShares_313 rfl rfl ?_
                    refine V.if_ne (q := 318) (tgt := 322) F dL_areShares_315 rfl (by decide) (by omega) (fun k315 => by exfalso; omega) (fun k315 => ?_)
                    refine V.iconst (q := 319) F dL_areShares_318 rfl ?_
                    refine V.goto (tgt := 323) F dL_areShares_319 (by decide) ?_
                    refine V.iadd (q := 324) F dL_areShares_323 rfl ?_
                    refine V.istore (q := 326) (lo' := [_, _, _, _, _, _, _, _, _, _, _, _, _, _, _, _, _, _]) F dL_areShares_324 rfl (Nat.le_of_ble_eq_true rfl) rfl rfl ?_
                    refine V.iinc (q := 329) (lo' := [_, _, _, _, _, _, _, _, _, _, _, _, _, _, _, _, _, _]) F dL_areShares_326 rfl rfl (Nat.le_of_ble_eq_true rfl) rfl rfl ?_
                    refine V.goto (tgt := 261) F dL_areShares_329 (by decide) ?_
                    refine V.mask [true, true, true, true, true, true, true, true, true, true, true, true, false, false, true, true, true, true] (lo' := [_, _, _, _, _, _, _, _, _, _, _, _, _, _, _, _, _, _]) rfl ?_
                    exact ih261 (k + 1) _ _ (by omega) (by omega) (by omega)
                  · have hpe := phz_rng hI hr (d := e) (k := k) (by omega) (by omega)
                    refine V.iload (q := 292) F dL_areShares_290 rfl rfl ?_
                    refine V.aload_n (q := 293) F dL_areShares_292 rfl rfl rfl ?_
                    refine V.iload_n (q := 294) F dL_areShares_293 rfl rfl rfl ?_
                    refine V.iload_n (q := 295) F dL_areShares_294 rfl rfl rfl ?_
                    refine V.iload (q := 297) F dL_areShares_295 rfl rfl ?_
                    refine V.iload (q := 299) F dL_areShares_297 rfl rfl ?_
                    refine V.callX (q := 302) F 27 rfl nd27 dL_areShares_299 rfl (c_X6_hours l G A a κ.1.1 R sn t κ.1.2.1 κ.1.2.2.1 κ.1.2.2.2.1 κ.1.2.2.2.2 κ.2.1.1 κ.2.1.2.1 κ.2.1.2.2 κ.2.2.1.1 κ.2.2.1.2.1 κ.2.2.1.2.2 κ.2.2.2.1.1 κ.2.2.2.1.2.1 κ.2.2.2.1.2.2 o s bb n κ.2.2.2.2.1 κ.2.2.2.2.2.1 κ.2.2.2.2.2.2.1 κ.2.2.2.2.2.2.2.1 κ.2.2.2.2.2.2.2.2.1 κ.2.2.2.2.2.2.2.2.2.1 κ.2.2.2.2.2.2.2.2.2.2.1 κ.2.2.2.2.2.2.2.2.2.2.2 p q e k hP.1 hP.2.2.2.1 hP.2.2.2.2 hbb hn ht (by omega) (by omega) (by omega) (by omega)) gL_areShares_X6_hours rfl rfl ydX6_hours ⟨Nat.le_of_ble_eq_true rfl, Nat.le_of_ble_eq_true rfl⟩ (ci := 6) rfl rfl rfl rfl (Nat.le_of_ble_eq_true rfl) ⟨Nat.le_of_ble_eq_true rfl, Nat.le_of_ble_eq_true rfl⟩ (fun r9 w9 h9 => ?_)
                    rw [rHours_k (a := a) (p := p) (q := q) (by omega) (by omega) (d := e) (k := k) (by omega) (by omega)] at h9
                    obtain ⟨κ, rfl, rfl⟩ := h9
                    refine V.eq (pc' := 302) (st' := [_, _]) (ws' := WX A G a o s R bb sn t n κ ++ []) rfl rfl rfl rfl ?_
                    refine V.isub (q := 303) F dL_areShares_302 rfl ?_
                    refine V.istore (q := 305) (lo' := [_, _, _, _, _, _, _, _, _, _, _, _, _, _, _, _, _, _]) F dL_areShares_303 rfl (Nat.le_of_ble_eq_true rfl) rfl rfl ?_
                    refine V.iinc (q := 308) (lo' := [_, _, _, _, _, _, _, _, _, _, _, _, _, _, _, _, _, _]) F dL_areShares_305 rfl rfl (Nat.le_of_ble_eq_true rfl) rfl rfl ?_
                    refine V.goto (tgt := 283) F dL_areShares_308 (by decide) ?_
                    exact ih283 (e + 1) _ _ (by omega) (by rw [sz_succ _ he.1, hT]; omega) (by omega)
              exact L283 _ 0 (clz a (p * 4 + q) k) _ (by omega) (by rw [sz_self]; omega) (Nat.lt_succ_self _)
        exact L261 _ 0 0 _ (by omega) rfl (Nat.lt_succ_self _)
      · have hde := dirH_rng hI hr (d := d) (by omega)
        refine V.aload_n (q := 50) F dL_areShares_49 rfl rfl rfl ?_
        refine V.iload_n (q := 51) F dL_areShares_50 rfl rfl rfl ?_
        refine V.iload_n (q := 52) F dL_areShares_51 rfl rfl rfl ?_
        refine V.iload (q := 54) F dL_areShares_52 rfl rfl ?_
        refine V.iconst (q := 55) F dL_areShares_54 rfl ?_
        refine V.callX (q := 58) F 27 rfl nd27 dL_areShares_55 rfl (c_X6_hours l G A a κ.1.1 R sn t κ.1.2.1 κ.1.2.2.1 κ.1.2.2.2.1 κ.1.2.2.2.2 κ.2.1.1 κ.2.1.2.1 κ.2.1.2.2 κ.2.2.1.1 κ.2.2.1.2.1 κ.2.2.1.2.2 κ.2.2.2.1.1 κ.2.2.2.1.2.1 κ.2.2.2.1.2.2 o s bb n κ.2.2.2.2.1 κ.2.2.2.2.2.1 κ.2.2.2.2.2.2.1 κ.2.2.2.2.2.2.2.1 κ.2.2.2.2.2.2.2.2.1 κ.2.2.2.2.2.2.2.2.2.1 κ.2.2.2.2.2.2.2.2.2.2.1 κ.2.2.2.2.2.2.2.2.2.2.2 p q d 3 hP.1 hP.2.2.2.1 hP.2.2.2.2 hbb hn ht (by omega) (by omega) (by omega) (by omega)) gL_areShares_X6_hours rfl rfl ydX6_hours ⟨Nat.le_of_ble_eq_true rfl, Nat.le_of_ble_eq_true rfl⟩ (ci := 6) rfl rfl rfl rfl (Nat.le_of_ble_eq_true rfl) ⟨Nat.le_of_ble_eq_true rfl, Nat.le_of_ble_eq_true rfl⟩ (fun r9 w9 h9 => ?_)
        rw [rHours_3 (a := a) (p := p) (q := q) (by omega) (by omega) (d := d) (by omega)] at h9
        obtain ⟨κ, rfl, rfl⟩ := h9
        refine V.eq (pc' := 58) (st' := [_]) (ws' := WX A G a o s R bb sn t n κ ++ []) rfl rfl rfl rfl ?_
        refine V.istore (q := 60) (lo' := [_, _, _, _, _, _, _, _, _, _, _, _, _, _, _, _, _, _]) F dL_areShares_58 rfl (Nat.le_of_ble_eq_true rfl) rfl rfl ?_
        refine V.iconst (q := 61) F dL_areShares_60 rfl ?_
        refine V.istore (q := 63) (lo' := [_, _, _, _, _, _, _, _, _, _, _, _, _, _, _, _, _, _]) F dL_areShares_61 rfl (Nat.le_of_ble_eq_true rfl) rfl rfl ?_
        refine V.iconst (q := 64) F dL_areShares_63 rfl ?_
        refine V.istore (q := 66) (lo' := [_, _, _, _, _, _, _, _, _, _, _, _, _, _, _, _, _, _]) F dL_areShares_64 rfl (Nat.le_of_ble_eq_true rfl) rfl rfl ?_
        have L66 : ∀ (nq : Nat) (k PT S2 : Int) (κ : Scr) (hk : 0 ≤ k ∧ k ≤ 3) (hPT : PT = sz (fun x => phz a (p * 4 + q) d x) 0 k) (hS2 : S2 = sz (shr a (p * 4 + q)) 0 (d * 3 + k)), (3 - k).toNat < nq → V X (YL_areShares l G) 0 0 66 [some (.ref (A 0)), some (.int (zI p)), some (.int (zI q)), some (.int (zI (a (25344 + (p * 4 + q))))), some (.int (zI (a (25360 + (p * 4 + q))))), some (.int (zI (a (25344 + (p * 4 + q)) + a (25360 + (p * 4 + q))))), some (.int (zI S2)), some (.int (zI H)), some (.int (zI B)), some (.int (zI M)), some (.int (zI d)), some (.int (zI (hbz a (p * 4 + q) d 1 100))), some (.int (zI PT)), some (.int (zI k)), none, none, none, none] [] (WX A G a o s R bb sn t n κ ++ []) := by
          intro n66
          induction n66 with
          | zero => intro k PT S2 κ hk hPT hS2 hm66; exact absurd hm66 (Nat.not_lt_zero _)
          | succ n66 ih66 =>
            intro k PT S2 κ hk hPT hS2 hm66
            refine V.iload (q := 68) F dL_areShares_66 rfl rfl ?_
            refine V.iconst (q := 69) F dL_areShares_68 rfl ?_
            refine V.icmp_ge (q := 72) (tgt := 201) F dL_areShares_69 rfl (by decide) (by omega) (fun k69 => ?_) (fun k69 => ?_)
            · have hPT3 : PT = hbz a (p * 4 + q) d 1 100 := by rw [hPT, show k = 3 by omega, cls_sum hI]
              have hS3 : S2 = sz (shr a (p * 4 + q)) 0 ((d + 1) * 3) := by rw [hS2, show d * 3 + k = (d + 1) * 3 by omega]
              refine V.iload (q := 203) F dL_areShares_201 rfl rfl ?_
              refine V.iload (q := 205) F dL_areShares_203 rfl rfl ?_
              refine V.icmp_eq (q := 208) (tgt := 210) F dL_areShares_205 rfl (by decide) (by omega) (fun k205 => ?_) (fun k205 => by exfalso; omega)
              refine V.iload (q := 212) F dL_areShares_210 rfl rfl ?_
              refine V.iload (q := 214) F dL_areShares_212 rfl rfl ?_
              refine V.iadd (q := 215) F dL_areShares_214 rfl ?_
              refine V.istore (q := 217) (lo' := [_, _, _, _, _, _, _, _, _, _, _, _, _, _, _, _, _, _]) F dL_areShares_215 rfl (Nat.le_of_ble_eq_true rfl) rfl rfl ?_
              have J231 : ∀ (x231 : Int) (κ : Scr) (hx231 : x231 = if M < hbz a (p * 4 + q) d 1 100 then d else B), V X (YL_areShares l G) 0 0 231 [some (.ref (A 0)), some (.int (zI p)), some (.int (zI q)), some (.int (zI (a (25344 + (p * 4 + q))))), some (.int (zI (a (25360 + (p * 4 + q))))), some (.int (zI (a (25344 + (p * 4 + q)) + a (25360 + (p * 4 + q))))), some (.int (zI S2)), some (.int (zI (H + (hbz a (p * 4 + q) d 1 100)))), some (.int (zI B)), some (.int (zI M)), some (.int (zI d)), some (.int (zI (hbz a (p * 4 + q) d 1 100))), some (.int (zI PT)), some (.int (zI k)), none, none, none, none] [.int (zI x231)] (WX A G a o s R bb sn t n κ ++ []) := by
                intro x231 κ hx231
                refine V.istore (q := 233) (lo' := [_, _, _, _, _, _, _, _, _, _, _, _, _, _, _, _, _, _]) F dL_areShares_231 rfl (Nat.le_of_ble_eq_true rfl) rfl rfl ?_
                have J247 : ∀ (x247 : Int) (κ : Scr) (hx247 : x247 = if M < hbz a (p * 4 + q) d 1 100 then hbz a (p * 4 + q) d 1 100 else M), V X (YL_areShares l G) 0 0 247 [some (.ref (A 0)), some (.int (zI p)), some (.int (zI q)), some (.int (zI (a (25344 + (p * 4 + q))))), some (.int (zI (a (25360 + (p * 4 + q))))), some (.int (zI (a (25344 + (p * 4 + q)) + a (25360 + (p * 4 + q))))), some (.int (zI S2)), some (.int (zI (H + (hbz a (p * 4 + q) d 1 100)))), some (.int (zI x231)), some (.int (zI M)), some (.int (zI d)), some (.int (zI (hbz a (p * 4 + q) d 1 100))), some (.int (zI PT)), some (.int (zI k)), none, none, none, none] [.int (zI x247)] (WX A G a o s R bb sn t n κ ++ []) := by
                  intro x247 κ hx247
                  refine V.istore (q := 249) (lo' := [_, _, _, _, _, _, _, _, _, _, _, _, _, _, _, _, _, _]) F dL_areShares_247 rfl (Nat.le_of_ble_eq_true rfl) rfl rfl ?_
                  refine V.iinc (q := 252) (lo' := [_, _, _, _, _, _, _, _, _, _, _, _, _, _, _, _, _, _]) F dL_areShares_249 rfl rfl (Nat.le_of_ble_eq_true rfl) rfl rfl ?_
                  refine V.goto (tgt := 42) F dL_areShares_252 (by decide) ?_
                  refine V.mask [true, true, true, true, true, true, true, true, true, true, true, false, false, false, true, true, true, true] (lo' := [_, _, _, _, _, _, _, _, _, _, _, _, _, _, _, _, _, _]) rfl ?_
                  exact ih42 (d + 1) _ _ _ _ _ (by omega) hS3 (by rw [sz_succ _ hd.1, ← hH]) (by rw [pvz_s _ hd.1, ← hM, hx247, hx231]; by_cases hc : M < hbz a (p * 4 + q) d 1 100 <;> simp [hc]) (by omega) (by omega)
                refine V.iload (q := 235) F dL_areShares_233 rfl rfl ?_
                refine V.iload (q := 237) F dL_areShares_235 rfl rfl ?_
                refine V.icmp_le (q := 240) (tgt := 245) F dL_areShares_237 rfl (by decide) (by omega) (fun k237 => ?_) (fun k237 => ?_)
                · refine V.iload (q := 247) F dL_areShares_245 rfl rfl ?_
                  exact J247 _ _ (by omega)
                · refine V.iload (q := 242) F dL_areShares_240 rfl rfl ?_
                  refine V.goto (tgt := 247) F dL_areShares_242 (by decide) ?_
                  exact J247 _ _ (by omega)
              refine V.iload (q := 219) F dL_areShares_217 rfl rfl ?_
              refine V.iload (q := 221) F dL_areShares_219 rfl rfl ?_
              refine V.icmp_le (q := 224) (tgt := 229) F dL_areShares_221 rfl (by decide) (by omega) (fun k221 => ?_) (fun k221 => ?_)
              · refine V.iload (q := 231) F dL_areShares_229 rfl rfl ?_
                exact J231 _ _ (by omega)
              · refine V.iload (q := 226) F dL_areShares_224 rfl rfl ?_
                refine V.goto (tgt := 231) F dL_areShares_226 (by decide) ?_
                exact J231 _ _ (by omega)
            · have hkd := phz_rng hI hr (d := d) (k := k) (by omega) (by omega)
              have hsl := shr_law hI (d := d) (k := k) hr (by omega)
              have hs1 := shr_100 hI hr (p := d * 3 + k) (by omega)
              refine V.aload_n (q := 73) F dL_areShares_72 rfl rfl rfl ?_
              refine V.iload_n (q := 74) F dL_areShares_73 rfl rfl rfl ?_
              refine V.iload_n (q := 75) F dL_areShares_74 rfl rfl rfl ?_
              refine V.iload (q := 77) F dL_areShares_75 rfl rfl ?_
              refine V.iload (q := 79) F dL_areShares_77 rfl rfl ?_
              refine V.callX (q := 82) F 27 rfl nd27 dL_areShares_79 rfl (c_X6_hours l G A a κ.1.1 R sn t κ.1.2.1 κ.1.2.2.1 κ.1.2.2.2.1 κ.1.2.2.2.2 κ.2.1.1 κ.2.1.2.1 κ.2.1.2.2 κ.2.2.1.1 κ.2.2.1.2.1 κ.2.2.1.2.2 κ.2.2.2.1.1 κ.2.2.2.1.2.1 κ.2.2.2.1.2.2 o s bb n κ.2.2.2.2.1 κ.2.2.2.2.2.1 κ.2.2.2.2.2.2.1 κ.2.2.2.2.2.2.2.1 κ.2.2.2.2.2.2.2.2.1 κ.2.2.2.2.2.2.2.2.2.1 κ.2.2.2.2.2.2.2.2.2.2.1 κ.2.2.2.2.2.2.2.2.2.2.2 p q d k hP.1 hP.2.2.2.1 hP.2.2.2.2 hbb hn ht (by omega) (by omega) (by omega) (by omega)) gL_areShares_X6_hours rfl rfl ydX6_hours ⟨Nat.le_of_ble_eq_true rfl, Nat.le_of_ble_eq_true rfl⟩ (ci := 6) rfl rfl rfl rfl (Nat.le_of_ble_eq_true rfl) ⟨Nat.le_of_ble_eq_true rfl, Nat.le_of_ble_eq_true rfl⟩ (fun r9 w9 h9 => ?_)
              rw [rHours_k (a := a) (p := p) (q := q) (by omega) (by omega) (d := d) (k := k) (by omega) (by omega)] at h9
              obtain ⟨κ, rfl, rfl⟩ := h9
              refine V.eq (pc' := 82) (st' := [_]) (ws' := WX A G a o s R bb sn t n κ ++ []) rfl rfl rfl rfl ?_
              refine V.istore (q := 84) (lo' := [_, _, _, _, _, _, _, _, _, _, _, _, _, _, _, _, _, _]) F dL_areShares_82 rfl (Nat.le_of_ble_eq_true rfl) rfl rfl ?_
              refine V.aload_n (q := 85) F dL_areShares_84 rfl rfl rfl ?_
              refine V.iload_n (q := 86) F dL_areShares_85 rfl rfl rfl ?_
              refine V.iload_n (q := 87) F dL_areShares_86 rfl rfl rfl ?_
              refine V.iload (q := 89) F dL_areShares_87 rfl rfl ?_
              refine V.iload (q := 91) F dL_areShares_89 rfl rfl ?_
              refine V.callX (q := 94) F 27 rfl nd27 dL_areShares_91 rfl (c_X6_share l G A a κ.1.1 R sn t κ.1.2.1 κ.1.2.2.1 κ.1.2.2.2.1 κ.1.2.2.2.2 κ.2.1.1 κ.2.1.2.1 κ.2.1.2.2 κ.2.2.1.1 κ.2.2.1.2.1 κ.2.2.1.2.2 κ.2.2.2.1.1 κ.2.2.2.1.2.1 κ.2.2.2.1.2.2 o s bb n κ.2.2.2.2.1 κ.2.2.2.2.2.1 κ.2.2.2.2.2.2.1 κ.2.2.2.2.2.2.2.1 κ.2.2.2.2.2.2.2.2.1 κ.2.2.2.2.2.2.2.2.2.1 κ.2.2.2.2.2.2.2.2.2.2.1 κ.2.2.2.2.2.2.2.2.2.2.2 p q d k hP.1 hP.2.2.2.1 hP.2.2.2.2 hbb hn ht (by omega) (by omega) (by omega) (by omega)) gL_areShares_X6_share rfl rfl ydX6_share ⟨Nat.le_of_ble_eq_true rfl, Nat.le_of_ble_eq_true rfl⟩ (ci := 6) rfl rfl rfl rfl (Nat.le_of_ble_eq_true rfl) ⟨Nat.le_of_ble_eq_true rfl, Nat.le_of_ble_eq_true rfl⟩ (fun r9 w9 h9 => ?_)
              rw [rShare_k (a := a) (p := p) (q := q) (by omega) (by omega) (d := d) (k := k) (by omega) (by omega)] at h9
              obtain ⟨κ, rfl, rfl⟩ := h9
              refine V.eq (pc' := 94) (st' := [_]) (ws' := WX A G a o s R bb sn t n κ ++ []) rfl rfl rfl rfl ?_
              refine V.istore (q := 96) (lo' := [_, _, _, _, _, _, _, _, _, _, _, _, _, _, _, _, _, _]) F dL_areShares_94 rfl (Nat.le_of_ble_eq_true rfl) rfl rfl ?_
              have J111 : ∀ (x111 : Int) (κ : Scr) (hx111 : x111 = if a (25344 + (p * 4 + q)) = 0 then 0 else 100 * phz a (p * 4 + q) d k / a (25344 + (p * 4 + q))), V X (YL_areShares l G) 0 0 111 [some (.ref (A 0)), some (.int (zI p)), some (.int (zI q)), some (.int (zI (a (25344 + (p * 4 + q))))), some (.int (zI (a (25360 + (p * 4 + q))))), some (.int (zI (a (25344 + (p * 4 + q)) + a (25360 + (p * 4 + q))))), some (.int (zI S2)), some (.int (zI H)), some (.int (zI B)), some (.int (zI M)), some (.int (zI d)), some (.int (zI (hbz a (p * 4 + q) d 1 100))), some (.int (zI PT)), some (.int (zI k)), some (.int (zI (phz a (p * 4 + q) d k))), some (.int (zI (shr a (p * 4 + q) (d * 3 + k)))), none, none] [.int (zI x111)] (WX A G a o s R bb sn t n κ ++ []) := by
                intro x111 κ hx111
                refine V.istore (q := 113) (lo' := [_, _, _, _, _, _, _, _, _, _, _, _, _, _, _, _, _, _]) F dL_areShares_111 rfl (Nat.le_of_ble_eq_true rfl) rfl rfl ?_
                have J132 : ∀ (x132 : Int) (κ : Scr) (hx132 : x132 = if a (25344 + (p * 4 + q)) = 0 ∨ 100 * phz a (p * 4 + q) d k % a (25344 + (p * 4 + q)) = 0 then 1 else 0), V X (YL_areShares l G) 0 0 132 [some (.ref (A 0)), some (.int (zI p)), some (.int (zI q)), some (.int (zI (a (25344 + (p * 4 + q))))), some (.int (zI (a (25360 + (p * 4 + q))))), some (.int (zI (a (25344 + (p * 4 + q)) + a (25360 + (p * 4 + q))))), some (.int (zI S2)), some (.int (zI H)), some (.int (zI B)), some (.int (zI M)), some (.int (zI d)), some (.int (zI (hbz a (p * 4 + q) d 1 100))), some (.int (zI PT)), some (.int (zI k)), some (.int (zI (phz a (p * 4 + q) d k))), some (.int (zI (shr a (p * 4 + q) (d * 3 + k)))), some (.int (zI x111)), none] [.int (zI x132)] (WX A G a o s R bb sn t n κ ++ []) := by
                  intro x132 κ hx132
                  refine V.istore (q := 134) (lo' := [_, _, _, _, _, _, _, _, _, _, _, _, _, _, _, _, _, _]) F dL_areShares_132 rfl (Nat.le_of_ble_eq_true rfl) rfl rfl ?_
                  refine V.iload (q := 136) F dL_areShares_134 rfl rfl ?_
                  refine V.if_lt (q := 139) (tgt := 179) F dL_areShares_136 rfl (by decide) (by omega) (fun k136 => by exfalso; omega) (fun k136 => ?_)
                  refine V.iload (q := 141) F dL_areShares_139 rfl rfl ?_
                  refine V.iload (q := 143) F dL_areShares_141 rfl rfl ?_
                  refine V.icmp_lt (q := 146) (tgt := 179) F dL_areShares_143 rfl (by decide) (by omega) (fun k143 => by exfalso; omega) (fun k143 => ?_)
                  refine V.iload (q := 148) F dL_areShares_146 rfl rfl ?_
                  refine V.iload (q := 150) F dL_areShares_148 rfl rfl ?_
                  have J160 : ∀ (x160 : Int) (κ : Scr) (hx160 : x160 = if x132 = 0 then 1 else 0), V X (YL_areShares l G) 0 0 160 [some (.ref (A 0)), some (.int (zI p)), some (.int (zI q)), some (.int (zI (a (25344 + (p * 4 + q))))), some (.int (zI (a (25360 + (p * 4 + q))))), some (.int (zI (a (25344 + (p * 4 + q)) + a (25360 + (p * 4 + q))))), some (.int (zI S2)), some (.int (zI H)), some (.int (zI B)), some (.int (zI M)), some (.int (zI d)), some (.int (zI (hbz a (p * 4 + q) d 1 100))), some (.int (zI PT)), some (.int (zI k)), some (.int (zI (phz a (p * 4 + q) d k))), some (.int (zI (shr a (p * 4 + q) (d * 3 + k)))), some (.int (zI x111)), some (.int (zI x132))] [.int (zI x160), .int (zI x111), .int (zI (shr a (p * 4 + q) (d * 3 + k)))] (WX A G a o s R bb sn t n κ ++ []) := by
                    intro x160 κ hx160
                    refine V.iadd (q := 161) F dL_areShares_160 rfl ?_
                    refine V.icmp_gt (q := 164) (tgt := 179) F dL_areShares_161 rfl (by decide) (by omega) (fun k161 => by exfalso; omega) (fun k161 => ?_)
                    refine V.aload_n (q := 165) F dL_areShares_164 rfl rfl rfl ?_
                    refine V.iload_n (q := 166) F dL_areShares_165 rfl rfl rfl ?_
                    refine V.iload_n (q := 167) F dL_areShares_166 rfl rfl rfl ?_
                    refine V.iload (q := 169) F dL_areShares_167 rfl rfl ?_
                    refine V.iload (q := 171) F dL_areShares_169 rfl rfl ?_
                    refine V.callX (q := 174) F 27 rfl nd27 dL_areShares_171 rfl (c_X6_dealt l G A a κ.1.1 R sn t κ.1.2.1 κ.1.2.2.1 κ.1.2.2.2.1 κ.1.2.2.2.2 κ.2.1.1 κ.2.1.2.1 κ.2.1.2.2 κ.2.2.1.1 κ.2.2.1.2.1 κ.2.2.1.2.2 κ.2.2.2.1.1 κ.2.2.2.1.2.1 κ.2.2.2.1.2.2 o s bb n κ.2.2.2.2.1 κ.2.2.2.2.2.1 κ.2.2.2.2.2.2.1 κ.2.2.2.2.2.2.2.1 κ.2.2.2.2.2.2.2.2.1 κ.2.2.2.2.2.2.2.2.2.1 κ.2.2.2.2.2.2.2.2.2.2.1 κ.2.2.2.2.2.2.2.2.2.2.2 p q d k hP.1 hP.2.2.2.1 hP.2.2.2.2 hbb hn ht (by omega) (by omega) (by omega) (by omega)) gL_areShares_X6_dealt rfl rfl ydX6_dealt ⟨Nat.le_of_ble_eq_true rfl, Nat.le_of_ble_eq_true rfl⟩ (ci := 6) rfl rfl rfl rfl (Nat.le_of_ble_eq_true rfl) ⟨Nat.le_of_ble_eq_true rfl, Nat.le_of_ble_eq_true rfl⟩ (fun r9 w9 h9 => ?_)
                    rw [rDealt_k (a := a) (p := p) (q := q) (by omega) (by omega) (d := d) (k := k) hP.1 (by omega) (by omega)] at h9
                    obtain ⟨κ, rfl, rfl⟩ := h9
                    refine V.eq (pc' := 174) (st' := [_]) (ws' := WX A G a o s R bb sn t n κ ++ []) rfl rfl rfl rfl ?_
                    refine V.iload (q := 176) F dL_areShares_174 rfl rfl ?_
                    refine V.icmp_eq (q := 179) (tgt := 181) F dL_areShares_176 rfl (by decide) (by omega) (fun k176 => ?_) (fun k176 => by exfalso; omega)
                    refine V.iload (q := 183) F dL_areShares_181 rfl rfl ?_
                    refine V.iload (q := 185) F dL_areShares_183 rfl rfl ?_
                    refine V.iadd (q := 186) F dL_areShares_185 rfl ?_
                    refine V.istore (q := 188) (lo' := [_, _, _, _, _, _, _, _, _, _, _, _, _, _, _, _, _, _]) F dL_areShares_186 rfl (Nat.le_of_ble_eq_true rfl) rfl rfl ?_
                    refine V.iload (q := 190) F dL_areShares_188 rfl rfl ?_
                    refine V.iload (q := 192) F dL_areShares_190 rfl rfl ?_
                    refine V.iadd (q := 193) F dL_areShares_192 rfl ?_
                    refine V.istore (q := 195) (lo' := [_, _, _, _, _, _, _, _, _, _, _, _, _, _, _, _, _, _]) F dL_areShares_193 rfl (Nat.le_of_ble_eq_true rfl) rfl rfl ?_
                    refine V.iinc (q := 198) (lo' := [_, _, _, _, _, _, _, _, _, _, _, _, _, _, _, _, _, _]) F dL_areShares_195 rfl rfl (Nat.le_of_ble_eq_true rfl) rfl rfl ?_
                    refine V.goto (tgt := 66) F dL_areShares_198 (by decide) ?_
                    refine V.mask [true, true, true, true, true, true, true, true, true, true, true, true, true, true, false, false, false, false] (lo' := [_, _, _, _, _, _, _, _, _, _, _, _, _, _, _, _, _, _]) rfl ?_
                    exact ih66 (k + 1) _ _ _ (by omega) (by rw [sz_succ _ hk.1, ← hPT]) (by rw [show d * 3 + (k + 1) = d * 3 + k + 1 by omega, sz_succ _ (by omega), ← hS2]) (by omega)
                  refine V.iload (q := 152) F dL_areShares_150 rfl rfl ?_
                  refine V.if_eq (q := 155) (tgt := 159) F dL_areShares_152 rfl (by decide) (by omega) (fun k152 => ?_) (fun k152 => ?_)
                  · refine V.iconst (q := 160) F dL_areShares_159 rfl ?_
                    exact J160 _ _ (by omega)
                  · refine V.iconst (q := 156) F dL_areShares_155 rfl ?_
                    refine V.goto (tgt := 160) F dL_areShares_156 (by decide) ?_
                    exact J160 _ _ (by omega)
                refine V.iload_n (q := 114) F dL_areShares_113 rfl rfl rfl ?_
                refine V.if_eq (q := 117) (tgt := 127) F dL_areShares_114 rfl (by decide) (by omega) (fun k114 => ?_) (fun k114 => ?_)
                · refine V.iconst (q := 128) F dL_areShares_127 rfl ?_
                  refine V.goto (tgt := 132) F dL_areShares_128 (by decide) ?_
                  exact J132 _ _ (by omega)
                · have hmd1 := Int.emod_nonneg (100 * phz a (p * 4 + q) d k) (show a (25344 + (p * 4 + q)) ≠ 0 by omega)
                  have hmd2 := Int.emod_lt_of_pos (100 * phz a (p * 4 + q) d k) (show 0 < a (25344 + (p * 4 + q)) by omega)
                  refine V.bipush (q := 119) F dL_areShares_117 rfl (by decide) ?_
                  refine V.iload (q := 121) F dL_areShares_119 rfl rfl ?_
                  refine V.imul (q := 122) F dL_areShares_121 rfl ?_
                  refine V.iload_n (q := 123) F dL_areShares_122 rfl rfl rfl ?_
                  refine V.irem (q := 124) F dL_areShares_123 rfl ⟨by omega, by omega⟩ ?_
                  refine V.if_ne (q := 127) (tgt := 131) F dL_areShares_124 rfl (by decide) (by omega) (fun k124 => ?_) (fun k124 => ?_)
                  · refine V.iconst (q := 132) F dL_areShares_131 rfl ?_
                    exact J132 _ _ (by omega)
                  · refine V.iconst (q := 128) F dL_areShares_127 rfl ?_
                    refine V.goto (tgt := 132) F dL_areShares_128 (by decide) ?_
                    exact J132 _ _ (by omega)
              refine V.iload_n (q := 97) F dL_areShares_96 rfl rfl rfl ?_
              refine V.if_ne (q := 100) (tgt := 104) F dL_areShares_97 rfl (by decide) (by omega) (fun k97 => ?_) (fun k97 => ?_)
              · refine V.bipush (q := 106) F dL_areShares_104 rfl (by decide) ?_
                refine V.iload (q := 108) F dL_areShares_106 rfl rfl ?_
                refine V.imul (q := 109) F dL_areShares_108 rfl ?_
                refine V.iload_n (q := 110) F dL_areShares_109 rfl rfl rfl ?_
                refine V.idiv (q := 111) F dL_areShares_110 rfl ⟨by omega, by omega⟩ ?_
                exact J111 _ _ (by omega)
              · refine V.iconst (q := 101) F dL_areShares_100 rfl ?_
                refine V.goto (tgt := 111) F dL_areShares_101 (by decide) ?_
                exact J111 _ _ (by omega)
        exact L66 _ 0 0 S _ (by omega) (sz_self _ _).symm (by rw [hS, Int.add_zero]) (Nat.lt_succ_self _)
  exact L42 _ 0 0 0 0 (-5) _ (by omega) (by rw [show (0 * 3 : Int) = 0 from rfl, sz_self]) (sz_self _ _).symm rfl (by omega) (Nat.lt_succ_self _)

abbrev YL_areQuarters (l : Launch) (G : Gx) : Sx := (cL_areQuarters, 6, RL, wsL_areQuarters, rmD 7, l, G)
theorem ydL_areQuarters : ydOk yL_areQuarters 3 := by decide +kernel
set_option maxHeartbeats 4000000 in
set_option maxRecDepth 20000 in
theorem c_L_areQuarters (l : Launch) (G : Gx) (A : Nat → Nat)  (a R sn t : Int → Int) (o s bb n N p q : Int) (κ : Scr) (hP : PI N a o s) (hbb : 0 ≤ bb ∧ bb ≤ 1) (hn : 0 ≤ n ∧ n ≤ 80) (ht : ∀ j, 0 ≤ t j ∧ t j < 65536) (hp : 0 ≤ p ∧ p ≤ 3) (hq4 : 0 ≤ q ∧ q ≤ 3) : Ct l G yL_areQuarters wsL_areQuarters (rmD 7) [.ref (A 0), .int (zI p), .int (zI q)] (WX A G a o s R bb sn t n κ) (RdX A G a o s R bb sn t n 1) := by
  refine Ct.intro (cc := cL_areQuarters) (maxL := 6) (ret := (some .boolean)) (lo0 := [some (.ref (A 0)), some (.int (zI p)), some (.int (zI q)), none, none, none]) (by decide +kernel) rfl ⟨rfl, rfl⟩ (Nat.le_of_ble_eq_true rfl) rfl ?_
  intro X F T
  change Fx X (YL_areQuarters l G) at F
  change V X (YL_areQuarters l G) 0 0 0 _ _ _
  refine V.eq (pc' := 0) (ws' := WX A G a o s R bb sn t n κ ++ []) rfl rfl rfl (List.append_nil _).symm ?_
  have hr : 0 ≤ p * 4 + q ∧ p * 4 + q < 16 := by omega
  have hI := hP.1
  have hw := hI.w hr
  have hh := fun (d : Int) (h : 0 ≤ d ∧ d < 16) => dirH_rng hI hr (d := d) h
  refine V.iconst (q := 1) F dL_areQuarters_0 rfl ?_
  refine V.istore_n (q := 2) (lo' := [_, _, _, _, _, _]) F dL_areQuarters_1 rfl rfl (Nat.le_of_ble_eq_true rfl) rfl rfl ?_
  have L2 : ∀ (nq : Nat) (i : Int) (κ : Scr) (hi : 0 ≤ i ∧ i ≤ 4), (4 - i).toNat < nq → V X (YL_areQuarters l G) 0 0 2 [some (.ref (A 0)), some (.int (zI p)), some (.int (zI q)), some (.int (zI i)), none, none] [] (WX A G a o s R bb sn t n κ ++ []) := by
    intro n2
    induction n2 with
    | zero => intro i κ hi hm2; exact absurd hm2 (Nat.not_lt_zero _)
    | succ n2 ih2 =>
      intro i κ hi hm2
      refine V.iload_n (q := 3) F dL_areQuarters_2 rfl rfl rfl ?_
      refine V.iconst (q := 4) F dL_areQuarters_3 rfl ?_
      refine V.icmp_ge (q := 7) (tgt := 105) F dL_areQuarters_4 rfl (by decide) (by omega) (fun k4 => ?_) (fun k4 => ?_)
      · refine V.iconst (q := 106) F dL_areQuarters_105 rfl ?_
        refine V.istore_n (q := 107) (lo' := [_, _, _, _, _, _]) F dL_areQuarters_106 rfl rfl (Nat.le_of_ble_eq_true rfl) rfl rfl ?_
        have L107 : ∀ (nq : Nat) (i : Int) (κ : Scr) (hi : 0 ≤ i ∧ i ≤ 16), (16 - i).toNat < nq → V X (YL_areQuarters l G) 0 0 107 [some (.ref (A 0)), some (.int (zI p)), some (.int (zI q)), some (.int (zI i)), none, none] [] (WX A G a o s R bb sn t n κ ++ []) := by
          intro n107
          induction n107 with
          | zero => intro i κ hi hm107; exact absurd hm107 (Nat.not_lt_zero _)
          | succ n107 ih107 =>
            intro i κ hi hm107
            refine V.iload_n (q := 108) F dL_areQuarters_107 rfl rfl rfl ?_
            refine V.bipush (q := 110) F dL_areQuarters_108 rfl (by decide) ?_
            refine V.icmp_ge (q := 113) (tgt := 167) F dL_areQuarters_110 rfl (by decide) (by omega) (fun k110 => ?_) (fun k110 => ?_)
            · refine V.iconst (q := 168) F dL_areQuarters_167 rfl ?_
              exact V.zret F T (Or.inr rfl) dL_areQuarters_168 ⟨κ, rfl, List.append_nil _⟩ [(A 0), (A 1), (A 2), (A 3), (A 4), (A 5), (A 6), (A 7), (A 8), (A 9), (A 10), (A 11), (A 12), (A 13), (A 14), (A 15), (A 16), (A 17), (A 18), (A 19), (A 20), (A 21), (A 22), (A 23), (A 24), (A 25), (A 26)] rfl rfl
            · have g1 := hh i (by omega)
              have g2 := hh ((i + 8) % 16) (by omega)
              refine V.aload_n (q := 114) F dL_areQuarters_113 rfl rfl rfl ?_
              refine V.iload_n (q := 115) F dL_areQuarters_114 rfl rfl rfl ?_
              refine V.iload_n (q := 116) F dL_areQuarters_115 rfl rfl rfl ?_
              refine V.iload_n (q := 117) F dL_areQuarters_116 rfl rfl rfl ?_
              refine V.iconst (q := 118) F dL_areQuarters_117 rfl ?_
              refine V.callX (q := 121) F 27 rfl nd27 dL_areQuarters_118 rfl (c_X6_hours l G A a κ.1.1 R sn t κ.1.2.1 κ.1.2.2.1 κ.1.2.2.2.1 κ.1.2.2.2.2 κ.2.1.1 κ.2.1.2.1 κ.2.1.2.2 κ.2.2.1.1 κ.2.2.1.2.1 κ.2.2.1.2.2 κ.2.2.2.1.1 κ.2.2.2.1.2.1 κ.2.2.2.1.2.2 o s bb n κ.2.2.2.2.1 κ.2.2.2.2.2.1 κ.2.2.2.2.2.2.1 κ.2.2.2.2.2.2.2.1 κ.2.2.2.2.2.2.2.2.1 κ.2.2.2.2.2.2.2.2.2.1 κ.2.2.2.2.2.2.2.2.2.2.1 κ.2.2.2.2.2.2.2.2.2.2.2 p q i 3 hP.1 hP.2.2.2.1 hP.2.2.2.2 hbb hn ht (by omega) (by omega) (by omega) (by omega)) gL_areQuarters_X6_hours rfl rfl ydX6_hours ⟨Nat.le_of_ble_eq_true rfl, Nat.le_of_ble_eq_true rfl⟩ (ci := 6) rfl rfl rfl rfl (Nat.le_of_ble_eq_true rfl) ⟨Nat.le_of_ble_eq_true rfl, Nat.le_of_ble_eq_true rfl⟩ (fun r9 w9 h9 => ?_)
              rw [rHours_3 (a := a) (p := p) (q := q) (by omega) (by omega) (d := i) (by omega)] at h9
              obtain ⟨κ, rfl, rfl⟩ := h9
              refine V.eq (pc' := 121) (st' := [_]) (ws' := WX A G a o s R bb sn t n κ ++ []) rfl rfl rfl rfl ?_
              refine V.aload_n (q := 122) F dL_areQuarters_121 rfl rfl rfl ?_
              refine V.iload_n (q := 123) F dL_areQuarters_122 rfl rfl rfl ?_
              refine V.iload_n (q := 124) F dL_areQuarters_123 rfl rfl rfl ?_
              refine V.iload_n (q := 125) F dL_areQuarters_124 rfl rfl rfl ?_
              refine V.bipush (q := 127) F dL_areQuarters_125 rfl (by decide) ?_
              refine V.iadd (q := 128) F dL_areQuarters_127 rfl ?_
              refine V.bipush (q := 130) F dL_areQuarters_128 rfl (by decide) ?_
              refine V.irem (q := 131) F dL_areQuarters_130 rfl ⟨by omega, by omega⟩ ?_
              refine V.iconst (q := 132) F dL_areQuarters_131 rfl ?_
              refine V.callX (q := 135) F 27 rfl nd27 dL_areQuarters_132 rfl (c_X6_hours l G A a κ.1.1 R sn t κ.1.2.1 κ.1.2.2.1 κ.1.2.2.2.1 κ.1.2.2.2.2 κ.2.1.1 κ.2.1.2.1 κ.2.1.2.2 κ.2.2.1.1 κ.2.2.1.2.1 κ.2.2.1.2.2 κ.2.2.2.1.1 κ.2.2.2.1.2.1 κ.2.2.2.1.2.2 o s bb n κ.2.2.2.2.1 κ.2.2.2.2.2.1 κ.2.2.2.2.2.2.1 κ.2.2.2.2.2.2.2.1 κ.2.2.2.2.2.2.2.2.1 κ.2.2.2.2.2.2.2.2.2.1 κ.2.2.2.2.2.2.2.2.2.2.1 κ.2.2.2.2.2.2.2.2.2.2.2 p q ((i + 8) % 16) 3 hP.1 hP.2.2.2.1 hP.2.2.2.2 hbb hn ht (by omega) (by omega) (by omega) (by omega)) gL_areQuarters_X6_hours rfl rfl ydX6_hours ⟨Nat.le_of_ble_eq_true rfl, Nat.le_of_ble_eq_true rfl⟩ (ci := 6) rfl rfl rfl rfl (Nat.le_of_ble_eq_true rfl) ⟨Nat.le_of_ble_eq_true rfl, Nat.le_of_ble_eq_true rfl⟩ (fun r9 w9 h9 => ?_)
              rw [rHours_3 (a := a) (p := p) (q := q) (by omega) (by omega) (d := (i + 8) % 16) (by omega)] at h9
              obtain ⟨κ, rfl, rfl⟩ := h9
              refine V.eq (pc' := 135) (st' := [_, _]) (ws' := WX A G a o s R bb sn t n κ ++ []) rfl rfl rfl rfl ?_
              refine V.isub (q := 136) F dL_areQuarters_135 rfl ?_
              refine V.istore (q := 138) (lo' := [_, _, _, _, _, _]) F dL_areQuarters_136 rfl (Nat.le_of_ble_eq_true rfl) rfl rfl ?_
              refine V.aload_n (q := 139) F dL_areQuarters_138 rfl rfl rfl ?_
              refine V.iload_n (q := 140) F dL_areQuarters_139 rfl rfl rfl ?_
              refine V.iload_n (q := 141) F dL_areQuarters_140 rfl rfl rfl ?_
              refine V.iload_n (q := 142) F dL_areQuarters_141 rfl rfl rfl ?_
              refine V.callX (q := 145) F 27 rfl nd27 dL_areQuarters_142 rfl (c_X6_excess l G A a κ.1.1 R sn t κ.1.2.1 κ.1.2.2.1 κ.1.2.2.2.1 κ.1.2.2.2.2 κ.2.1.1 κ.2.1.2.1 κ.2.1.2.2 κ.2.2.1.1 κ.2.2.1.2.1 κ.2.2.1.2.2 κ.2.2.2.1.1 κ.2.2.2.1.2.1 κ.2.2.2.1.2.2 o s bb n κ.2.2.2.2.1 κ.2.2.2.2.2.1 κ.2.2.2.2.2.2.1 κ.2.2.2.2.2.2.2.1 κ.2.2.2.2.2.2.2.2.1 κ.2.2.2.2.2.2.2.2.2.1 κ.2.2.2.2.2.2.2.2.2.2.1 κ.2.2.2.2.2.2.2.2.2.2.2 p q i hP.1 hP.2.2.2.1 hP.2.2.2.2 hbb hn ht (by omega) (by omega) (by omega)) gL_areQuarters_X6_excess rfl rfl ydX6_excess ⟨Nat.le_of_ble_eq_true rfl, Nat.le_of_ble_eq_true rfl⟩ (ci := 6) rfl rfl rfl rfl (Nat.le_of_ble_eq_true rfl) ⟨Nat.le_of_ble_eq_true rfl, Nat.le_of_ble_eq_true rfl⟩ (fun r9 w9 h9 => ?_)
              rw [rExc_o (a := a) (p := p) (q := q) (by omega) (by omega) (d := i) (by omega)] at h9
              obtain ⟨κ, rfl, rfl⟩ := h9
              refine V.eq (pc' := 145) (st' := [_]) (ws' := WX A G a o s R bb sn t n κ ++ []) rfl rfl rfl rfl ?_
              have J156 : ∀ (x156 : Int) (κ : Scr) (hx156 : x156 = if 0 < hbz a (p * 4 + q) i 1 100 - hbz a (p * 4 + q) ((i + 8) % 16) 1 100 then hbz a (p * 4 + q) i 1 100 - hbz a (p * 4 + q) ((i + 8) % 16) 1 100 else 0), V X (YL_areQuarters l G) 0 0 156 [some (.ref (A 0)), some (.int (zI p)), some (.int (zI q)), some (.int (zI i)), some (.int (zI ((hbz a (p * 4 + q) i 1 100) - (hbz a (p * 4 + q) ((i + 8) % 16) 1 100)))), none] [.int (zI x156), .int (zI (if 0 < hbz a (p * 4 + q) i 1 100 - hbz a (p * 4 + q) ((i + 8) % 16) 1 100 then hbz a (p * 4 + q) i 1 100 - hbz a (p * 4 + q) ((i + 8) % 16) 1 100 else 0))] (WX A G a o s R bb sn t n κ ++ []) := by
                intro x156 κ hx156
                refine V.icmp_eq (q := 159) (tgt := 161) F dL_areQuarters_156 rfl (by decide) (by omega) (fun k156 => ?_) (fun k156 => by exfalso; omega)
                refine V.iinc (q := 164) (lo' := [_, _, _, _, _, _]) F dL_areQuarters_161 rfl rfl (Nat.le_of_ble_eq_true rfl) rfl rfl ?_
                refine V.goto (tgt := 107) F dL_areQuarters_164 (by decide) ?_
                refine V.mask [true, true, true, true, false, true] (lo' := [_, _, _, _, _, _]) rfl ?_
                exact ih107 (i + 1) _ (by omega) (by omega)
              refine V.iload (q := 147) F dL_areQuarters_145 rfl rfl ?_
              refine V.if_le (q := 150) (tgt := 155) F dL_areQuarters_147 rfl (by decide) (by omega) (fun k147 => ?_) (fun k147 => ?_)
              · refine V.iconst (q := 156) F dL_areQuarters_155 rfl ?_
                exact J156 _ _ (by omega)
              · refine V.iload (q := 152) F dL_areQuarters_150 rfl rfl ?_
                refine V.goto (tgt := 156) F dL_areQuarters_152 (by decide) ?_
                exact J156 _ _ (by omega)
        exact L107 _ 0 _ (by omega) (Nat.lt_succ_self _)
      · have g1 := hh (4 * i) (by omega)
        have g2 := hh ((4 * i + 15) % 16) (by omega)
        have g3 := hh (4 * i + 1) (by omega)
        have g4 := hh ((4 * i + 14) % 16) (by omega)
        have g5 := hh (4 * i + 2) (by omega)
        refine V.aload_n (q := 8) F dL_areQuarters_7 rfl rfl rfl ?_
        refine V.iload_n (q := 9) F dL_areQuarters_8 rfl rfl rfl ?_
        refine V.iload_n (q := 10) F dL_areQuarters_9 rfl rfl rfl ?_
        refine V.iconst (q := 11) F dL_areQuarters_10 rfl ?_
        refine V.iload_n (q := 12) F dL_areQuarters_11 rfl rfl rfl ?_
        refine V.imul (q := 13) F dL_areQuarters_12 rfl ?_
        refine V.iconst (q := 14) F dL_areQuarters_13 rfl ?_
        refine V.callX (q := 17) F 27 rfl nd27 dL_areQuarters_14 rfl (c_X6_hours l G A a κ.1.1 R sn t κ.1.2.1 κ.1.2.2.1 κ.1.2.2.2.1 κ.1.2.2.2.2 κ.2.1.1 κ.2.1.2.1 κ.2.1.2.2 κ.2.2.1.1 κ.2.2.1.2.1 κ.2.2.1.2.2 κ.2.2.2.1.1 κ.2.2.2.1.2.1 κ.2.2.2.1.2.2 o s bb n κ.2.2.2.2.1 κ.2.2.2.2.2.1 κ.2.2.2.2.2.2.1 κ.2.2.2.2.2.2.2.1 κ.2.2.2.2.2.2.2.2.1 κ.2.2.2.2.2.2.2.2.2.1 κ.2.2.2.2.2.2.2.2.2.2.1 κ.2.2.2.2.2.2.2.2.2.2.2 p q (4 * i) 3 hP.1 hP.2.2.2.1 hP.2.2.2.2 hbb hn ht (by omega) (by omega) (by omega) (by omega)) gL_areQuarters_X6_hours rfl rfl ydX6_hours ⟨Nat.le_of_ble_eq_true rfl, Nat.le_of_ble_eq_true rfl⟩ (ci := 6) rfl rfl rfl rfl (Nat.le_of_ble_eq_true rfl) ⟨Nat.le_of_ble_eq_true rfl, Nat.le_of_ble_eq_true rfl⟩ (fun r9 w9 h9 => ?_)
        rw [rHours_3 (a := a) (p := p) (q := q) (by omega) (by omega) (d := 4 * i) (by omega)] at h9
        obtain ⟨κ, rfl, rfl⟩ := h9
        refine V.eq (pc' := 17) (st' := [_]) (ws' := WX A G a o s R bb sn t n κ ++ []) rfl rfl rfl rfl ?_
        refine V.aload_n (q := 18) F dL_areQuarters_17 rfl rfl rfl ?_
        refine V.iload_n (q := 19) F dL_areQuarters_18 rfl rfl rfl ?_
        refine V.iload_n (q := 20) F dL_areQuarters_19 rfl rfl rfl ?_
        refine V.iconst (q := 21) F dL_areQuarters_20 rfl ?_
        refine V.iload_n (q := 22) F dL_areQuarters_21 rfl rfl rfl ?_
        refine V.imul (q := 23) F dL_areQuarters_22 rfl ?_
        refine V.bipush (q := 25) F dL_areQuarters_23 rfl (by decide) ?_
        refine V.iadd (q := 26) F dL_areQuarters_25 rfl ?_
        refine V.bipush (q := 28) F dL_areQuarters_26 rfl (by decide) ?_
        refine V.irem (q := 29) F dL_areQuarters_28 rfl ⟨by omega, by omega⟩ ?_
        refine V.iconst (q := 30) F dL_areQuarters_29 rfl ?_
        refine V.callX (q := 33) F 27 rfl nd27 dL_areQuarters_30 rfl (c_X6_hours l G A a κ.1.1 R sn t κ.1.2.1 κ.1.2.2.1 κ.1.2.2.2.1 κ.1.2.2.2.2 κ.2.1.1 κ.2.1.2.1 κ.2.1.2.2 κ.2.2.1.1 κ.2.2.1.2.1 κ.2.2.1.2.2 κ.2.2.2.1.1 κ.2.2.2.1.2.1 κ.2.2.2.1.2.2 o s bb n κ.2.2.2.2.1 κ.2.2.2.2.2.1 κ.2.2.2.2.2.2.1 κ.2.2.2.2.2.2.2.1 κ.2.2.2.2.2.2.2.2.1 κ.2.2.2.2.2.2.2.2.2.1 κ.2.2.2.2.2.2.2.2.2.2.1 κ.2.2.2.2.2.2.2.2.2.2.2 p q (((4 * i) + 15) % 16) 3 hP.1 hP.2.2.2.1 hP.2.2.2.2 hbb hn ht (by omega) (by omega) (by omega) (by omega)) gL_areQuarters_X6_hours rfl rfl ydX6_hours ⟨Nat.le_of_ble_eq_true rfl, Nat.le_of_ble_eq_true rfl⟩ (ci := 6) rfl rfl rfl rfl (Nat.le_of_ble_eq_true rfl) ⟨Nat.le_of_ble_eq_true rfl, Nat.le_of_ble_eq_true rfl⟩ (fun r9 w9 h9 => ?_)
        rw [rHours_3 (a := a) (p := p) (q := q) (by omega) (by omega) (d := ((4 * i) + 15) % 16) (by omega)] at h9
        obtain ⟨κ, rfl, rfl⟩ := h9
        refine V.eq (pc' := 33) (st' := [_, _]) (ws' := WX A G a o s R bb sn t n κ ++ []) rfl rfl rfl rfl ?_
        refine V.iadd (q := 34) F dL_areQuarters_33 rfl ?_
        refine V.aload_n (q := 35) F dL_areQuarters_34 rfl rfl rfl ?_
        refine V.iload_n (q := 36) F dL_areQuarters_35 rfl rfl rfl ?_
        refine V.iload_n (q := 37) F dL_areQuarters_36 rfl rfl rfl ?_
        refine V.iconst (q := 38) F dL_areQuarters_37 rfl ?_
        refine V.iload_n (q := 39) F dL_areQuarters_38 rfl rfl rfl ?_
        refine V.imul (q := 40) F dL_areQuarters_39 rfl ?_
        refine V.iconst (q := 41) F dL_areQuarters_40 rfl ?_
        refine V.iadd (q := 42) F dL_areQuarters_41 rfl ?_
        refine V.iconst (q := 43) F dL_areQuarters_42 rfl ?_
        refine V.callX (q := 46) F 27 rfl nd27 dL_areQuarters_43 rfl (c_X6_hours l G A a κ.1.1 R sn t κ.1.2.1 κ.1.2.2.1 κ.1.2.2.2.1 κ.1.2.2.2.2 κ.2.1.1 κ.2.1.2.1 κ.2.1.2.2 κ.2.2.1.1 κ.2.2.1.2.1 κ.2.2.1.2.2 κ.2.2.2.1.1 κ.2.2.2.1.2.1 κ.2.2.2.1.2.2 o s bb n κ.2.2.2.2.1 κ.2.2.2.2.2.1 κ.2.2.2.2.2.2.1 κ.2.2.2.2.2.2.2.1 κ.2.2.2.2.2.2.2.2.1 κ.2.2.2.2.2.2.2.2.2.1 κ.2.2.2.2.2.2.2.2.2.2.1 κ.2.2.2.2.2.2.2.2.2.2.2 p q ((4 * i) + 1) 3 hP.1 hP.2.2.2.1 hP.2.2.2.2 hbb hn ht (by omega) (by omega) (by omega) (by omega)) gL_areQuarters_X6_hours rfl rfl ydX6_hours ⟨Nat.le_of_ble_eq_true rfl, Nat.le_of_ble_eq_true rfl⟩ (ci := 6) rfl rfl rfl rfl (Nat.le_of_ble_eq_true rfl) ⟨Nat.le_of_ble_eq_true rfl, Nat.le_of_ble_eq_true rfl⟩ (fun r9 w9 h9 => ?_)
        rw [rHours_3 (a := a) (p := p) (q := q) (by omega) (by omega) (d := (4 * i) + 1) (by omega)] at h9
        obtain ⟨κ, rfl, rfl⟩ := h9
        refine V.eq (pc' := 46) (st' := [_, _]) (ws' := WX A G a o s R bb sn t n κ ++ []) rfl rfl rfl rfl ?_
        refine V.iadd (q := 47) F dL_areQuarters_46 rfl ?_
        refine V.istore (q := 49) (lo' := [_, _, _, _, _, _]) F dL_areQuarters_47 rfl (Nat.le_of_ble_eq_true rfl) rfl rfl ?_
        refine V.aload_n (q := 50) F dL_areQuarters_49 rfl rfl rfl ?_
        refine V.iload_n (q := 51) F dL_areQuarters_50 rfl rfl rfl ?_
        refine V.iload_n (q := 52) F dL_areQuarters_51 rfl rfl rfl ?_
        refine V.iconst (q := 53) F dL_areQuarters_52 rfl ?_
        refine V.iload_n (q := 54) F dL_areQuarters_53 rfl rfl rfl ?_
        refine V.imul (q := 55) F dL_areQuarters_54 rfl ?_
        refine V.bipush (q := 57) F dL_areQuarters_55 rfl (by decide) ?_
        refine V.iadd (q := 58) F dL_areQuarters_57 rfl ?_
        refine V.bipush (q := 60) F dL_areQuarters_58 rfl (by decide) ?_
        refine V.irem (q := 61) F dL_areQuarters_60 rfl ⟨by omega, by omega⟩ ?_
        refine V.iconst (q := 62) F dL_areQuarters_61 rfl ?_
        refine V.callX (q := 65) F 27 rfl nd27 dL_areQuarters_62 rfl (c_X6_hours l G A a κ.1.1 R sn t κ.1.2.1 κ.1.2.2.1 κ.1.2.2.2.1 κ.1.2.2.2.2 κ.2.1.1 κ.2.1.2.1 κ.2.1.2.2 κ.2.2.1.1 κ.2.2.1.2.1 κ.2.2.1.2.2 κ.2.2.2.1.1 κ.2.2.2.1.2.1 κ.2.2.2.1.2.2 o s bb n κ.2.2.2.2.1 κ.2.2.2.2.2.1 κ.2.2.2.2.2.2.1 κ.2.2.2.2.2.2.2.1 κ.2.2.2.2.2.2.2.2.1 κ.2.2.2.2.2.2.2.2.2.1 κ.2.2.2.2.2.2.2.2.2.2.1 κ.2.2.2.2.2.2.2.2.2.2.2 p q (((4 * i) + 14) % 16) 3 hP.1 hP.2.2.2.1 hP.2.2.2.2 hbb hn ht (by omega) (by omega) (by omega) (by omega)) gL_areQuarters_X6_hours rfl rfl ydX6_hours ⟨Nat.le_of_ble_eq_true rfl, Nat.le_of_ble_eq_true rfl⟩ (ci := 6) rfl rfl rfl rfl (Nat.le_of_ble_eq_true rfl) ⟨Nat.le_of_ble_eq_true rfl, Nat.le_of_ble_eq_true rfl⟩ (fun r9 w9 h9 => ?_)
        rw [rHours_3 (a := a) (p := p) (q := q) (by omega) (by omega) (d := ((4 * i) + 14) % 16) (by omega)] at h9
        obtain ⟨κ, rfl, rfl⟩ := h9
        refine V.eq (pc' := 65) (st' := [_]) (ws' := WX A G a o s R bb sn t n κ ++ []) rfl rfl rfl rfl ?_
        refine V.aload_n (q := 66) F dL_areQuarters_65 rfl rfl rfl ?_
        refine V.iload_n (q := 67) F dL_areQuarters_66 rfl rfl rfl ?_
        refine V.iload_n (q := 68) F dL_areQuarters_67 rfl rfl rfl ?_
        refine V.iconst (q := 69) F dL_areQuarters_68 rfl ?_
        refine V.iload_n (q := 70) F dL_areQuarters_69 rfl rfl rfl ?_
        refine V.imul (q := 71) F dL_areQuarters_70 rfl ?_
        refine V.iconst (q := 72) F dL_areQuarters_71 rfl ?_
        refine V.iadd (q := 73) F dL_areQuarters_72 rfl ?_
        refine V.iconst (q := 74) F dL_areQuarters_73 rfl ?_
        refine V.callX (q := 77) F 27 rfl nd27 dL_areQuarters_74 rfl (c_X6_hours l G A a κ.1.1 R sn t κ.1.2.1 κ.1.2.2.1 κ.1.2.2.2.1 κ.1.2.2.2.2 κ.2.1.1 κ.2.1.2.1 κ.2.1.2.2 κ.2.2.1.1 κ.2.2.1.2.1 κ.2.2.1.2.2 κ.2.2.2.1.1 κ.2.2.2.1.2.1 κ.2.2.2.1.2.2 o s bb n κ.2.2.2.2.1 κ.2.2.2.2.2.1 κ.2.2.2.2.2.2.1 κ.2.2.2.2.2.2.2.1 κ.2.2.2.2.2.2.2.2.1 κ.2.2.2.2.2.2.2.2.2.1 κ.2.2.2.2.2.2.2.2.2.2.1 κ.2.2.2.2.2.2.2.2.2.2.2 p q ((4 * i) + 2) 3 hP.1 hP.2.2.2.1 hP.2.2.2.2 hbb hn ht (by omega) (by omega) (by omega) (by omega)) gL_areQuarters_X6_hours rfl rfl ydX6_hours ⟨Nat.le_of_ble_eq_true rfl, Nat.le_of_ble_eq_true rfl⟩ (ci := 6) rfl rfl rfl rfl (Nat.le_of_ble_eq_true rfl) ⟨Nat.le_of_ble_eq_true rfl, Nat.le_of_ble_eq_true rfl⟩ (fun r9 w9 h9 => ?_)
        rw [rHours_3 (a := a) (p := p) (q := q) (by omega) (by omega) (d := (4 * i) + 2) (by omega)] at h9
        obtain ⟨κ, rfl, rfl⟩ := h9
        refine V.eq (pc' := 77) (st' := [_, _]) (ws' := WX A G a o s R bb sn t n κ ++ []) rfl rfl rfl rfl ?_
        refine V.iadd (q := 78) F dL_areQuarters_77 rfl ?_
        refine V.istore (q := 80) (lo' := [_, _, _, _, _, _]) F dL_areQuarters_78 rfl (Nat.le_of_ble_eq_true rfl) rfl rfl ?_
        refine V.aload_n (q := 81) F dL_areQuarters_80 rfl rfl rfl ?_
        refine V.iload_n (q := 82) F dL_areQuarters_81 rfl rfl rfl ?_
        refine V.iload_n (q := 83) F dL_areQuarters_82 rfl rfl rfl ?_
        refine V.iload_n (q := 84) F dL_areQuarters_83 rfl rfl rfl ?_
        refine V.callX (q := 87) F 27 rfl nd27 dL_areQuarters_84 rfl (c_X6_quarter l G A a κ.1.1 R sn t κ.1.2.1 κ.1.2.2.1 κ.1.2.2.2.1 κ.1.2.2.2.2 κ.2.1.1 κ.2.1.2.1 κ.2.1.2.2 κ.2.2.1.1 κ.2.2.1.2.1 κ.2.2.1.2.2 κ.2.2.2.1.1 κ.2.2.2.1.2.1 κ.2.2.2.1.2.2 o s bb n κ.2.2.2.2.1 κ.2.2.2.2.2.1 κ.2.2.2.2.2.2.1 κ.2.2.2.2.2.2.2.1 κ.2.2.2.2.2.2.2.2.1 κ.2.2.2.2.2.2.2.2.2.1 κ.2.2.2.2.2.2.2.2.2.2.1 κ.2.2.2.2.2.2.2.2.2.2.2 p q i hP.1 hP.2.2.2.1 hP.2.2.2.2 hbb hn ht (by omega) (by omega) (by omega)) gL_areQuarters_X6_quarter rfl rfl ydX6_quarter ⟨Nat.le_of_ble_eq_true rfl, Nat.le_of_ble_eq_true rfl⟩ (ci := 6) rfl rfl rfl rfl (Nat.le_of_ble_eq_true rfl) ⟨Nat.le_of_ble_eq_true rfl, Nat.le_of_ble_eq_true rfl⟩ (fun r9 w9 h9 => ?_)
        rw [rQuar_o (a := a) (p := p) (q := q) (by omega) (by omega) (k := i) (by omega)] at h9
        obtain ⟨κ, rfl, rfl⟩ := h9
        refine V.eq (pc' := 87) (st' := [_]) (ws' := WX A G a o s R bb sn t n κ ++ []) rfl rfl rfl rfl ?_
        refine V.iload (q := 89) F dL_areQuarters_87 rfl rfl ?_
        refine V.iload (q := 91) F dL_areQuarters_89 rfl rfl ?_
        refine V.iconst (q := 92) F dL_areQuarters_91 rfl ?_
        refine V.idiv (q := 93) F dL_areQuarters_92 rfl ⟨by omega, by omega⟩ ?_
        refine V.iadd (q := 94) F dL_areQuarters_93 rfl ?_
        refine V.icmp_eq (q := 97) (tgt := 99) F dL_areQuarters_94 rfl (by decide) (by omega) (fun k94 => ?_) (fun k94 => by exfalso; omega)
        refine V.iinc (q := 102) (lo' := [_, _, _, _, _, _]) F dL_areQuarters_99 rfl rfl (Nat.le_of_ble_eq_true rfl) rfl rfl ?_
        refine V.goto (tgt := 2) F dL_areQuarters_102 (by decide) ?_
        refine V.mask [true, true, true, true, false, false] (lo' := [_, _, _, _, _, _]) rfl ?_
        exact ih2 (i + 1) _ (by omega) (by omega)
  exact L2 _ 0 _ (by omega) (Nat.lt_succ_self _)

/-! the law: does -/
abbrev YL_does (l : Launch) (G : Gx) : Sx := (cL_does, 22, RL, wsL_does, rmD 8, l, G)
theorem ydL_does : ydOk yL_does 4 := by decide +kernel
set_option maxHeartbeats 4000000 in
set_option maxRecDepth 20000 in
theorem dc_216 {X : Cx} {l : Launch} {G : Gx} {A : Nat → Nat} {wa : Nat} {wc : va_W} {a R sn t wf : Int → Int} {o s bb n N v w p q d x h kd ft : Int} {κ : Scr} (F : Fx X (YL_does l G)) (hwc : wc.map Prod.fst = [(A 0), (A 1), (A 2), (A 3), (A 4), (A 5), (A 6), (A 7), (A 8), (A 9), (A 10), (A 11), (A 12), (A 13), (A 14), (A 15), (A 16), (A 17), (A 18), (A 19), (A 20), (A 21), (A 22), (A 23), (A 24), (A 25), (A 26), wa]) (T : Rt X (YL_does l G) (some .boolean) wc (DoX A G wa (N + 1) bb sn t n)) (hP : PI N a o s) (hbb : 0 ≤ bb ∧ bb ≤ 1) (hn : 0 ≤ n ∧ n ≤ 80) (ht : ∀ j, 0 ≤ t j ∧ t j < 65536) (hN : 0 ≤ N ∧ N ≤ 1000) (hv : -2147483648 ≤ v ∧ v < 2147483648) (hw9 : -2147483648 ≤ w ∧ w < 2147483648) (hp : 0 ≤ p ∧ p ≤ 3) (hq4 : 0 ≤ q ∧ q ≤ 3) (hd : 0 ≤ d ∧ d ≤ 15) (hx : 1 ≤ x ∧ x ≤ 99) (hh : 1 ≤ h ∧ h ≤ 99) (hkd : kd = if x < a 26176 then 0 else if x < a 26177 then 1 else 2) (hft : ft = if a (25344 + (p * 4 + q)) + a (25360 + (p * 4 + q)) + h ≤ 9999 then 1 else 0) : V X (YL_does l G) 0 0 216 [some (.ref (A 0)), some (.int (zI v)), some (.int (zI w)), some (.ref wa), some (.int (zI p)), some (.int (zI q)), some (.int (zI d)), some (.int (zI x)), some (.int (zI h)), some (.int (zI (a (25344 + (p * 4 + q)) + a (25360 + (p * 4 + q))))), some (.int (zI kd)), some (.int (zI (phz a (p * 4 + q) d kd))), some (.int (zI ft)), none, none, none, none, none, none, none, none, none] [] (WX A G a o s R bb sn t n κ ++ [(wa, aI G 48 wf)]) := by
  have hr : 0 ≤ p * 4 + q ∧ p * 4 + q < 16 := by omega
  have hI := hP.1
  have hw := hI.w hr
  have hset := hI.s
  have hkp := phz_rng hI hr (d := d) (k := kd) (by omega) (by omega)
  have eR : rCalm a p q h = if ¬ ((0 ≤ p ∧ p ≤ 3) ∧ (0 ≤ q ∧ q ≤ 3)) then -1 else if ¬ (1 ≤ h ∧ h ≤ 99) then -2 else if 9999 < a (25344 + (p * 4 + q)) + a (25360 + (p * 4 + q)) + h then -3 else a (25344 + (p * 4 + q)) + a (25360 + (p * 4 + q)) + h := rfl
  refine V.aload_n (q := 217) F dL_does_216 rfl rfl rfl ?_
  refine V.iload (q := 219) F dL_does_217 rfl rfl ?_
  refine V.iload (q := 221) F dL_does_219 rfl rfl ?_
  refine V.iconst (q := 222) F dL_does_221 rfl ?_
  refine V.callX (q := 225) F 27 rfl nd27 dL_does_222 rfl (c_X6_rose l G A a κ.1.1 R sn t κ.1.2.1 κ.1.2.2.1 κ.1.2.2.2.1 κ.1.2.2.2.2 κ.2.1.1 κ.2.1.2.1 κ.2.1.2.2 κ.2.2.1.1 κ.2.2.1.2.1 κ.2.2.1.2.2 κ.2.2.2.1.1 κ.2.2.2.1.2.1 κ.2.2.2.1.2.2 o s bb n κ.2.2.2.2.1 κ.2.2.2.2.2.1 κ.2.2.2.2.2.2.1 κ.2.2.2.2.2.2.2.1 κ.2.2.2.2.2.2.2.2.1 κ.2.2.2.2.2.2.2.2.2.1 κ.2.2.2.2.2.2.2.2.2.2.1 κ.2.2.2.2.2.2.2.2.2.2.2 p q 2 hP.1 hP.2.2.2.1 hP.2.2.2.2 hbb hn ht (by omega) (by omega) (by omega)) gL_does_X6_rose rfl rfl ydX6_rose ⟨Nat.le_of_ble_eq_true rfl, Nat.le_of_ble_eq_true rfl⟩ (ci := 6) rfl rfl rfl rfl (Nat.le_of_ble_eq_true rfl) ⟨Nat.le_of_ble_eq_true rfl, Nat.le_of_ble_eq_true rfl⟩ (fun r9 w9 h9 => ?_)
  rw [rRose_2 (a := a) (p := p) (q := q) (by omega) (by omega)] at h9
  obtain ⟨κ, rfl, rfl⟩ := h9
  refine V.eq (pc' := 225) (st' := [_]) (ws' := WX A G a o s R bb sn t n κ ++ [(wa, aI G 48 wf)]) rfl rfl rfl rfl ?_
  refine V.istore (q := 227) (lo' := [_, _, _, _, _, _, _, _, _, _, _, _, _, _, _, _, _, _, _, _, _, _]) F dL_does_225 rfl (Nat.le_of_ble_eq_true rfl) rfl rfl ?_
  refine V.aload_n (q := 228) F dL_does_227 rfl rfl rfl ?_
  refine V.iload (q := 230) F dL_does_228 rfl rfl ?_
  refine V.iload (q := 232) F dL_does_230 rfl rfl ?_
  refine V.iload (q := 234) F dL_does_232 rfl rfl ?_
  refine V.callX (q := 237) F 27 rfl nd27 dL_does_234 rfl (c_X6_calm l G A a κ.1.1 R sn t κ.1.2.1 κ.1.2.2.1 κ.1.2.2.2.1 κ.1.2.2.2.2 κ.2.1.1 κ.2.1.2.1 κ.2.1.2.2 κ.2.2.1.1 κ.2.2.1.2.1 κ.2.2.1.2.2 κ.2.2.2.1.1 κ.2.2.2.1.2.1 κ.2.2.2.1.2.2 o s bb n κ.2.2.2.2.1 κ.2.2.2.2.2.1 κ.2.2.2.2.2.2.1 κ.2.2.2.2.2.2.2.1 κ.2.2.2.2.2.2.2.2.1 κ.2.2.2.2.2.2.2.2.2.1 κ.2.2.2.2.2.2.2.2.2.2.1 κ.2.2.2.2.2.2.2.2.2.2.2 p q h hP.1 hP.2.2.2.1 hP.2.2.2.2 hbb hn ht (by omega) (by omega) (by omega)) gL_does_X6_calm rfl rfl ydX6_calm ⟨Nat.le_of_ble_eq_true rfl, Nat.le_of_ble_eq_true rfl⟩ (ci := 6) rfl rfl rfl rfl (Nat.le_of_ble_eq_true rfl) ⟨Nat.le_of_ble_eq_true rfl, Nat.le_of_ble_eq_true rfl⟩ (fun r9 w9 h9 => ?_)
  obtain ⟨κ, rfl, hneg, hpos⟩ := h9
  rcases Int.lt_or_le (rCalm a p q h) 0 with hs | hs
  · have e9 := hneg hs
    subst e9
    refine V.eq (pc' := 237) (st' := [_]) (ws' := WX A G a o s R bb sn t n κ ++ [(wa, aI G 48 wf)]) rfl rfl rfl rfl ?_
    have J252 : ∀ (x252 : Int) (κ : Scr) (hx252 : x252 = if ft = 0 then -3 else a (25344 + (p * 4 + q)) + a (25360 + (p * 4 + q)) + h), V X (YL_does l G) 0 0 252 [some (.ref (A 0)), some (.int (zI v)), some (.int (zI w)), some (.ref wa), some (.int (zI p)), some (.int (zI q)), some (.int (zI d)), some (.int (zI x)), some (.int (zI h)), some (.int (zI (a (25344 + (p * 4 + q)) + a (25360 + (p * 4 + q))))), some (.int (zI kd)), some (.int (zI (phz a (p * 4 + q) d kd))), some (.int (zI ft)), some (.int (zI (a (25360 + (p * 4 + q))))), none, none, none, none, none, none, none, none] [.int (zI x252), .int (zI (rCalm a p q h))] (WX A G a o s R bb sn t n κ ++ [(wa, aI G 48 wf)]) := by
      intro x252 κ hx252
      refine V.icmp_ne (q := 255) (tgt := 286) F dL_does_252 rfl (by decide) (by omega) (fun k252 => by exfalso; omega) (fun k252 => ?_)
      refine V.aload_n (q := 256) F dL_does_255 rfl rfl rfl ?_
      refine V.iload (q := 258) F dL_does_256 rfl rfl ?_
      refine V.iload (q := 260) F dL_does_258 rfl rfl ?_
      refine V.iconst (q := 261) F dL_does_260 rfl ?_
      refine V.callX (q := 264) F 27 rfl nd27 dL_does_261 rfl (c_X6_rose l G A a κ.1.1 R sn t κ.1.2.1 κ.1.2.2.1 κ.1.2.2.2.1 κ.1.2.2.2.2 κ.2.1.1 κ.2.1.2.1 κ.2.1.2.2 κ.2.2.1.1 κ.2.2.1.2.1 κ.2.2.1.2.2 κ.2.2.2.1.1 κ.2.2.2.1.2.1 κ.2.2.2.1.2.2 o s bb n κ.2.2.2.2.1 κ.2.2.2.2.2.1 κ.2.2.2.2.2.2.1 κ.2.2.2.2.2.2.2.1 κ.2.2.2.2.2.2.2.2.1 κ.2.2.2.2.2.2.2.2.2.1 κ.2.2.2.2.2.2.2.2.2.2.1 κ.2.2.2.2.2.2.2.2.2.2.2 p q 2 hP.1 hP.2.2.2.1 hP.2.2.2.2 hbb hn ht (by omega) (by omega) (by omega)) gL_does_X6_rose rfl rfl ydX6_rose ⟨Nat.le_of_ble_eq_true rfl, Nat.le_of_ble_eq_true rfl⟩ (ci := 6) rfl rfl rfl rfl (Nat.le_of_ble_eq_true rfl) ⟨Nat.le_of_ble_eq_true rfl, Nat.le_of_ble_eq_true rfl⟩ (fun r9 w9 h9 => ?_)
      rw [rRose_2 (a := a) (p := p) (q := q) (by omega) (by omega)] at h9
      obtain ⟨κ, rfl, rfl⟩ := h9
      refine V.eq (pc' := 264) (st' := [_]) (ws' := WX A G a o s R bb sn t n κ ++ [(wa, aI G 48 wf)]) rfl rfl rfl rfl ?_
      have J279 : ∀ (x279 : Int) (κ : Scr) (hx279 : x279 = if ft = 0 then a (25360 + (p * 4 + q)) else a (25360 + (p * 4 + q)) + h), V X (YL_does l G) 0 0 279 [some (.ref (A 0)), some (.int (zI v)), some (.int (zI w)), some (.ref wa), some (.int (zI p)), some (.int (zI q)), some (.int (zI d)), some (.int (zI x)), some (.int (zI h)), some (.int (zI (a (25344 + (p * 4 + q)) + a (25360 + (p * 4 + q))))), some (.int (zI kd)), some (.int (zI (phz a (p * 4 + q) d kd))), some (.int (zI ft)), some (.int (zI (a (25360 + (p * 4 + q))))), none, none, none, none, none, none, none, none] [.int (zI x279), .int (zI (a (25360 + (p * 4 + q))))] (WX A G a o s R bb sn t n κ ++ [(wa, aI G 48 wf)]) := by
        intro x279 κ hx279
        refine V.icmp_ne (q := 282) (tgt := 286) F dL_does_279 rfl (by decide) (by omega) (fun k279 => by exfalso; omega) (fun k279 => ?_)
        refine V.iconst (q := 283) F dL_does_282 rfl ?_
        refine V.goto (tgt := 287) F dL_does_283 (by decide) ?_
        exact V.zret F T (Or.inr rfl) dL_does_287 ⟨κ, _, _, _, _, _, rfl, (hP.up (by omega)), rfl⟩ [(A 0), (A 1), (A 2), (A 3), (A 4), (A 5), (A 6), (A 7), (A 8), (A 9), (A 10), (A 11), (A 12), (A 13), (A 14), (A 15), (A 16), (A 17), (A 18), (A 19), (A 20), (A 21), (A 22), (A 23), (A 24), (A 25), (A 26), wa] rfl hwc
      refine V.iload (q := 266) F dL_does_264 rfl rfl ?_
      refine V.if_eq (q := 269) (tgt := 277) F dL_does_266 rfl (by decide) (by omega) (fun k266 => ?_) (fun k266 => ?_)
      · refine V.iload (q := 279) F dL_does_277 rfl rfl ?_
        exact J279 _ _ (by omega)
      · refine V.iload (q := 271) F dL_does_269 rfl rfl ?_
        refine V.iload (q := 273) F dL_does_271 rfl rfl ?_
        refine V.iadd (q := 274) F dL_does_273 rfl ?_
        refine V.goto (tgt := 279) F dL_does_274 (by decide) ?_
        exact J279 _ _ (by omega)
    refine V.iload (q := 239) F dL_does_237 rfl rfl ?_
    refine V.if_eq (q := 242) (tgt := 250) F dL_does_239 rfl (by decide) (by omega) (fun k239 => ?_) (fun k239 => ?_)
    · refine V.bipush (q := 252) F dL_does_250 rfl (by decide) ?_
      exact J252 _ _ (by omega)
    · refine V.iload (q := 244) F dL_does_242 rfl rfl ?_
      refine V.iload (q := 246) F dL_does_244 rfl rfl ?_
      refine V.iadd (q := 247) F dL_does_246 rfl ?_
      refine V.goto (tgt := 252) F dL_does_247 (by decide) ?_
      exact J252 _ _ (by omega)
  · have e9 := hpos hs
    subst e9
    refine V.eq (pc' := 237) (st' := [_]) (ws' := WX A G (upz a (25360 + (p * 4 + q)) (a (25360 + (p * 4 + q)) + h)) (oN o s) (sN s) (RN a o s R) bb sn t n κ ++ [(wa, aI G 48 wf)]) rfl rfl rfl rfl ?_
    have hP2 : PI N (upz a (25360 + (p * 4 + q)) (a (25360 + (p * 4 + q)) + h)) (oN o s) (sN s) := hP.low (inv_calm hI hs) (fun r9 g1 g2 => upz_ne _ _ _ (by omega)) (upz_ne _ _ _ (by omega)) (upz_ne _ _ _ (by omega))
    have hc2 : (upz a (25360 + (p * 4 + q)) (a (25360 + (p * 4 + q)) + h)) (25360 + (p * 4 + q)) = a (25360 + (p * 4 + q)) + h := upz_eq _ _ _
    have J252 : ∀ (x252 : Int) (κ : Scr) (hx252 : x252 = if ft = 0 then -3 else a (25344 + (p * 4 + q)) + a (25360 + (p * 4 + q)) + h), V X (YL_does l G) 0 0 252 [some (.ref (A 0)), some (.int (zI v)), some (.int (zI w)), some (.ref wa), some (.int (zI p)), some (.int (zI q)), some (.int (zI d)), some (.int (zI x)), some (.int (zI h)), some (.int (zI (a (25344 + (p * 4 + q)) + a (25360 + (p * 4 + q))))), some (.int (zI kd)), some (.int (zI (phz a (p * 4 + q) d kd))), some (.int (zI ft)), some (.int (zI (a (25360 + (p * 4 + q))))), none, none, none, none, none, none, none, none] [.int (zI x252), .int (zI (rCalm a p q h))] (WX A G (upz a (25360 + (p * 4 + q)) (a (25360 + (p * 4 + q)) + h)) (oN o s) (sN s) (RN a o s R) bb sn t n κ ++ [(wa, aI G 48 wf)]) := by
      intro x252 κ hx252
      refine V.icmp_ne (q := 255) (tgt := 286) F dL_does_252 rfl (by decide) (by omega) (fun k252 => by exfalso; omega) (fun k252 => ?_)
      refine V.aload_n (q := 256) F dL_does_255 rfl rfl rfl ?_
      refine V.iload (q := 258) F dL_does_256 rfl rfl ?_
      refine V.iload (q := 260) F dL_does_258 rfl rfl ?_
      refine V.iconst (q := 261) F dL_does_260 rfl ?_
      refine V.callX (q := 264) F 27 rfl nd27 dL_does_261 rfl (c_X6_rose l G A (upz a (25360 + (p * 4 + q)) (a (25360 + (p * 4 + q)) + h)) κ.1.1 (RN a o s R) sn t κ.1.2.1 κ.1.2.2.1 κ.1.2.2.2.1 κ.1.2.2.2.2 κ.2.1.1 κ.2.1.2.1 κ.2.1.2.2 κ.2.2.1.1 κ.2.2.1.2.1 κ.2.2.1.2.2 κ.2.2.2.1.1 κ.2.2.2.1.2.1 κ.2.2.2.1.2.2 (oN o s) (sN s) bb n κ.2.2.2.2.1 κ.2.2.2.2.2.1 κ.2.2.2.2.2.2.1 κ.2.2.2.2.2.2.2.1 κ.2.2.2.2.2.2.2.2.1 κ.2.2.2.2.2.2.2.2.2.1 κ.2.2.2.2.2.2.2.2.2.2.1 κ.2.2.2.2.2.2.2.2.2.2.2 p q 2 hP2.1 hP2.2.2.2.1 hP2.2.2.2.2 hbb hn ht (by omega) (by omega) (by omega)) gL_does_X6_rose rfl rfl ydX6_rose ⟨Nat.le_of_ble_eq_true rfl, Nat.le_of_ble_eq_true rfl⟩ (ci := 6) rfl rfl rfl rfl (Nat.le_of_ble_eq_true rfl) ⟨Nat.le_of_ble_eq_true rfl, Nat.le_of_ble_eq_true rfl⟩ (fun r9 w9 h9 => ?_)
      rw [rRose_2 (a := (upz a (25360 + (p * 4 + q)) (a (25360 + (p * 4 + q)) + h))) (p := p) (q := q) (by omega) (by omega)] at h9
      obtain ⟨κ, rfl, rfl⟩ := h9
      refine V.eq (pc' := 264) (st' := [_]) (ws' := WX A G (upz a (25360 + (p * 4 + q)) (a (25360 + (p * 4 + q)) + h)) (oN o s) (sN s) (RN a o s R) bb sn t n κ ++ [(wa, aI G 48 wf)]) rfl rfl rfl rfl ?_
      have J279 : ∀ (x279 : Int) (κ : Scr) (hx279 : x279 = if ft = 0 then a (25360 + (p * 4 + q)) else a (25360 + (p * 4 + q)) + h), V X (YL_does l G) 0 0 279 [some (.ref (A 0)), some (.int (zI v)), some (.int (zI w)), some (.ref wa), some (.int (zI p)), some (.int (zI q)), some (.int (zI d)), some (.int (zI x)), some (.int (zI h)), some (.int (zI (a (25344 + (p * 4 + q)) + a (25360 + (p * 4 + q))))), some (.int (zI kd)), some (.int (zI (phz a (p * 4 + q) d kd))), some (.int (zI ft)), some (.int (zI (a (25360 + (p * 4 + q))))), none, none, none, none, none, none, none, none] [.int (zI x279), .int (zI ((upz a (25360 + (p * 4 + q)) (a (25360 + (p * 4 + q)) + h)) (25360 + (p * 4 + q))))] (WX A G (upz a (25360 + (p * 4 + q)) (a (25360 + (p * 4 + q)) + h)) (oN o s) (sN s) (RN a o s R) bb sn t n κ ++ [(wa, aI G 48 wf)]) := by
        intro x279 κ hx279
        refine V.icmp_ne (q := 282) (tgt := 286) F dL_does_279 rfl (by decide) (by omega) (fun k279 => by exfalso; omega) (fun k279 => ?_)
        refine V.iconst (q := 283) F dL_does_282 rfl ?_
        refine V.goto (tgt := 287) F dL_does_283 (by decide) ?_
        exact V.zret F T (Or.inr rfl) dL_does_287 ⟨κ, _, _, _, _, _, rfl, (hP2.up (by omega)), rfl⟩ [(A 0), (A 1), (A 2), (A 3), (A 4), (A 5), (A 6), (A 7), (A 8), (A 9), (A 10), (A 11), (A 12), (A 13), (A 14), (A 15), (A 16), (A 17), (A 18), (A 19), (A 20), (A 21), (A 22), (A 23), (A 24), (A 25), (A 26), wa] rfl hwc
      refine V.iload (q := 266) F dL_does_264 rfl rfl ?_
      refine V.if_eq (q := 269) (tgt := 277) F dL_does_266 rfl (by decide) (by omega) (fun k266 => ?_) (fun k266 => ?_)
      · refine V.iload (q := 279) F dL_does_277 rfl rfl ?_
        exact J279 _ _ (by omega)
      · refine V.iload (q := 271) F dL_does_269 rfl rfl ?_
        refine V.iload (q := 273) F dL_does_271 rfl rfl ?_
        refine V.iadd (q := 274) F dL_does_273 rfl ?_
        refine V.goto (tgt := 279) F dL_does_274 (by decide) ?_
        exact J279 _ _ (by omega)
    refine V.iload (q := 239) F dL_does_237 rfl rfl ?_
    refine V.if_eq (q := 242) (tgt := 250) F dL_does_239 rfl (by decide) (by omega) (fun k239 => ?_) (fun k239 => ?_)
    · refine V.bipush (q := 252) F dL_does_250 rfl (by decide) ?_
      exact J252 _ _ (by omega)
    · refine V.iload (q := 244) F dL_does_242 rfl rfl ?_
      refine V.iload (q := 246) F dL_does_244 rfl rfl ?_
      refine V.iadd (q := 247) F dL_does_246 rfl ?_
      refine V.goto (tgt := 252) F dL_does_247 (by decide) ?_
      exact J252 _ _ (by omega)

set_option maxHeartbeats 4000000 in
set_option maxRecDepth 20000 in
theorem dc_288 {X : Cx} {l : Launch} {G : Gx} {A : Nat → Nat} {wa : Nat} {wc : va_W} {a R sn t wf : Int → Int} {o s bb n N v w p q d x h kd ft : Int} {κ : Scr} (F : Fx X (YL_does l G)) (hwc : wc.map Prod.fst = [(A 0), (A 1), (A 2), (A 3), (A 4), (A 5), (A 6), (A 7), (A 8), (A 9), (A 10), (A 11), (A 12), (A 13), (A 14), (A 15), (A 16), (A 17), (A 18), (A 19), (A 20), (A 21), (A 22), (A 23), (A 24), (A 25), (A 26), wa]) (T : Rt X (YL_does l G) (some .boolean) wc (DoX A G wa (N + 1) bb sn t n)) (hP : PI N a o s) (hbb : 0 ≤ bb ∧ bb ≤ 1) (hn : 0 ≤ n ∧ n ≤ 80) (ht : ∀ j, 0 ≤ t j ∧ t j < 65536) (hN : 0 ≤ N ∧ N ≤ 1000) (hv : -2147483648 ≤ v ∧ v < 2147483648) (hw9 : -2147483648 ≤ w ∧ w < 2147483648) (hp : 0 ≤ p ∧ p ≤ 3) (hq4 : 0 ≤ q ∧ q ≤ 3) (hd : 0 ≤ d ∧ d ≤ 15) (hx : 1 ≤ x ∧ x ≤ 99) (hh : 1 ≤ h ∧ h ≤ 99) (hkd : kd = if x < a 26176 then 0 else if x < a 26177 then 1 else 2) (hft : ft = if a (25344 + (p * 4 + q)) + a (25360 + (p * 4 + q)) + h ≤ 9999 then 1 else 0) : V X (YL_does l G) 0 0 288 [some (.ref (A 0)), some (.int (zI v)), some (.int (zI w)), some (.ref wa), some (.int (zI p)), some (.int (zI q)), some (.int (zI d)), some (.int (zI x)), some (.int (zI h)), some (.int (zI (a (25344 + (p * 4 + q)) + a (25360 + (p * 4 + q))))), some (.int (zI kd)), some (.int (zI (phz a (p * 4 + q) d kd))), some (.int (zI ft)), none, none, none, none, none, none, none, none, none] [] (WX A G a o s R bb sn t n κ ++ [(wa, aI G 48 wf)]) := by
  have hr : 0 ≤ p * 4 + q ∧ p * 4 + q < 16 := by omega
  have hI := hP.1
  have hw := hI.w hr
  have hset := hI.s
  have hkp := phz_rng hI hr (d := d) (k := kd) (by omega) (by omega)
  have eR : rStrike a p q d x = if ¬ (((0 ≤ p ∧ p ≤ 3) ∧ (0 ≤ q ∧ q ≤ 3)) ∧ (0 ≤ d ∧ d ≤ 15)) then -1 else if ¬ (1 ≤ x ∧ x ≤ 99) then -2 else if a ((p * 4 + q) * 1584 + d * 99 + x - 1) = 0 then -5 else a ((p * 4 + q) * 1584 + d * 99 + x - 1) := rfl
  have hce := hI.1 ((p * 4 + q) * 1584 + d * 99 + x - 1)
  have hd16 : 0 ≤ d ∧ d < 16 := by omega
  have hcl : a ((p * 4 + q) * 1584 + d * 99 + x - 1) ≤ 9999 := by
    have h1 : a ((p * 4 + q) * 1584 + d * 99 + x - 1) ≤ sz a ((p * 4 + q) * 1584) ((p * 4 + q) * 1584 + 1584) := sz_mem (fun j _ _ => hI.1 j) (by omega) (by omega)
    rw [← (hI.2.1 _ hr.1 hr.2).1] at h1
    omega
  refine V.aload_n (q := 289) F dL_does_288 rfl rfl rfl ?_
  refine V.iload (q := 291) F dL_does_289 rfl rfl ?_
  refine V.iload (q := 293) F dL_does_291 rfl rfl ?_
  refine V.iload (q := 295) F dL_does_293 rfl rfl ?_
  refine V.iload (q := 297) F dL_does_295 rfl rfl ?_
  refine V.callX (q := 300) F 27 rfl nd27 dL_does_297 rfl (c_X6_strike l G A a κ.1.1 R sn t κ.1.2.1 κ.1.2.2.1 κ.1.2.2.2.1 κ.1.2.2.2.2 κ.2.1.1 κ.2.1.2.1 κ.2.1.2.2 κ.2.2.1.1 κ.2.2.1.2.1 κ.2.2.1.2.2 κ.2.2.2.1.1 κ.2.2.2.1.2.1 κ.2.2.2.1.2.2 o s bb n κ.2.2.2.2.1 κ.2.2.2.2.2.1 κ.2.2.2.2.2.2.1 κ.2.2.2.2.2.2.2.1 κ.2.2.2.2.2.2.2.2.1 κ.2.2.2.2.2.2.2.2.2.1 κ.2.2.2.2.2.2.2.2.2.2.1 κ.2.2.2.2.2.2.2.2.2.2.2 p q d x hP.1 hP.2.2.2.1 hP.2.2.2.2 hbb hn ht (by omega) (by omega) (by omega) (by omega)) gL_does_X6_strike rfl rfl ydX6_strike ⟨Nat.le_of_ble_eq_true rfl, Nat.le_of_ble_eq_true rfl⟩ (ci := 6) rfl rfl rfl rfl (Nat.le_of_ble_eq_true rfl) ⟨Nat.le_of_ble_eq_true rfl, Nat.le_of_ble_eq_true rfl⟩ (fun r9 w9 h9 => ?_)
  obtain ⟨κ, rfl, hneg, hpos⟩ := h9
  rcases Int.lt_or_le (rStrike a p q d x) 0 with hs | hs
  · have e9 := hneg hs
    subst e9
    refine V.eq (pc' := 300) (st' := [_]) (ws' := WX A G a o s R bb sn t n κ ++ [(wa, aI G 48 wf)]) rfl rfl rfl rfl ?_
    refine V.istore (q := 302) (lo' := [_, _, _, _, _, _, _, _, _, _, _, _, _, _, _, _, _, _, _, _, _, _]) F dL_does_300 rfl (Nat.le_of_ble_eq_true rfl) rfl rfl ?_
    refine V.iload (q := 304) F dL_does_302 rfl rfl ?_
    refine V.bipush (q := 306) F dL_does_304 rfl (by decide) ?_
    refine V.icmp_ne (q := 309) (tgt := 334) F dL_does_306 rfl (by decide) (by omega) (fun k306 => by exfalso; omega) (fun k306 => ?_)
    refine V.aload_n (q := 310) F dL_does_309 rfl rfl rfl ?_
    refine V.iload (q := 312) F dL_does_310 rfl rfl ?_
    refine V.iload (q := 314) F dL_does_312 rfl rfl ?_
    refine V.iload (q := 316) F dL_does_314 rfl rfl ?_
    refine V.iload (q := 318) F dL_does_316 rfl rfl ?_
    refine V.callX (q := 321) F 27 rfl nd27 dL_does_318 rfl (c_X6_hours l G A a κ.1.1 R sn t κ.1.2.1 κ.1.2.2.1 κ.1.2.2.2.1 κ.1.2.2.2.2 κ.2.1.1 κ.2.1.2.1 κ.2.1.2.2 κ.2.2.1.1 κ.2.2.1.2.1 κ.2.2.1.2.2 κ.2.2.2.1.1 κ.2.2.2.1.2.1 κ.2.2.2.1.2.2 o s bb n κ.2.2.2.2.1 κ.2.2.2.2.2.1 κ.2.2.2.2.2.2.1 κ.2.2.2.2.2.2.2.1 κ.2.2.2.2.2.2.2.2.1 κ.2.2.2.2.2.2.2.2.2.1 κ.2.2.2.2.2.2.2.2.2.2.1 κ.2.2.2.2.2.2.2.2.2.2.2 p q d kd hP.1 hP.2.2.2.1 hP.2.2.2.2 hbb hn ht (by omega) (by omega) (by omega) (by omega)) gL_does_X6_hours rfl rfl ydX6_hours ⟨Nat.le_of_ble_eq_true rfl, Nat.le_of_ble_eq_true rfl⟩ (ci := 6) rfl rfl rfl rfl (Nat.le_of_ble_eq_true rfl) ⟨Nat.le_of_ble_eq_true rfl, Nat.le_of_ble_eq_true rfl⟩ (fun r9 w9 h9 => ?_)
    rw [rHours_k (a := a) (p := p) (q := q) (by omega) (by omega) (d := d) (k := kd) (by omega) (by omega)] at h9
    obtain ⟨κ, rfl, rfl⟩ := h9
    refine V.eq (pc' := 321) (st' := [_]) (ws' := WX A G a o s R bb sn t n κ ++ [(wa, aI G 48 wf)]) rfl rfl rfl rfl ?_
    refine V.iload (q := 323) F dL_does_321 rfl rfl ?_
    refine V.icmp_ne (q := 326) (tgt := 330) F dL_does_323 rfl (by decide) (by omega) (fun k323 => by exfalso; omega) (fun k323 => ?_)
    refine V.iconst (q := 327) F dL_does_326 rfl ?_
    refine V.goto (tgt := 398) F dL_does_327 (by decide) ?_
    exact V.zret F T (Or.inr rfl) dL_does_398 ⟨κ, _, _, _, _, _, rfl, (hP.up (by omega)), rfl⟩ [(A 0), (A 1), (A 2), (A 3), (A 4), (A 5), (A 6), (A 7), (A 8), (A 9), (A 10), (A 11), (A 12), (A 13), (A 14), (A 15), (A 16), (A 17), (A 18), (A 19), (A 20), (A 21), (A 22), (A 23), (A 24), (A 25), (A 26), wa] rfl hwc
  · have e9 := hpos hs
    subst e9
    refine V.eq (pc' := 300) (st' := [_]) (ws' := WX A G (addW a (p * 4 + q) d x (-a ((p * 4 + q) * 1584 + d * 99 + x - 1))) (oN o s) (sN s) (RN a o s R) bb sn t n κ ++ [(wa, aI G 48 wf)]) rfl rfl rfl rfl ?_
    have hat := addW_at (a := a) (h := -a ((p * 4 + q) * 1584 + d * 99 + x - 1)) hr hd16 hx
    have hP2 : PI N (addW a (p * 4 + q) d x (-a ((p * 4 + q) * 1584 + d * 99 + x - 1))) (oN o s) (sN s) := hP.aW hr hd16 hx (inv_strike hI hs)
    have hpa := phz_add (h := -a ((p * 4 + q) * 1584 + d * 99 + x - 1)) hI hr hd16 hx
    rw [← hkd] at hpa
    have hW1 : (addW a (p * 4 + q) d x (-a ((p * 4 + q) * 1584 + d * 99 + x - 1))) (25344 + (p * 4 + q)) = a (25344 + (p * 4 + q)) + -a ((p * 4 + q) * 1584 + d * 99 + x - 1) := by rw [hat, if_pos rfl]
    have hC1 : (addW a (p * 4 + q) d x (-a ((p * 4 + q) * 1584 + d * 99 + x - 1))) (25360 + (p * 4 + q)) = a (25360 + (p * 4 + q)) := by rw [hat, if_neg (by omega), if_neg (by omega)]
    have hc1 : (addW a (p * 4 + q) d x (-a ((p * 4 + q) * 1584 + d * 99 + x - 1))) ((p * 4 + q) * 1584 + d * 99 + x - 1) = 0 := by rw [hat, if_neg (by omega), if_pos rfl]; omega
    have hk2 : (addW a (p * 4 + q) d x (-a ((p * 4 + q) * 1584 + d * 99 + x - 1))) 26176 = a 26176 ∧ (addW a (p * 4 + q) d x (-a ((p * 4 + q) * 1584 + d * 99 + x - 1))) 26177 = a 26177 := ⟨by rw [hat, if_neg (by omega), if_neg (by omega)], by rw [hat, if_neg (by omega), if_neg (by omega)]⟩
    refine V.istore (q := 302) (lo' := [_, _, _, _, _, _, _, _, _, _, _, _, _, _, _, _, _, _, _, _, _, _]) F dL_does_300 rfl (Nat.le_of_ble_eq_true rfl) rfl rfl ?_
    refine V.iload (q := 304) F dL_does_302 rfl rfl ?_
    refine V.bipush (q := 306) F dL_does_304 rfl (by decide) ?_
    refine V.icmp_ne (q := 309) (tgt := 334) F dL_does_306 rfl (by decide) (by omega) (fun k306 => ?_) (fun k306 => by exfalso; omega)
    refine V.iload (q := 336) F dL_does_334 rfl rfl ?_
    refine V.if_le (q := 339) (tgt := 397) F dL_does_336 rfl (by decide) (by omega) (fun k336 => by exfalso; omega) (fun k336 => ?_)
    refine V.aload_n (q := 340) F dL_does_339 rfl rfl rfl ?_
    refine V.iload (q := 342) F dL_does_340 rfl rfl ?_
    refine V.iload (q := 344) F dL_does_342 rfl rfl ?_
    refine V.iload (q := 346) F dL_does_344 rfl rfl ?_
    refine V.iload (q := 348) F dL_does_346 rfl rfl ?_
    refine V.callX (q := 351) F 27 rfl nd27 dL_does_348 rfl (c_X6_hours l G A (addW a (p * 4 + q) d x (-a ((p * 4 + q) * 1584 + d * 99 + x - 1))) κ.1.1 (RN a o s R) sn t κ.1.2.1 κ.1.2.2.1 κ.1.2.2.2.1 κ.1.2.2.2.2 κ.2.1.1 κ.2.1.2.1 κ.2.1.2.2 κ.2.2.1.1 κ.2.2.1.2.1 κ.2.2.1.2.2 κ.2.2.2.1.1 κ.2.2.2.1.2.1 κ.2.2.2.1.2.2 (oN o s) (sN s) bb n κ.2.2.2.2.1 κ.2.2.2.2.2.1 κ.2.2.2.2.2.2.1 κ.2.2.2.2.2.2.2.1 κ.2.2.2.2.2.2.2.2.1 κ.2.2.2.2.2.2.2.2.2.1 κ.2.2.2.2.2.2.2.2.2.2.1 κ.2.2.2.2.2.2.2.2.2.2.2 p q d kd hP2.1 hP2.2.2.2.1 hP2.2.2.2.2 hbb hn ht (by omega) (by omega) (by omega) (by omega)) gL_does_X6_hours rfl rfl ydX6_hours ⟨Nat.le_of_ble_eq_true rfl, Nat.le_of_ble_eq_true rfl⟩ (ci := 6) rfl rfl rfl rfl (Nat.le_of_ble_eq_true rfl) ⟨Nat.le_of_ble_eq_true rfl, Nat.le_of_ble_eq_true rfl⟩ (fun r9 w9 h9 => ?_)
    rw [rHours_k (a := (addW a (p * 4 + q) d x (-a ((p * 4 + q) * 1584 + d * 99 + x - 1)))) (p := p) (q := q) (by omega) (by omega) (d := d) (k := kd) (by omega) (by omega)] at h9
    obtain ⟨κ, rfl, rfl⟩ := h9
    refine V.eq (pc' := 351) (st' := [_]) (ws' := WX A G (addW a (p * 4 + q) d x (-a ((p * 4 + q) * 1584 + d * 99 + x - 1))) (oN o s) (sN s) (RN a o s R) bb sn t n κ ++ [(wa, aI G 48 wf)]) rfl rfl rfl rfl ?_
    refine V.iload (q := 353) F dL_does_351 rfl rfl ?_
    refine V.iload (q := 355) F dL_does_353 rfl rfl ?_
    refine V.isub (q := 356) F dL_does_355 rfl ?_
    refine V.icmp_ne (q := 359) (tgt := 397) F dL_does_356 rfl (by decide) (by omega) (fun k356 => by exfalso; omega) (fun k356 => ?_)
    refine V.aload_n (q := 360) F dL_does_359 rfl rfl rfl ?_
    refine V.iload (q := 362) F dL_does_360 rfl rfl ?_
    refine V.iload (q := 364) F dL_does_362 rfl rfl ?_
    refine V.iconst (q := 365) F dL_does_364 rfl ?_
    refine V.callX (q := 368) F 27 rfl nd27 dL_does_365 rfl (c_X6_rose l G A (addW a (p * 4 + q) d x (-a ((p * 4 + q) * 1584 + d * 99 + x - 1))) κ.1.1 (RN a o s R) sn t κ.1.2.1 κ.1.2.2.1 κ.1.2.2.2.1 κ.1.2.2.2.2 κ.2.1.1 κ.2.1.2.1 κ.2.1.2.2 κ.2.2.1.1 κ.2.2.1.2.1 κ.2.2.1.2.2 κ.2.2.2.1.1 κ.2.2.2.1.2.1 κ.2.2.2.1.2.2 (oN o s) (sN s) bb n κ.2.2.2.2.1 κ.2.2.2.2.2.1 κ.2.2.2.2.2.2.1 κ.2.2.2.2.2.2.2.1 κ.2.2.2.2.2.2.2.2.1 κ.2.2.2.2.2.2.2.2.2.1 κ.2.2.2.2.2.2.2.2.2.2.1 κ.2.2.2.2.2.2.2.2.2.2.2 p q 0 hP2.1 hP2.2.2.2.1 hP2.2.2.2.2 hbb hn ht (by omega) (by omega) (by omega)) gL_does_X6_rose rfl rfl ydX6_rose ⟨Nat.le_of_ble_eq_true rfl, Nat.le_of_ble_eq_true rfl⟩ (ci := 6) rfl rfl rfl rfl (Nat.le_of_ble_eq_true rfl) ⟨Nat.le_of_ble_eq_true rfl, Nat.le_of_ble_eq_true rfl⟩ (fun r9 w9 h9 => ?_)
    rw [rRose_0 (a := (addW a (p * 4 + q) d x (-a ((p * 4 + q) * 1584 + d * 99 + x - 1)))) (p := p) (q := q) (by omega) (by omega)] at h9
    obtain ⟨κ, rfl, rfl⟩ := h9
    refine V.eq (pc' := 368) (st' := [_]) (ws' := WX A G (addW a (p * 4 + q) d x (-a ((p * 4 + q) * 1584 + d * 99 + x - 1))) (oN o s) (sN s) (RN a o s R) bb sn t n κ ++ [(wa, aI G 48 wf)]) rfl rfl rfl rfl ?_
    refine V.iload (q := 370) F dL_does_368 rfl rfl ?_
    refine V.iload (q := 372) F dL_does_370 rfl rfl ?_
    refine V.isub (q := 373) F dL_does_372 rfl ?_
    refine V.icmp_ne (q := 376) (tgt := 397) F dL_does_373 rfl (by decide) (by omega) (fun k373 => by exfalso; omega) (fun k373 => ?_)
    refine V.aload_n (q := 377) F dL_does_376 rfl rfl rfl ?_
    refine V.iload (q := 379) F dL_does_377 rfl rfl ?_
    refine V.iload (q := 381) F dL_does_379 rfl rfl ?_
    refine V.iload (q := 383) F dL_does_381 rfl rfl ?_
    refine V.iload (q := 385) F dL_does_383 rfl rfl ?_
    refine V.callX (q := 388) F 27 rfl nd27 dL_does_385 rfl (c_X6_strike l G A (addW a (p * 4 + q) d x (-a ((p * 4 + q) * 1584 + d * 99 + x - 1))) κ.1.1 (RN a o s R) sn t κ.1.2.1 κ.1.2.2.1 κ.1.2.2.2.1 κ.1.2.2.2.2 κ.2.1.1 κ.2.1.2.1 κ.2.1.2.2 κ.2.2.1.1 κ.2.2.1.2.1 κ.2.2.1.2.2 κ.2.2.2.1.1 κ.2.2.2.1.2.1 κ.2.2.2.1.2.2 (oN o s) (sN s) bb n κ.2.2.2.2.1 κ.2.2.2.2.2.1 κ.2.2.2.2.2.2.1 κ.2.2.2.2.2.2.2.1 κ.2.2.2.2.2.2.2.2.1 κ.2.2.2.2.2.2.2.2.2.1 κ.2.2.2.2.2.2.2.2.2.2.1 κ.2.2.2.2.2.2.2.2.2.2.2 p q d x hP2.1 hP2.2.2.2.1 hP2.2.2.2.2 hbb hn ht (by omega) (by omega) (by omega) (by omega)) gL_does_X6_strike rfl rfl ydX6_strike ⟨Nat.le_of_ble_eq_true rfl, Nat.le_of_ble_eq_true rfl⟩ (ci := 6) rfl rfl rfl rfl (Nat.le_of_ble_eq_true rfl) ⟨Nat.le_of_ble_eq_true rfl, Nat.le_of_ble_eq_true rfl⟩ (fun r9 w9 h9 => ?_)
    obtain ⟨κ, rfl, hneg, hpos⟩ := h9
    have hs9 : rStrike (addW a (p * 4 + q) d x (-a ((p * 4 + q) * 1584 + d * 99 + x - 1))) p q d x = -5 := by unfold rStrike; rw [if_neg (by omega), if_neg (by omega), if_pos hc1]
    have hs : rStrike (addW a (p * 4 + q) d x (-a ((p * 4 + q) * 1584 + d * 99 + x - 1))) p q d x < 0 := by omega
    have e9 := hneg hs
    subst e9
    refine V.eq (pc' := 388) (st' := [_]) (ws' := WX A G (addW a (p * 4 + q) d x (-a ((p * 4 + q) * 1584 + d * 99 + x - 1))) (oN o s) (sN s) (RN a o s R) bb sn t n κ ++ [(wa, aI G 48 wf)]) rfl rfl rfl rfl ?_
    refine V.bipush (q := 390) F dL_does_388 rfl (by decide) ?_
    refine V.icmp_ne (q := 393) (tgt := 397) F dL_does_390 rfl (by decide) (by omega) (fun k390 => by exfalso; omega) (fun k390 => ?_)
    refine V.iconst (q := 394) F dL_does_393 rfl ?_
    refine V.goto (tgt := 398) F dL_does_394 (by decide) ?_
    exact V.zret F T (Or.inr rfl) dL_does_398 ⟨κ, _, _, _, _, _, rfl, (hP2.up (by omega)), rfl⟩ [(A 0), (A 1), (A 2), (A 3), (A 4), (A 5), (A 6), (A 7), (A 8), (A 9), (A 10), (A 11), (A 12), (A 13), (A 14), (A 15), (A 16), (A 17), (A 18), (A 19), (A 20), (A 21), (A 22), (A 23), (A 24), (A 25), (A 26), wa] rfl hwc

set_option maxHeartbeats 4000000 in
set_option maxRecDepth 20000 in
theorem dc_399 {X : Cx} {l : Launch} {G : Gx} {A : Nat → Nat} {wa : Nat} {wc : va_W} {a R sn t wf : Int → Int} {o s bb n N v w p q d x h kd ft : Int} {κ : Scr} (F : Fx X (YL_does l G)) (hwc : wc.map Prod.fst = [(A 0), (A 1), (A 2), (A 3), (A 4), (A 5), (A 6), (A 7), (A 8), (A 9), (A 10), (A 11), (A 12), (A 13), (A 14), (A 15), (A 16), (A 17), (A 18), (A 19), (A 20), (A 21), (A 22), (A 23), (A 24), (A 25), (A 26), wa]) (T : Rt X (YL_does l G) (some .boolean) wc (DoX A G wa (N + 1) bb sn t n)) (hP : PI N a o s) (hbb : 0 ≤ bb ∧ bb ≤ 1) (hn : 0 ≤ n ∧ n ≤ 80) (ht : ∀ j, 0 ≤ t j ∧ t j < 65536) (hN : 0 ≤ N ∧ N ≤ 1000) (hv : -2147483648 ≤ v ∧ v < 2147483648) (hw9 : -2147483648 ≤ w ∧ w < 2147483648) (hp : 0 ≤ p ∧ p ≤ 3) (hq4 : 0 ≤ q ∧ q ≤ 3) (hd : 0 ≤ d ∧ d ≤ 15) (hx : 1 ≤ x ∧ x ≤ 99) (hh : 1 ≤ h ∧ h ≤ 99) (hkd : kd = if x < a 26176 then 0 else if x < a 26177 then 1 else 2) (hft : ft = if a (25344 + (p * 4 + q)) + a (25360 + (p * 4 + q)) + h ≤ 9999 then 1 else 0) : V X (YL_does l G) 0 0 399 [some (.ref (A 0)), some (.int (zI v)), some (.int (zI w)), some (.ref wa), some (.int (zI p)), some (.int (zI q)), some (.int (zI d)), some (.int (zI x)), some (.int (zI h)), some (.int (zI (a (25344 + (p * 4 + q)) + a (25360 + (p * 4 + q))))), some (.int (zI kd)), some (.int (zI (phz a (p * 4 + q) d kd))), some (.int (zI ft)), none, none, none, none, none, none, none, none, none] [] (WX A G a o s R bb sn t n κ ++ [(wa, aI G 48 wf)]) := by
  have hr : 0 ≤ p * 4 + q ∧ p * 4 + q < 16 := by omega
  have hI := hP.1
  have hw := hI.w hr
  have hset := hI.s
  have hkp := phz_rng hI hr (d := d) (k := kd) (by omega) (by omega)
  refine V.aload_n (q := 400) F dL_does_399 rfl rfl rfl ?_
  refine V.iload (q := 402) F dL_does_400 rfl rfl ?_
  refine V.iload (q := 404) F dL_does_402 rfl rfl ?_
  refine V.iconst (q := 405) F dL_does_404 rfl ?_
  refine V.iload_n (q := 406) F dL_does_405 rfl rfl rfl ?_
  refine V.bipush (q := 408) F dL_does_406 rfl (by decide) ?_
  refine V.callS (q := 411) F [] dL_does_408 rfl (c_L_low l G w 15 (by omega) (by omega)) gL_does_L_low rfl ydL_low ⟨Nat.le_of_ble_eq_true rfl, Nat.le_of_ble_eq_true rfl⟩ rfl rfl (Nat.le_of_ble_eq_true rfl) rfl rfl ⟨Nat.le_of_ble_eq_true rfl, Nat.le_of_ble_eq_true rfl⟩ (kkf (st' := [_, _, _, _, _]) (ws' := WX A G a o s R bb sn t n κ ++ [(wa, aI G 48 wf)]) rfl rfl ?_)
  refine V.iadd (q := 412) F dL_does_411 rfl ?_
  refine V.aload_n (q := 413) F dL_does_412 rfl rfl rfl ?_
  refine V.callS0 (q := 416) F 28 rfl nd28 dL_does_413 rfl (c_L_isTurned l G A wa a R sn t wf o s bb n N p q (1 + (w % 2147483648 % 15)) κ hP hbb hn ht hp hq4 (by omega)) gL_does_L_isTurned rfl ydL_isTurned ⟨Nat.le_of_ble_eq_true rfl, Nat.le_of_ble_eq_true rfl⟩ rfl rfl (Nat.le_of_ble_eq_true rfl) ⟨Nat.le_of_ble_eq_true rfl, Nat.le_of_ble_eq_true rfl⟩ (fun r9 w9 h9 => ?_)
  obtain ⟨κ, a2, R2, wf2, o2, s2, rfl, hP2, rfl⟩ := h9
  refine V.eq (pc' := 416) (st' := [_]) (ws' := WX A G a2 o2 s2 R2 bb sn t n κ ++ [(wa, aI G 48 wf2)]) rfl rfl rfl rfl ?_
  exact V.zret F T (Or.inr rfl) dL_does_416 ⟨κ, _, _, _, _, _, rfl, (hP2.up (by omega)), rfl⟩ [(A 0), (A 1), (A 2), (A 3), (A 4), (A 5), (A 6), (A 7), (A 8), (A 9), (A 10), (A 11), (A 12), (A 13), (A 14), (A 15), (A 16), (A 17), (A 18), (A 19), (A 20), (A 21), (A 22), (A 23), (A 24), (A 25), (A 26), wa] rfl hwc

set_option maxHeartbeats 4000000 in
set_option maxRecDepth 20000 in
theorem dc_417 {X : Cx} {l : Launch} {G : Gx} {A : Nat → Nat} {wa : Nat} {wc : va_W} {a R sn t wf : Int → Int} {o s bb n N v w p q d x h kd ft : Int} {κ : Scr} (F : Fx X (YL_does l G)) (hwc : wc.map Prod.fst = [(A 0), (A 1), (A 2), (A 3), (A 4), (A 5), (A 6), (A 7), (A 8), (A 9), (A 10), (A 11), (A 12), (A 13), (A 14), (A 15), (A 16), (A 17), (A 18), (A 19), (A 20), (A 21), (A 22), (A 23), (A 24), (A 25), (A 26), wa]) (T : Rt X (YL_does l G) (some .boolean) wc (DoX A G wa (N + 1) bb sn t n)) (hP : PI N a o s) (hbb : 0 ≤ bb ∧ bb ≤ 1) (hn : 0 ≤ n ∧ n ≤ 80) (ht : ∀ j, 0 ≤ t j ∧ t j < 65536) (hN : 0 ≤ N ∧ N ≤ 1000) (hv : -2147483648 ≤ v ∧ v < 2147483648) (hw9 : -2147483648 ≤ w ∧ w < 2147483648) (hp : 0 ≤ p ∧ p ≤ 3) (hq4 : 0 ≤ q ∧ q ≤ 3) (hd : 0 ≤ d ∧ d ≤ 15) (hx : 1 ≤ x ∧ x ≤ 99) (hh : 1 ≤ h ∧ h ≤ 99) (hkd : kd = if x < a 26176 then 0 else if x < a 26177 then 1 else 2) (hft : ft = if a (25344 + (p * 4 + q)) + a (25360 + (p * 4 + q)) + h ≤ 9999 then 1 else 0) : V X (YL_does l G) 0 0 417 [some (.ref (A 0)), some (.int (zI v)), some (.int (zI w)), some (.ref wa), some (.int (zI p)), some (.int (zI q)), some (.int (zI d)), some (.int (zI x)), some (.int (zI h)), some (.int (zI (a (25344 + (p * 4 + q)) + a (25360 + (p * 4 + q))))), some (.int (zI kd)), some (.int (zI (phz a (p * 4 + q) d kd))), some (.int (zI ft)), none, none, none, none, none, none, none, none, none] [] (WX A G a o s R bb sn t n κ ++ [(wa, aI G 48 wf)]) := by
  have hr : 0 ≤ p * 4 + q ∧ p * 4 + q < 16 := by omega
  have hI := hP.1
  have hw := hI.w hr
  have hset := hI.s
  have hkp := phz_rng hI hr (d := d) (k := kd) (by omega) (by omega)
  refine V.iload_n (q := 418) F dL_does_417 rfl rfl rfl ?_
  refine V.bipush (q := 420) F dL_does_418 rfl (by decide) ?_
  refine V.ishrR (q := 421) F dL_does_420 rfl (zI_shr (by omega) (zI 7) 7 128 (by decide +kernel) (by decide +kernel) (by omega)) ?_
  refine V.iconst (q := 422) F dL_does_421 rfl ?_
  refine V.callS (q := 425) F [] dL_does_422 rfl (c_L_low l G (v / 128) 3 (by omega) (by omega)) gL_does_L_low rfl ydL_low ⟨Nat.le_of_ble_eq_true rfl, Nat.le_of_ble_eq_true rfl⟩ rfl rfl (Nat.le_of_ble_eq_true rfl) rfl rfl ⟨Nat.le_of_ble_eq_true rfl, Nat.le_of_ble_eq_true rfl⟩ (kkf (st' := [_]) (ws' := WX A G a o s R bb sn t n κ ++ [(wa, aI G 48 wf)]) rfl rfl ?_)
  have hk9 : 0 ≤ v / 128 % 2147483648 % 3 ∧ v / 128 % 2147483648 % 3 ≤ 2 := by omega
  generalize v / 128 % 2147483648 % 3 = k9 at hk9 ⊢
  refine V.istore (q := 427) (lo' := [_, _, _, _, _, _, _, _, _, _, _, _, _, _, _, _, _, _, _, _, _, _]) F dL_does_425 rfl (Nat.le_of_ble_eq_true rfl) rfl rfl ?_
  have J450 : ∀ (vl : Int) (κ : Scr) (hvl : (k9 = 2 → 0 ≤ vl ∧ vl ≤ 9) ∧ (k9 ≠ 2 → 1 ≤ vl ∧ vl ≤ 60)), V X (YL_does l G) 0 0 450 [some (.ref (A 0)), some (.int (zI v)), some (.int (zI w)), some (.ref wa), some (.int (zI p)), some (.int (zI q)), some (.int (zI d)), some (.int (zI x)), some (.int (zI h)), some (.int (zI (a (25344 + (p * 4 + q)) + a (25360 + (p * 4 + q))))), some (.int (zI kd)), some (.int (zI (phz a (p * 4 + q) d kd))), some (.int (zI ft)), none, none, some (.int (zI k9)), none, none, none, none, none, none] [.int (zI vl)] (WX A G a o s R bb sn t n κ ++ [(wa, aI G 48 wf)]) := by
    intro vl κ hvl
    refine V.istore (q := 452) (lo' := [_, _, _, _, _, _, _, _, _, _, _, _, _, _, _, _, _, _, _, _, _, _]) F dL_does_450 rfl (Nat.le_of_ble_eq_true rfl) rfl rfl ?_
    have hst : 0 ≤ a (26176 + k9) ∧ a (26176 + k9) ≤ 99 := by
      have h1 := hI.2.2.1
      have h2 := hI.1 26178
      rcases (show k9 = 0 ∨ k9 = 1 ∨ k9 = 2 by omega) with g | g | g
      · rw [g]; show 0 ≤ a 26176 ∧ a 26176 ≤ 99; omega
      · rw [g]; show 0 ≤ a 26177 ∧ a 26177 ≤ 99; omega
      · rw [g]; show 0 ≤ a 26178 ∧ a 26178 ≤ 99; omega
    have eR : rSet a k9 vl = if ¬ (0 ≤ k9 ∧ k9 ≤ 2) then -1 else if ¬ ((k9 = 2 ∧ 0 ≤ vl ∧ vl ≤ 9) ∨ (k9 ≠ 2 ∧ 1 ≤ vl ∧ vl ≤ 99)) then -2 else if (k9 = 0 ∧ a 26177 ≤ vl) ∨ (k9 = 1 ∧ vl ≤ a 26176) then -4 else if a (26176 + k9) = vl then -5 else a (26176 + k9) := rfl
    refine V.aload_n (q := 453) F dL_does_452 rfl rfl rfl ?_
    refine V.bipush (q := 455) F dL_does_453 rfl (by decide) ?_
    refine V.iload (q := 457) F dL_does_455 rfl rfl ?_
    refine V.iadd (q := 458) F dL_does_457 rfl ?_
    refine V.callX (q := 461) F 27 rfl nd27 dL_does_458 rfl (c_X6_count l G A a κ.1.1 R sn t κ.1.2.1 κ.1.2.2.1 κ.1.2.2.2.1 κ.1.2.2.2.2 κ.2.1.1 κ.2.1.2.1 κ.2.1.2.2 κ.2.2.1.1 κ.2.2.1.2.1 κ.2.2.1.2.2 κ.2.2.2.1.1 κ.2.2.2.1.2.1 κ.2.2.2.1.2.2 o s bb n κ.2.2.2.2.1 κ.2.2.2.2.2.1 κ.2.2.2.2.2.2.1 κ.2.2.2.2.2.2.2.1 κ.2.2.2.2.2.2.2.2.1 κ.2.2.2.2.2.2.2.2.2.1 κ.2.2.2.2.2.2.2.2.2.2.1 κ.2.2.2.2.2.2.2.2.2.2.2 (6 + k9) hP.1 hP.2.2.2.1 hP.2.2.2.2 hbb hn ht (by omega)) gL_does_X6_count rfl rfl ydX6_count ⟨Nat.le_of_ble_eq_true rfl, Nat.le_of_ble_eq_true rfl⟩ (ci := 6) rfl rfl rfl rfl (Nat.le_of_ble_eq_true rfl) ⟨Nat.le_of_ble_eq_true rfl, Nat.le_of_ble_eq_true rfl⟩ (fun r9 w9 h9 => ?_)
    rw [rCount_c _ _ _ (k := k9) (by omega)] at h9
    obtain ⟨κ, rfl, rfl⟩ := h9
    refine V.eq (pc' := 461) (st' := [_]) (ws' := WX A G a o s R bb sn t n κ ++ [(wa, aI G 48 wf)]) rfl rfl rfl rfl ?_
    refine V.istore (q := 463) (lo' := [_, _, _, _, _, _, _, _, _, _, _, _, _, _, _, _, _, _, _, _, _, _]) F dL_does_461 rfl (Nat.le_of_ble_eq_true rfl) rfl rfl ?_
    have J501 : ∀ (cr : Int) (κ : Scr) (hcr : cr = if (k9 = 0 ∧ a 26177 ≤ vl) ∨ (k9 = 1 ∧ vl ≤ a 26176) then 1 else 0), V X (YL_does l G) 0 0 501 [some (.ref (A 0)), some (.int (zI v)), some (.int (zI w)), some (.ref wa), some (.int (zI p)), some (.int (zI q)), some (.int (zI d)), some (.int (zI x)), some (.int (zI h)), some (.int (zI (a (25344 + (p * 4 + q)) + a (25360 + (p * 4 + q))))), some (.int (zI kd)), some (.int (zI (phz a (p * 4 + q) d kd))), some (.int (zI ft)), none, none, some (.int (zI k9)), some (.int (zI vl)), some (.int (zI (a (26176 + k9)))), none, none, none, none] [.int (zI cr)] (WX A G a o s R bb sn t n κ ++ [(wa, aI G 48 wf)]) := by
      intro cr κ hcr
      refine V.istore (q := 503) (lo' := [_, _, _, _, _, _, _, _, _, _, _, _, _, _, _, _, _, _, _, _, _, _]) F dL_does_501 rfl (Nat.le_of_ble_eq_true rfl) rfl rfl ?_
      refine V.aload_n (q := 504) F dL_does_503 rfl rfl rfl ?_
      refine V.iload (q := 506) F dL_does_504 rfl rfl ?_
      refine V.iload (q := 508) F dL_does_506 rfl rfl ?_
      refine V.callX (q := 511) F 27 rfl nd27 dL_does_508 rfl (c_X6_set l G A a κ.1.1 R sn t κ.1.2.1 κ.1.2.2.1 κ.1.2.2.2.1 κ.1.2.2.2.2 κ.2.1.1 κ.2.1.2.1 κ.2.1.2.2 κ.2.2.1.1 κ.2.2.1.2.1 κ.2.2.1.2.2 κ.2.2.2.1.1 κ.2.2.2.1.2.1 κ.2.2.2.1.2.2 o s bb n κ.2.2.2.2.1 κ.2.2.2.2.2.1 κ.2.2.2.2.2.2.1 κ.2.2.2.2.2.2.2.1 κ.2.2.2.2.2.2.2.2.1 κ.2.2.2.2.2.2.2.2.2.1 κ.2.2.2.2.2.2.2.2.2.2.1 κ.2.2.2.2.2.2.2.2.2.2.2 k9 vl hP.1 hP.2.2.2.1 hP.2.2.2.2 hbb hn ht (by omega) (by omega)) gL_does_X6_set rfl rfl ydX6_set ⟨Nat.le_of_ble_eq_true rfl, Nat.le_of_ble_eq_true rfl⟩ (ci := 6) rfl rfl rfl rfl (Nat.le_of_ble_eq_true rfl) ⟨Nat.le_of_ble_eq_true rfl, Nat.le_of_ble_eq_true rfl⟩ (fun r9 w9 h9 => ?_)
      obtain ⟨κ, rfl, hneg, hpos⟩ := h9
      rcases Int.lt_or_le (rSet a k9 vl) 0 with hs | hs
      · have e9 := hneg hs
        subst e9
        refine V.eq (pc' := 511) (st' := [_]) (ws' := WX A G a o s R bb sn t n κ ++ [(wa, aI G 48 wf)]) rfl rfl rfl rfl ?_
        have J535 : ∀ (x535 : Int) (κ : Scr) (hx535 : x535 = if cr = 0 then (if a (26176 + k9) = vl then -5 else a (26176 + k9)) else -4), V X (YL_does l G) 0 0 535 [some (.ref (A 0)), some (.int (zI v)), some (.int (zI w)), some (.ref wa), some (.int (zI p)), some (.int (zI q)), some (.int (zI d)), some (.int (zI x)), some (.int (zI h)), some (.int (zI (a (25344 + (p * 4 + q)) + a (25360 + (p * 4 + q))))), some (.int (zI kd)), some (.int (zI (phz a (p * 4 + q) d kd))), some (.int (zI ft)), none, none, some (.int (zI k9)), some (.int (zI vl)), some (.int (zI (a (26176 + k9)))), some (.int (zI cr)), none, none, none] [.int (zI x535), .int (zI (rSet a k9 vl))] (WX A G a o s R bb sn t n κ ++ [(wa, aI G 48 wf)]) := by
          intro x535 κ hx535
          refine V.icmp_ne (q := 538) (tgt := 566) F dL_does_535 rfl (by decide) (by omega) (fun k535 => by exfalso; omega) (fun k535 => ?_)
          refine V.aload_n (q := 539) F dL_does_538 rfl rfl rfl ?_
          refine V.bipush (q := 541) F dL_does_539 rfl (by decide) ?_
          refine V.iload (q := 543) F dL_does_541 rfl rfl ?_
          refine V.iadd (q := 544) F dL_does_543 rfl ?_
          refine V.callX (q := 547) F 27 rfl nd27 dL_does_544 rfl (c_X6_count l G A a κ.1.1 R sn t κ.1.2.1 κ.1.2.2.1 κ.1.2.2.2.1 κ.1.2.2.2.2 κ.2.1.1 κ.2.1.2.1 κ.2.1.2.2 κ.2.2.1.1 κ.2.2.1.2.1 κ.2.2.1.2.2 κ.2.2.2.1.1 κ.2.2.2.1.2.1 κ.2.2.2.1.2.2 o s bb n κ.2.2.2.2.1 κ.2.2.2.2.2.1 κ.2.2.2.2.2.2.1 κ.2.2.2.2.2.2.2.1 κ.2.2.2.2.2.2.2.2.1 κ.2.2.2.2.2.2.2.2.2.1 κ.2.2.2.2.2.2.2.2.2.2.1 κ.2.2.2.2.2.2.2.2.2.2.2 (6 + k9) hP.1 hP.2.2.2.1 hP.2.2.2.2 hbb hn ht (by omega)) gL_does_X6_count rfl rfl ydX6_count ⟨Nat.le_of_ble_eq_true rfl, Nat.le_of_ble_eq_true rfl⟩ (ci := 6) rfl rfl rfl rfl (Nat.le_of_ble_eq_true rfl) ⟨Nat.le_of_ble_eq_true rfl, Nat.le_of_ble_eq_true rfl⟩ (fun r9 w9 h9 => ?_)
          rw [rCount_c _ _ _ (k := k9) (by omega)] at h9
          obtain ⟨κ, rfl, rfl⟩ := h9
          refine V.eq (pc' := 547) (st' := [_]) (ws' := WX A G a o s R bb sn t n κ ++ [(wa, aI G 48 wf)]) rfl rfl rfl rfl ?_
          have J559 : ∀ (x559 : Int) (κ : Scr) (hx559 : x559 = if cr = 0 then vl else a (26176 + k9)), V X (YL_does l G) 0 0 559 [some (.ref (A 0)), some (.int (zI v)), some (.int (zI w)), some (.ref wa), some (.int (zI p)), some (.int (zI q)), some (.int (zI d)), some (.int (zI x)), some (.int (zI h)), some (.int (zI (a (25344 + (p * 4 + q)) + a (25360 + (p * 4 + q))))), some (.int (zI kd)), some (.int (zI (phz a (p * 4 + q) d kd))), some (.int (zI ft)), none, none, some (.int (zI k9)), some (.int (zI vl)), some (.int (zI (a (26176 + k9)))), some (.int (zI cr)), none, none, none] [.int (zI x559), .int (zI (a (26176 + k9)))] (WX A G a o s R bb sn t n κ ++ [(wa, aI G 48 wf)]) := by
            intro x559 κ hx559
            refine V.icmp_ne (q := 562) (tgt := 566) F dL_does_559 rfl (by decide) (by omega) (fun k559 => by exfalso; omega) (fun k559 => ?_)
            refine V.iconst (q := 563) F dL_does_562 rfl ?_
            refine V.goto (tgt := 567) F dL_does_563 (by decide) ?_
            exact V.zret F T (Or.inr rfl) dL_does_567 ⟨κ, _, _, _, _, _, rfl, (hP.up (by omega)), rfl⟩ [(A 0), (A 1), (A 2), (A 3), (A 4), (A 5), (A 6), (A 7), (A 8), (A 9), (A 10), (A 11), (A 12), (A 13), (A 14), (A 15), (A 16), (A 17), (A 18), (A 19), (A 20), (A 21), (A 22), (A 23), (A 24), (A 25), (A 26), wa] rfl hwc
          refine V.iload (q := 549) F dL_does_547 rfl rfl ?_
          refine V.if_eq (q := 552) (tgt := 557) F dL_does_549 rfl (by decide) (by omega) (fun k549 => ?_) (fun k549 => ?_)
          · refine V.iload (q := 559) F dL_does_557 rfl rfl ?_
            exact J559 _ _ (by omega)
          · refine V.iload (q := 554) F dL_does_552 rfl rfl ?_
            refine V.goto (tgt := 559) F dL_does_554 (by decide) ?_
            exact J559 _ _ (by omega)
        refine V.iload (q := 513) F dL_does_511 rfl rfl ?_
        refine V.if_eq (q := 516) (tgt := 521) F dL_does_513 rfl (by decide) (by omega) (fun k513 => ?_) (fun k513 => ?_)
        · refine V.iload (q := 523) F dL_does_521 rfl rfl ?_
          refine V.iload (q := 525) F dL_does_523 rfl rfl ?_
          refine V.icmp_ne (q := 528) (tgt := 533) F dL_does_525 rfl (by decide) (by omega) (fun k525 => ?_) (fun k525 => ?_)
          · refine V.iload (q := 535) F dL_does_533 rfl rfl ?_
            exact J535 _ _ (by omega)
          · refine V.bipush (q := 530) F dL_does_528 rfl (by decide) ?_
            refine V.goto (tgt := 535) F dL_does_530 (by decide) ?_
            exact J535 _ _ (by omega)
        · refine V.bipush (q := 518) F dL_does_516 rfl (by decide) ?_
          refine V.goto (tgt := 535) F dL_does_518 (by decide) ?_
          exact J535 _ _ (by omega)
      · have e9 := hpos hs
        subst e9
        refine V.eq (pc' := 511) (st' := [_]) (ws' := WX A G (upz a (26176 + k9) vl) (oN o s) (sN s) (RN a o s R) bb sn t n κ ++ [(wa, aI G 48 wf)]) rfl rfl rfl rfl ?_
        have hP2 : PI N (upz a (26176 + k9) vl) (oN o s) (sN s) := hP.low (hI.set hs) (fun r9 g1 g2 => upz_ne _ _ _ (by omega)) (upz_ne _ _ _ (by omega)) (upz_ne _ _ _ (by omega))
        have hu := upz_eq a (26176 + k9) vl
        have J535 : ∀ (x535 : Int) (κ : Scr) (hx535 : x535 = if cr = 0 then (if a (26176 + k9) = vl then -5 else a (26176 + k9)) else -4), V X (YL_does l G) 0 0 535 [some (.ref (A 0)), some (.int (zI v)), some (.int (zI w)), some (.ref wa), some (.int (zI p)), some (.int (zI q)), some (.int (zI d)), some (.int (zI x)), some (.int (zI h)), some (.int (zI (a (25344 + (p * 4 + q)) + a (25360 + (p * 4 + q))))), some (.int (zI kd)), some (.int (zI (phz a (p * 4 + q) d kd))), some (.int (zI ft)), none, none, some (.int (zI k9)), some (.int (zI vl)), some (.int (zI (a (26176 + k9)))), some (.int (zI cr)), none, none, none] [.int (zI x535), .int (zI (rSet a k9 vl))] (WX A G (upz a (26176 + k9) vl) (oN o s) (sN s) (RN a o s R) bb sn t n κ ++ [(wa, aI G 48 wf)]) := by
          intro x535 κ hx535
          refine V.icmp_ne (q := 538) (tgt := 566) F dL_does_535 rfl (by decide) (by omega) (fun k535 => by exfalso; omega) (fun k535 => ?_)
          refine V.aload_n (q := 539) F dL_does_538 rfl rfl rfl ?_
          refine V.bipush (q := 541) F dL_does_539 rfl (by decide) ?_
          refine V.iload (q := 543) F dL_does_541 rfl rfl ?_
          refine V.iadd (q := 544) F dL_does_543 rfl ?_
          refine V.callX (q := 547) F 27 rfl nd27 dL_does_544 rfl (c_X6_count l G A (upz a (26176 + k9) vl) κ.1.1 (RN a o s R) sn t κ.1.2.1 κ.1.2.2.1 κ.1.2.2.2.1 κ.1.2.2.2.2 κ.2.1.1 κ.2.1.2.1 κ.2.1.2.2 κ.2.2.1.1 κ.2.2.1.2.1 κ.2.2.1.2.2 κ.2.2.2.1.1 κ.2.2.2.1.2.1 κ.2.2.2.1.2.2 (oN o s) (sN s) bb n κ.2.2.2.2.1 κ.2.2.2.2.2.1 κ.2.2.2.2.2.2.1 κ.2.2.2.2.2.2.2.1 κ.2.2.2.2.2.2.2.2.1 κ.2.2.2.2.2.2.2.2.2.1 κ.2.2.2.2.2.2.2.2.2.2.1 κ.2.2.2.2.2.2.2.2.2.2.2 (6 + k9) hP2.1 hP2.2.2.2.1 hP2.2.2.2.2 hbb hn ht (by omega)) gL_does_X6_count rfl rfl ydX6_count ⟨Nat.le_of_ble_eq_true rfl, Nat.le_of_ble_eq_true rfl⟩ (ci := 6) rfl rfl rfl rfl (Nat.le_of_ble_eq_true rfl) ⟨Nat.le_of_ble_eq_true rfl, Nat.le_of_ble_eq_true rfl⟩ (fun r9 w9 h9 => ?_)
          rw [rCount_c _ _ _ (k := k9) (by omega)] at h9
          obtain ⟨κ, rfl, rfl⟩ := h9
          refine V.eq (pc' := 547) (st' := [_]) (ws' := WX A G (upz a (26176 + k9) vl) (oN o s) (sN s) (RN a o s R) bb sn t n κ ++ [(wa, aI G 48 wf)]) rfl rfl rfl rfl ?_
          have J559 : ∀ (x559 : Int) (κ : Scr) (hx559 : x559 = if cr = 0 then vl else a (26176 + k9)), V X (YL_does l G) 0 0 559 [some (.ref (A 0)), some (.int (zI v)), some (.int (zI w)), some (.ref wa), some (.int (zI p)), some (.int (zI q)), some (.int (zI d)), some (.int (zI x)), some (.int (zI h)), some (.int (zI (a (25344 + (p * 4 + q)) + a (25360 + (p * 4 + q))))), some (.int (zI kd)), some (.int (zI (phz a (p * 4 + q) d kd))), some (.int (zI ft)), none, none, some (.int (zI k9)), some (.int (zI vl)), some (.int (zI (a (26176 + k9)))), some (.int (zI cr)), none, none, none] [.int (zI x559), .int (zI ((upz a (26176 + k9) vl) (26176 + k9)))] (WX A G (upz a (26176 + k9) vl) (oN o s) (sN s) (RN a o s R) bb sn t n κ ++ [(wa, aI G 48 wf)]) := by
            intro x559 κ hx559
            refine V.icmp_ne (q := 562) (tgt := 566) F dL_does_559 rfl (by decide) (by omega) (fun k559 => by exfalso; omega) (fun k559 => ?_)
            refine V.iconst (q := 563) F dL_does_562 rfl ?_
            refine V.goto (tgt := 567) F dL_does_563 (by decide) ?_
            exact V.zret F T (Or.inr rfl) dL_does_567 ⟨κ, _, _, _, _, _, rfl, (hP2.up (by omega)), rfl⟩ [(A 0), (A 1), (A 2), (A 3), (A 4), (A 5), (A 6), (A 7), (A 8), (A 9), (A 10), (A 11), (A 12), (A 13), (A 14), (A 15), (A 16), (A 17), (A 18), (A 19), (A 20), (A 21), (A 22), (A 23), (A 24), (A 25), (A 26), wa] rfl hwc
          refine V.iload (q := 549) F dL_does_547 rfl rfl ?_
          refine V.if_eq (q := 552) (tgt := 557) F dL_does_549 rfl (by decide) (by omega) (fun k549 => ?_) (fun k549 => ?_)
          · refine V.iload (q := 559) F dL_does_557 rfl rfl ?_
            exact J559 _ _ (by omega)
          · refine V.iload (q := 554) F dL_does_552 rfl rfl ?_
            refine V.goto (tgt := 559) F dL_does_554 (by decide) ?_
            exact J559 _ _ (by omega)
        refine V.iload (q := 513) F dL_does_511 rfl rfl ?_
        refine V.if_eq (q := 516) (tgt := 521) F dL_does_513 rfl (by decide) (by omega) (fun k513 => ?_) (fun k513 => ?_)
        · refine V.iload (q := 523) F dL_does_521 rfl rfl ?_
          refine V.iload (q := 525) F dL_does_523 rfl rfl ?_
          refine V.icmp_ne (q := 528) (tgt := 533) F dL_does_525 rfl (by decide) (by omega) (fun k525 => ?_) (fun k525 => ?_)
          · refine V.iload (q := 535) F dL_does_533 rfl rfl ?_
            exact J535 _ _ (by omega)
          · refine V.bipush (q := 530) F dL_does_528 rfl (by decide) ?_
            refine V.goto (tgt := 535) F dL_does_530 (by decide) ?_
            exact J535 _ _ (by omega)
        · refine V.bipush (q := 518) F dL_does_516 rfl (by decide) ?_
          refine V.goto (tgt := 535) F dL_does_518 (by decide) ?_
          exact J535 _ _ (by omega)
    refine V.iload (q := 465) F dL_does_463 rfl rfl ?_
    refine V.if_ne (q := 468) (tgt := 479) F dL_does_465 rfl (by decide) (by omega) (fun k465 => ?_) (fun k465 => ?_)
    · refine V.iload (q := 481) F dL_does_479 rfl rfl ?_
      refine V.iconst (q := 482) F dL_does_481 rfl ?_
      refine V.icmp_ne (q := 485) (tgt := 500) F dL_does_482 rfl (by decide) (by omega) (fun k482 => ?_) (fun k482 => ?_)
      · refine V.iconst (q := 501) F dL_does_500 rfl ?_
        exact J501 _ _ (by omega)
      · refine V.iload (q := 487) F dL_does_485 rfl rfl ?_
        refine V.aload_n (q := 488) F dL_does_487 rfl rfl rfl ?_
        refine V.bipush (q := 490) F dL_does_488 rfl (by decide) ?_
        refine V.callX (q := 493) F 27 rfl nd27 dL_does_490 rfl (c_X6_count l G A a κ.1.1 R sn t κ.1.2.1 κ.1.2.2.1 κ.1.2.2.2.1 κ.1.2.2.2.2 κ.2.1.1 κ.2.1.2.1 κ.2.1.2.2 κ.2.2.1.1 κ.2.2.1.2.1 κ.2.2.1.2.2 κ.2.2.2.1.1 κ.2.2.2.1.2.1 κ.2.2.2.1.2.2 o s bb n κ.2.2.2.2.1 κ.2.2.2.2.2.1 κ.2.2.2.2.2.2.1 κ.2.2.2.2.2.2.2.1 κ.2.2.2.2.2.2.2.2.1 κ.2.2.2.2.2.2.2.2.2.1 κ.2.2.2.2.2.2.2.2.2.2.1 κ.2.2.2.2.2.2.2.2.2.2.2 6 hP.1 hP.2.2.2.1 hP.2.2.2.2 hbb hn ht (by omega)) gL_does_X6_count rfl rfl ydX6_count ⟨Nat.le_of_ble_eq_true rfl, Nat.le_of_ble_eq_true rfl⟩ (ci := 6) rfl rfl rfl rfl (Nat.le_of_ble_eq_true rfl) ⟨Nat.le_of_ble_eq_true rfl, Nat.le_of_ble_eq_true rfl⟩ (fun r9 w9 h9 => ?_)
        rw [rCount_6] at h9
        obtain ⟨κ, rfl, rfl⟩ := h9
        refine V.eq (pc' := 493) (st' := [_, _]) (ws' := WX A G a o s R bb sn t n κ ++ [(wa, aI G 48 wf)]) rfl rfl rfl rfl ?_
        refine V.icmp_gt (q := 496) (tgt := 500) F dL_does_493 rfl (by decide) (by omega) (fun k493 => ?_) (fun k493 => ?_)
        · refine V.iconst (q := 501) F dL_does_500 rfl ?_
          exact J501 _ _ (by omega)
        · refine V.iconst (q := 497) F dL_does_496 rfl ?_
          refine V.goto (tgt := 501) F dL_does_497 (by decide) ?_
          exact J501 _ _ (by omega)
    · refine V.iload (q := 470) F dL_does_468 rfl rfl ?_
      refine V.aload_n (q := 471) F dL_does_470 rfl rfl rfl ?_
      refine V.bipush (q := 473) F dL_does_471 rfl (by decide) ?_
      refine V.callX (q := 476) F 27 rfl nd27 dL_does_473 rfl (c_X6_count l G A a κ.1.1 R sn t κ.1.2.1 κ.1.2.2.1 κ.1.2.2.2.1 κ.1.2.2.2.2 κ.2.1.1 κ.2.1.2.1 κ.2.1.2.2 κ.2.2.1.1 κ.2.2.1.2.1 κ.2.2.1.2.2 κ.2.2.2.1.1 κ.2.2.2.1.2.1 κ.2.2.2.1.2.2 o s bb n κ.2.2.2.2.1 κ.2.2.2.2.2.1 κ.2.2.2.2.2.2.1 κ.2.2.2.2.2.2.2.1 κ.2.2.2.2.2.2.2.2.1 κ.2.2.2.2.2.2.2.2.2.1 κ.2.2.2.2.2.2.2.2.2.2.1 κ.2.2.2.2.2.2.2.2.2.2.2 7 hP.1 hP.2.2.2.1 hP.2.2.2.2 hbb hn ht (by omega)) gL_does_X6_count rfl rfl ydX6_count ⟨Nat.le_of_ble_eq_true rfl, Nat.le_of_ble_eq_true rfl⟩ (ci := 6) rfl rfl rfl rfl (Nat.le_of_ble_eq_true rfl) ⟨Nat.le_of_ble_eq_true rfl, Nat.le_of_ble_eq_true rfl⟩ (fun r9 w9 h9 => ?_)
      rw [rCount_7] at h9
      obtain ⟨κ, rfl, rfl⟩ := h9
      refine V.eq (pc' := 476) (st' := [_, _]) (ws' := WX A G a o s R bb sn t n κ ++ [(wa, aI G 48 wf)]) rfl rfl rfl rfl ?_
      refine V.icmp_ge (q := 479) (tgt := 496) F dL_does_476 rfl (by decide) (by omega) (fun k476 => ?_) (fun k476 => ?_)
      · refine V.iconst (q := 497) F dL_does_496 rfl ?_
        refine V.goto (tgt := 501) F dL_does_497 (by decide) ?_
        exact J501 _ _ (by omega)
      · refine V.iload (q := 481) F dL_does_479 rfl rfl ?_
        refine V.iconst (q := 482) F dL_does_481 rfl ?_
        refine V.icmp_ne (q := 485) (tgt := 500) F dL_does_482 rfl (by decide) (by omega) (fun k482 => ?_) (fun k482 => ?_)
        · refine V.iconst (q := 501) F dL_does_500 rfl ?_
          exact J501 _ _ (by omega)
        · refine V.iload (q := 487) F dL_does_485 rfl rfl ?_
          refine V.aload_n (q := 488) F dL_does_487 rfl rfl rfl ?_
          refine V.bipush (q := 490) F dL_does_488 rfl (by decide) ?_
          refine V.callX (q := 493) F 27 rfl nd27 dL_does_490 rfl (c_X6_count l G A a κ.1.1 R sn t κ.1.2.1 κ.1.2.2.1 κ.1.2.2.2.1 κ.1.2.2.2.2 κ.2.1.1 κ.2.1.2.1 κ.2.1.2.2 κ.2.2.1.1 κ.2.2.1.2.1 κ.2.2.1.2.2 κ.2.2.2.1.1 κ.2.2.2.1.2.1 κ.2.2.2.1.2.2 o s bb n κ.2.2.2.2.1 κ.2.2.2.2.2.1 κ.2.2.2.2.2.2.1 κ.2.2.2.2.2.2.2.1 κ.2.2.2.2.2.2.2.2.1 κ.2.2.2.2.2.2.2.2.2.1 κ.2.2.2.2.2.2.2.2.2.2.1 κ.2.2.2.2.2.2.2.2.2.2.2 6 hP.1 hP.2.2.2.1 hP.2.2.2.2 hbb hn ht (by omega)) gL_does_X6_count rfl rfl ydX6_count ⟨Nat.le_of_ble_eq_true rfl, Nat.le_of_ble_eq_true rfl⟩ (ci := 6) rfl rfl rfl rfl (Nat.le_of_ble_eq_true rfl) ⟨Nat.le_of_ble_eq_true rfl, Nat.le_of_ble_eq_true rfl⟩ (fun r9 w9 h9 => ?_)
          rw [rCount_6] at h9
          obtain ⟨κ, rfl, rfl⟩ := h9
          refine V.eq (pc' := 493) (st' := [_, _]) (ws' := WX A G a o s R bb sn t n κ ++ [(wa, aI G 48 wf)]) rfl rfl rfl rfl ?_
          refine V.icmp_gt (q := 496) (tgt := 500) F dL_does_493 rfl (by decide) (by omega) (fun k493 => ?_) (fun k493 => ?_)
          · refine V.iconst (q := 501) F dL_does_500 rfl ?_
            exact J501 _ _ (by omega)
          · refine V.iconst (q := 497) F dL_does_496 rfl ?_
            refine V.goto (tgt := 501) F dL_does_497 (by decide) ?_
            exact J501 _ _ (by omega)
  refine V.iload (q := 429) F dL_does_427 rfl rfl ?_
  refine V.iconst (q := 430) F dL_does_429 rfl ?_
  refine V.icmp_ne (q := 433) (tgt := 442) F dL_does_430 rfl (by decide) (by omega) (fun k430 => ?_) (fun k430 => ?_)
  · refine V.iconst (q := 443) F dL_does_442 rfl ?_
    refine V.iload_n (q := 444) F dL_does_443 rfl rfl rfl ?_
    refine V.bipush (q := 446) F dL_does_444 rfl (by decide) ?_
    refine V.callS (q := 449) F [] dL_does_446 rfl (c_L_low l G w 60 (by omega) (by omega)) gL_does_L_low rfl ydL_low ⟨Nat.le_of_ble_eq_true rfl, Nat.le_of_ble_eq_true rfl⟩ rfl rfl (Nat.le_of_ble_eq_true rfl) rfl rfl ⟨Nat.le_of_ble_eq_true rfl, Nat.le_of_ble_eq_true rfl⟩ (kkf (st' := [_, _]) (ws' := WX A G a o s R bb sn t n κ ++ [(wa, aI G 48 wf)]) rfl rfl ?_)
    refine V.iadd (q := 450) F dL_does_449 rfl ?_
    exact J450 _ _ (by omega)
  · refine V.iload_n (q := 434) F dL_does_433 rfl rfl rfl ?_
    refine V.bipush (q := 436) F dL_does_434 rfl (by decide) ?_
    refine V.callS (q := 439) F [] dL_does_436 rfl (c_L_low l G w 10 (by omega) (by omega)) gL_does_L_low rfl ydL_low ⟨Nat.le_of_ble_eq_true rfl, Nat.le_of_ble_eq_true rfl⟩ rfl rfl (Nat.le_of_ble_eq_true rfl) rfl rfl ⟨Nat.le_of_ble_eq_true rfl, Nat.le_of_ble_eq_true rfl⟩ (kkf (st' := [_]) (ws' := WX A G a o s R bb sn t n κ ++ [(wa, aI G 48 wf)]) rfl rfl ?_)
    refine V.goto (tgt := 450) F dL_does_439 (by decide) ?_
    exact J450 _ _ (by omega)

set_option maxHeartbeats 4000000 in
set_option maxRecDepth 20000 in
theorem dc_568 {X : Cx} {l : Launch} {G : Gx} {A : Nat → Nat} {wa : Nat} {wc : va_W} {a R sn t wf : Int → Int} {o s bb n N v w p q d x h kd ft : Int} {κ : Scr} (F : Fx X (YL_does l G)) (hwc : wc.map Prod.fst = [(A 0), (A 1), (A 2), (A 3), (A 4), (A 5), (A 6), (A 7), (A 8), (A 9), (A 10), (A 11), (A 12), (A 13), (A 14), (A 15), (A 16), (A 17), (A 18), (A 19), (A 20), (A 21), (A 22), (A 23), (A 24), (A 25), (A 26), wa]) (T : Rt X (YL_does l G) (some .boolean) wc (DoX A G wa (N + 1) bb sn t n)) (hP : PI N a o s) (hbb : 0 ≤ bb ∧ bb ≤ 1) (hn : 0 ≤ n ∧ n ≤ 80) (ht : ∀ j, 0 ≤ t j ∧ t j < 65536) (hN : 0 ≤ N ∧ N ≤ 1000) (hv : -2147483648 ≤ v ∧ v < 2147483648) (hw9 : -2147483648 ≤ w ∧ w < 2147483648) (hp : 0 ≤ p ∧ p ≤ 3) (hq4 : 0 ≤ q ∧ q ≤ 3) (hd : 0 ≤ d ∧ d ≤ 15) (hx : 1 ≤ x ∧ x ≤ 99) (hh : 1 ≤ h ∧ h ≤ 99) (hkd : kd = if x < a 26176 then 0 else if x < a 26177 then 1 else 2) (hft : ft = if a (25344 + (p * 4 + q)) + a (25360 + (p * 4 + q)) + h ≤ 9999 then 1 else 0) : V X (YL_does l G) 0 0 568 [some (.ref (A 0)), some (.int (zI v)), some (.int (zI w)), some (.ref wa), some (.int (zI p)), some (.int (zI q)), some (.int (zI d)), some (.int (zI x)), some (.int (zI h)), some (.int (zI (a (25344 + (p * 4 + q)) + a (25360 + (p * 4 + q))))), some (.int (zI kd)), some (.int (zI (phz a (p * 4 + q) d kd))), some (.int (zI ft)), none, none, none, none, none, none, none, none, none] [] (WX A G a o s R bb sn t n κ ++ [(wa, aI G 48 wf)]) := by
  have hr : 0 ≤ p * 4 + q ∧ p * 4 + q < 16 := by omega
  have hI := hP.1
  have hw := hI.w hr
  have hset := hI.s
  have hkp := phz_rng hI hr (d := d) (k := kd) (by omega) (by omega)
  refine V.aload_n (q := 569) F dL_does_568 rfl rfl rfl ?_
  refine V.iload (q := 571) F dL_does_569 rfl rfl ?_
  refine V.iload (q := 573) F dL_does_571 rfl rfl ?_
  refine V.callSX (q := 576) F 27 rfl nd27 dL_does_573 rfl (c_L_isEngraved l G A a R sn t o s bb n N p q κ hP hbb hn ht hp hq4 hN) gL_does_L_isEngraved rfl ydL_isEngraved ⟨Nat.le_of_ble_eq_true rfl, Nat.le_of_ble_eq_true rfl⟩ rfl rfl (Nat.le_of_ble_eq_true rfl) ⟨Nat.le_of_ble_eq_true rfl, Nat.le_of_ble_eq_true rfl⟩ (fun r9 w9 h9 => ?_)
  obtain ⟨κ, a2, R2, o2, s2, rfl, hP3, rfl⟩ := h9
  refine V.eq (pc' := 576) (st' := [_]) (ws' := WX A G a2 o2 s2 R2 bb sn t n κ ++ [(wa, aI G 48 wf)]) rfl rfl rfl rfl ?_
  exact V.zret F T (Or.inr rfl) dL_does_576 ⟨κ, _, _, _, _, _, rfl, hP3, rfl⟩ [(A 0), (A 1), (A 2), (A 3), (A 4), (A 5), (A 6), (A 7), (A 8), (A 9), (A 10), (A 11), (A 12), (A 13), (A 14), (A 15), (A 16), (A 17), (A 18), (A 19), (A 20), (A 21), (A 22), (A 23), (A 24), (A 25), (A 26), wa] rfl hwc

set_option maxHeartbeats 4000000 in
set_option maxRecDepth 20000 in
theorem dc_577 {X : Cx} {l : Launch} {G : Gx} {A : Nat → Nat} {wa : Nat} {wc : va_W} {a R sn t wf : Int → Int} {o s bb n N v w p q d x h kd ft : Int} {κ : Scr} (F : Fx X (YL_does l G)) (hwc : wc.map Prod.fst = [(A 0), (A 1), (A 2), (A 3), (A 4), (A 5), (A 6), (A 7), (A 8), (A 9), (A 10), (A 11), (A 12), (A 13), (A 14), (A 15), (A 16), (A 17), (A 18), (A 19), (A 20), (A 21), (A 22), (A 23), (A 24), (A 25), (A 26), wa]) (T : Rt X (YL_does l G) (some .boolean) wc (DoX A G wa (N + 1) bb sn t n)) (hP : PI N a o s) (hbb : 0 ≤ bb ∧ bb ≤ 1) (hn : 0 ≤ n ∧ n ≤ 80) (ht : ∀ j, 0 ≤ t j ∧ t j < 65536) (hN : 0 ≤ N ∧ N ≤ 1000) (hv : -2147483648 ≤ v ∧ v < 2147483648) (hw9 : -2147483648 ≤ w ∧ w < 2147483648) (hp : 0 ≤ p ∧ p ≤ 3) (hq4 : 0 ≤ q ∧ q ≤ 3) (hd : 0 ≤ d ∧ d ≤ 15) (hx : 1 ≤ x ∧ x ≤ 99) (hh : 1 ≤ h ∧ h ≤ 99) (hkd : kd = if x < a 26176 then 0 else if x < a 26177 then 1 else 2) (hft : ft = if a (25344 + (p * 4 + q)) + a (25360 + (p * 4 + q)) + h ≤ 9999 then 1 else 0) : V X (YL_does l G) 0 0 577 [some (.ref (A 0)), some (.int (zI v)), some (.int (zI w)), some (.ref wa), some (.int (zI p)), some (.int (zI q)), some (.int (zI d)), some (.int (zI x)), some (.int (zI h)), some (.int (zI (a (25344 + (p * 4 + q)) + a (25360 + (p * 4 + q))))), some (.int (zI kd)), some (.int (zI (phz a (p * 4 + q) d kd))), some (.int (zI ft)), none, none, none, none, none, none, none, none, none] [] (WX A G a o s R bb sn t n κ ++ [(wa, aI G 48 wf)]) := by
  have hr : 0 ≤ p * 4 + q ∧ p * 4 + q < 16 := by omega
  have hI := hP.1
  have hw := hI.w hr
  have hset := hI.s
  have hkp := phz_rng hI hr (d := d) (k := kd) (by omega) (by omega)
  have eR : rRen a p q = if ¬ ((0 ≤ p ∧ p ≤ 3) ∧ (0 ≤ q ∧ q ≤ 3)) then -1 else if cutz a (p * 4 + q) = 0 ∧ a (26144 + (p * 4 + q)) = 0 ∧ a (26160 + (p * 4 + q)) = 0 then -5 else a (26160 + (p * 4 + q)) := rfl
  have h9s := hP.2.1 _ hr.1 hr.2
  have h9n := hI.1 (26160 + (p * 4 + q))
  have h9c := hI.p (j := 26144 + (p * 4 + q)) (by omega) (by omega)
  have hcr := cutz_rng a (p * 4 + q)
  have hct := hP.2.2.1
  have hc0 := hI.1 26180
  have hlr2 : 0 ≤ longz a (p * 4 + q) ∧ longz a (p * 4 + q) ≤ 100 := by rw [← lonS_49]; exact lonS_rng hI hr
  refine V.aload_n (q := 578) F dL_does_577 rfl rfl rfl ?_
  refine V.iload (q := 580) F dL_does_578 rfl rfl ?_
  refine V.iload (q := 582) F dL_does_580 rfl rfl ?_
  refine V.iconst (q := 583) F dL_does_582 rfl ?_
  refine V.callX (q := 586) F 27 rfl nd27 dL_does_583 rfl (c_X6_plate l G A a κ.1.1 R sn t κ.1.2.1 κ.1.2.2.1 κ.1.2.2.2.1 κ.1.2.2.2.2 κ.2.1.1 κ.2.1.2.1 κ.2.1.2.2 κ.2.2.1.1 κ.2.2.1.2.1 κ.2.2.1.2.2 κ.2.2.2.1.1 κ.2.2.2.1.2.1 κ.2.2.2.1.2.2 o s bb n κ.2.2.2.2.1 κ.2.2.2.2.2.1 κ.2.2.2.2.2.2.1 κ.2.2.2.2.2.2.2.1 κ.2.2.2.2.2.2.2.2.1 κ.2.2.2.2.2.2.2.2.2.1 κ.2.2.2.2.2.2.2.2.2.2.1 κ.2.2.2.2.2.2.2.2.2.2.2 p q 1 hP.1 hP.2.2.2.1 hP.2.2.2.2 hbb hn ht (by omega) (by omega) (by omega)) gL_does_X6_plate rfl rfl ydX6_plate ⟨Nat.le_of_ble_eq_true rfl, Nat.le_of_ble_eq_true rfl⟩ (ci := 6) rfl rfl rfl rfl (Nat.le_of_ble_eq_true rfl) ⟨Nat.le_of_ble_eq_true rfl, Nat.le_of_ble_eq_true rfl⟩ (fun r9 w9 h9 => ?_)
  rw [rPlate_1 (a := a) (p := p) (q := q) (by omega) (by omega)] at h9
  obtain ⟨κ, rfl, rfl⟩ := h9
  refine V.eq (pc' := 586) (st' := [_]) (ws' := WX A G a o s R bb sn t n κ ++ [(wa, aI G 48 wf)]) rfl rfl rfl rfl ?_
  refine V.istore (q := 588) (lo' := [_, _, _, _, _, _, _, _, _, _, _, _, _, _, _, _, _, _, _, _, _, _]) F dL_does_586 rfl (Nat.le_of_ble_eq_true rfl) rfl rfl ?_
  have J622 : ∀ (nw : Int) (κ : Scr) (hnw : nw = if a (26160 + (p * 4 + q)) = 0 ∧ a (26144 + (p * 4 + q)) = 0 ∧ cutz a (p * 4 + q) = 0 then 1 else 0), V X (YL_does l G) 0 0 622 [some (.ref (A 0)), some (.int (zI v)), some (.int (zI w)), some (.ref wa), some (.int (zI p)), some (.int (zI q)), some (.int (zI d)), some (.int (zI x)), some (.int (zI h)), some (.int (zI (a (25344 + (p * 4 + q)) + a (25360 + (p * 4 + q))))), some (.int (zI kd)), some (.int (zI (phz a (p * 4 + q) d kd))), some (.int (zI ft)), none, none, none, none, none, none, some (.int (zI (a (26160 + (p * 4 + q))))), none, none] [.int (zI nw)] (WX A G a o s R bb sn t n κ ++ [(wa, aI G 48 wf)]) := by
    intro nw κ hnw
    refine V.istore (q := 624) (lo' := [_, _, _, _, _, _, _, _, _, _, _, _, _, _, _, _, _, _, _, _, _, _]) F dL_does_622 rfl (Nat.le_of_ble_eq_true rfl) rfl rfl ?_
    refine V.aload_n (q := 625) F dL_does_624 rfl rfl rfl ?_
    refine V.iconst (q := 626) F dL_does_625 rfl ?_
    refine V.callX (q := 629) F 27 rfl nd27 dL_does_626 rfl (c_X6_count l G A a κ.1.1 R sn t κ.1.2.1 κ.1.2.2.1 κ.1.2.2.2.1 κ.1.2.2.2.2 κ.2.1.1 κ.2.1.2.1 κ.2.1.2.2 κ.2.2.1.1 κ.2.2.1.2.1 κ.2.2.1.2.2 κ.2.2.2.1.1 κ.2.2.2.1.2.1 κ.2.2.2.1.2.2 o s bb n κ.2.2.2.2.1 κ.2.2.2.2.2.1 κ.2.2.2.2.2.2.1 κ.2.2.2.2.2.2.2.1 κ.2.2.2.2.2.2.2.2.1 κ.2.2.2.2.2.2.2.2.2.1 κ.2.2.2.2.2.2.2.2.2.2.1 κ.2.2.2.2.2.2.2.2.2.2.2 5 hP.1 hP.2.2.2.1 hP.2.2.2.2 hbb hn ht (by omega)) gL_does_X6_count rfl rfl ydX6_count ⟨Nat.le_of_ble_eq_true rfl, Nat.le_of_ble_eq_true rfl⟩ (ci := 6) rfl rfl rfl rfl (Nat.le_of_ble_eq_true rfl) ⟨Nat.le_of_ble_eq_true rfl, Nat.le_of_ble_eq_true rfl⟩ (fun r9 w9 h9 => ?_)
    rw [rCount_5] at h9
    obtain ⟨κ, rfl, rfl⟩ := h9
    refine V.eq (pc' := 629) (st' := [_]) (ws' := WX A G a o s R bb sn t n κ ++ [(wa, aI G 48 wf)]) rfl rfl rfl rfl ?_
    refine V.istore (q := 631) (lo' := [_, _, _, _, _, _, _, _, _, _, _, _, _, _, _, _, _, _, _, _, _, _]) F dL_does_629 rfl (Nat.le_of_ble_eq_true rfl) rfl rfl ?_
    refine V.iload_n (q := 632) F dL_does_631 rfl rfl rfl ?_
    refine V.iconst (q := 633) F dL_does_632 rfl ?_
    refine V.iandR (q := 634) F dL_does_633 rfl ?_
    rw [zI_and3]
    refine V.if_ne (q := 637) (tgt := 714) F dL_does_634 rfl (by decide) (by omega) (fun k634 => ?_) (fun k634 => ?_)
    · refine V.iconst (q := 715) F dL_does_714 rfl ?_
      refine V.goto (tgt := 719) F dL_does_715 (by decide) ?_
      exact V.zret F T (Or.inr rfl) dL_does_719 ⟨κ, _, _, _, _, _, rfl, (hP.up (by omega)), rfl⟩ [(A 0), (A 1), (A 2), (A 3), (A 4), (A 5), (A 6), (A 7), (A 8), (A 9), (A 10), (A 11), (A 12), (A 13), (A 14), (A 15), (A 16), (A 17), (A 18), (A 19), (A 20), (A 21), (A 22), (A 23), (A 24), (A 25), (A 26), wa] rfl hwc
    · refine V.aload_n (q := 638) F dL_does_637 rfl rfl rfl ?_
      refine V.iload (q := 640) F dL_does_638 rfl rfl ?_
      refine V.iload (q := 642) F dL_does_640 rfl rfl ?_
      refine V.callX (q := 645) F 27 rfl nd27 dL_does_642 rfl (c_X6_renew l G A a κ.1.1 R sn t κ.1.2.1 κ.1.2.2.1 κ.1.2.2.2.1 κ.1.2.2.2.2 κ.2.1.1 κ.2.1.2.1 κ.2.1.2.2 κ.2.2.1.1 κ.2.2.1.2.1 κ.2.2.1.2.2 κ.2.2.2.1.1 κ.2.2.2.1.2.1 κ.2.2.2.1.2.2 o s bb n κ.2.2.2.2.1 κ.2.2.2.2.2.1 κ.2.2.2.2.2.2.1 κ.2.2.2.2.2.2.2.1 κ.2.2.2.2.2.2.2.2.1 κ.2.2.2.2.2.2.2.2.2.1 κ.2.2.2.2.2.2.2.2.2.2.1 κ.2.2.2.2.2.2.2.2.2.2.2 p q hP.1 hP.2.2.2.1 hP.2.2.2.2 hbb hn ht (by omega) (by omega)) gL_does_X6_renew rfl rfl ydX6_renew ⟨Nat.le_of_ble_eq_true rfl, Nat.le_of_ble_eq_true rfl⟩ (ci := 6) rfl rfl rfl rfl (Nat.le_of_ble_eq_true rfl) ⟨Nat.le_of_ble_eq_true rfl, Nat.le_of_ble_eq_true rfl⟩ (fun r9 w9 h9 => ?_)
      obtain ⟨κ, rfl, hneg, hpos⟩ := h9
      rcases Int.lt_or_le (rRen a p q) 0 with hs | hs
      · have e9 := hneg hs
        subst e9
        refine V.eq (pc' := 645) (st' := [_]) (ws' := WX A G a o s R bb sn t n κ ++ [(wa, aI G 48 wf)]) rfl rfl rfl rfl ?_
        have hlz := cut0_long hI (r := (p * 4 + q)) (by omega)
        have J657 : ∀ (x657 : Int) (κ : Scr) (hx657 : x657 = if nw = 0 then a (26160 + (p * 4 + q)) else -5), V X (YL_does l G) 0 0 657 [some (.ref (A 0)), some (.int (zI v)), some (.int (zI w)), some (.ref wa), some (.int (zI p)), some (.int (zI q)), some (.int (zI d)), some (.int (zI x)), some (.int (zI h)), some (.int (zI (a (25344 + (p * 4 + q)) + a (25360 + (p * 4 + q))))), some (.int (zI kd)), some (.int (zI (phz a (p * 4 + q) d kd))), some (.int (zI ft)), none, none, none, none, none, none, some (.int (zI (a (26160 + (p * 4 + q))))), some (.int (zI nw)), some (.int (zI (a 26180)))] [.int (zI x657), .int (zI (rRen a p q))] (WX A G a o s R bb sn t n κ ++ [(wa, aI G 48 wf)]) := by
          intro x657 κ hx657
          refine V.icmp_ne (q := 660) (tgt := 718) F dL_does_657 rfl (by decide) (by omega) (fun k657 => by exfalso; omega) (fun k657 => ?_)
          refine V.aload_n (q := 661) F dL_does_660 rfl rfl rfl ?_
          refine V.iconst (q := 662) F dL_does_661 rfl ?_
          refine V.callX (q := 665) F 27 rfl nd27 dL_does_662 rfl (c_X6_count l G A a κ.1.1 R sn t κ.1.2.1 κ.1.2.2.1 κ.1.2.2.2.1 κ.1.2.2.2.2 κ.2.1.1 κ.2.1.2.1 κ.2.1.2.2 κ.2.2.1.1 κ.2.2.1.2.1 κ.2.2.1.2.2 κ.2.2.2.1.1 κ.2.2.2.1.2.1 κ.2.2.2.1.2.2 o s bb n κ.2.2.2.2.1 κ.2.2.2.2.2.1 κ.2.2.2.2.2.2.1 κ.2.2.2.2.2.2.2.1 κ.2.2.2.2.2.2.2.2.1 κ.2.2.2.2.2.2.2.2.2.1 κ.2.2.2.2.2.2.2.2.2.2.1 κ.2.2.2.2.2.2.2.2.2.2.2 5 hP.1 hP.2.2.2.1 hP.2.2.2.2 hbb hn ht (by omega)) gL_does_X6_count rfl rfl ydX6_count ⟨Nat.le_of_ble_eq_true rfl, Nat.le_of_ble_eq_true rfl⟩ (ci := 6) rfl rfl rfl rfl (Nat.le_of_ble_eq_true rfl) ⟨Nat.le_of_ble_eq_true rfl, Nat.le_of_ble_eq_true rfl⟩ (fun r9 w9 h9 => ?_)
          rw [rCount_5] at h9
          obtain ⟨κ, rfl, rfl⟩ := h9
          refine V.eq (pc' := 665) (st' := [_]) (ws' := WX A G a o s R bb sn t n κ ++ [(wa, aI G 48 wf)]) rfl rfl rfl rfl ?_
          have J679 : ∀ (x679 : Int) (κ : Scr) (hx679 : x679 = if nw = 0 then a 26180 + 1 else a 26180), V X (YL_does l G) 0 0 679 [some (.ref (A 0)), some (.int (zI v)), some (.int (zI w)), some (.ref wa), some (.int (zI p)), some (.int (zI q)), some (.int (zI d)), some (.int (zI x)), some (.int (zI h)), some (.int (zI (a (25344 + (p * 4 + q)) + a (25360 + (p * 4 + q))))), some (.int (zI kd)), some (.int (zI (phz a (p * 4 + q) d kd))), some (.int (zI ft)), none, none, none, none, none, none, some (.int (zI (a (26160 + (p * 4 + q))))), some (.int (zI nw)), some (.int (zI (a 26180)))] [.int (zI x679), .int (zI (a 26180))] (WX A G a o s R bb sn t n κ ++ [(wa, aI G 48 wf)]) := by
            intro x679 κ hx679
            refine V.icmp_ne (q := 682) (tgt := 718) F dL_does_679 rfl (by decide) (by omega) (fun k679 => by exfalso; omega) (fun k679 => ?_)
            refine V.aload_n (q := 683) F dL_does_682 rfl rfl rfl ?_
            refine V.iload (q := 685) F dL_does_683 rfl rfl ?_
            refine V.iload (q := 687) F dL_does_685 rfl rfl ?_
            refine V.iconst (q := 688) F dL_does_687 rfl ?_
            refine V.callX (q := 691) F 27 rfl nd27 dL_does_688 rfl (c_X6_plate l G A a κ.1.1 R sn t κ.1.2.1 κ.1.2.2.1 κ.1.2.2.2.1 κ.1.2.2.2.2 κ.2.1.1 κ.2.1.2.1 κ.2.1.2.2 κ.2.2.1.1 κ.2.2.1.2.1 κ.2.2.1.2.2 κ.2.2.2.1.1 κ.2.2.2.1.2.1 κ.2.2.2.1.2.2 o s bb n κ.2.2.2.2.1 κ.2.2.2.2.2.1 κ.2.2.2.2.2.2.1 κ.2.2.2.2.2.2.2.1 κ.2.2.2.2.2.2.2.2.1 κ.2.2.2.2.2.2.2.2.2.1 κ.2.2.2.2.2.2.2.2.2.2.1 κ.2.2.2.2.2.2.2.2.2.2.2 p q 1 hP.1 hP.2.2.2.1 hP.2.2.2.2 hbb hn ht (by omega) (by omega) (by omega)) gL_does_X6_plate rfl rfl ydX6_plate ⟨Nat.le_of_ble_eq_true rfl, Nat.le_of_ble_eq_true rfl⟩ (ci := 6) rfl rfl rfl rfl (Nat.le_of_ble_eq_true rfl) ⟨Nat.le_of_ble_eq_true rfl, Nat.le_of_ble_eq_true rfl⟩ (fun r9 w9 h9 => ?_)
            rw [rPlate_1 (a := a) (p := p) (q := q) (by omega) (by omega)] at h9
            obtain ⟨κ, rfl, rfl⟩ := h9
            refine V.eq (pc' := 691) (st' := [_]) (ws' := WX A G a o s R bb sn t n κ ++ [(wa, aI G 48 wf)]) rfl rfl rfl rfl ?_
            refine V.aload_n (q := 692) F dL_does_691 rfl rfl rfl ?_
            refine V.iload (q := 694) F dL_does_692 rfl rfl ?_
            refine V.iload (q := 696) F dL_does_694 rfl rfl ?_
            refine V.iconst (q := 697) F dL_does_696 rfl ?_
            refine V.callX (q := 700) F 27 rfl nd27 dL_does_697 rfl (c_X6_plate l G A a κ.1.1 R sn t κ.1.2.1 κ.1.2.2.1 κ.1.2.2.2.1 κ.1.2.2.2.2 κ.2.1.1 κ.2.1.2.1 κ.2.1.2.2 κ.2.2.1.1 κ.2.2.1.2.1 κ.2.2.1.2.2 κ.2.2.2.1.1 κ.2.2.2.1.2.1 κ.2.2.2.1.2.2 o s bb n κ.2.2.2.2.1 κ.2.2.2.2.2.1 κ.2.2.2.2.2.2.1 κ.2.2.2.2.2.2.2.1 κ.2.2.2.2.2.2.2.2.1 κ.2.2.2.2.2.2.2.2.2.1 κ.2.2.2.2.2.2.2.2.2.2.1 κ.2.2.2.2.2.2.2.2.2.2.2 p q 0 hP.1 hP.2.2.2.1 hP.2.2.2.2 hbb hn ht (by omega) (by omega) (by omega)) gL_does_X6_plate rfl rfl ydX6_plate ⟨Nat.le_of_ble_eq_true rfl, Nat.le_of_ble_eq_true rfl⟩ (ci := 6) rfl rfl rfl rfl (Nat.le_of_ble_eq_true rfl) ⟨Nat.le_of_ble_eq_true rfl, Nat.le_of_ble_eq_true rfl⟩ (fun r9 w9 h9 => ?_)
            rw [rPlate_0 (a := a) (p := p) (q := q) (by omega) (by omega)] at h9
            obtain ⟨κ, rfl, rfl⟩ := h9
            refine V.eq (pc' := 700) (st' := [_, _]) (ws' := WX A G a o s R bb sn t n κ ++ [(wa, aI G 48 wf)]) rfl rfl rfl rfl ?_
            refine V.iadd (q := 701) F dL_does_700 rfl ?_
            refine V.aload_n (q := 702) F dL_does_701 rfl rfl rfl ?_
            refine V.iload (q := 704) F dL_does_702 rfl rfl ?_
            refine V.iload (q := 706) F dL_does_704 rfl rfl ?_
            refine V.iconst (q := 707) F dL_does_706 rfl ?_
            refine V.callX (q := 710) F 27 rfl nd27 dL_does_707 rfl (c_X6_plate l G A a κ.1.1 R sn t κ.1.2.1 κ.1.2.2.1 κ.1.2.2.2.1 κ.1.2.2.2.2 κ.2.1.1 κ.2.1.2.1 κ.2.1.2.2 κ.2.2.1.1 κ.2.2.1.2.1 κ.2.2.1.2.2 κ.2.2.2.1.1 κ.2.2.2.1.2.1 κ.2.2.2.1.2.2 o s bb n κ.2.2.2.2.1 κ.2.2.2.2.2.1 κ.2.2.2.2.2.2.1 κ.2.2.2.2.2.2.2.1 κ.2.2.2.2.2.2.2.2.1 κ.2.2.2.2.2.2.2.2.2.1 κ.2.2.2.2.2.2.2.2.2.2.1 κ.2.2.2.2.2.2.2.2.2.2.2 p q 3 hP.1 hP.2.2.2.1 hP.2.2.2.2 hbb hn ht (by omega) (by omega) (by omega)) gL_does_X6_plate rfl rfl ydX6_plate ⟨Nat.le_of_ble_eq_true rfl, Nat.le_of_ble_eq_true rfl⟩ (ci := 6) rfl rfl rfl rfl (Nat.le_of_ble_eq_true rfl) ⟨Nat.le_of_ble_eq_true rfl, Nat.le_of_ble_eq_true rfl⟩ (fun r9 w9 h9 => ?_)
            rw [rPlate_3 (a := a) (p := p) (q := q) (by omega) (by omega)] at h9
            obtain ⟨κ, rfl, rfl⟩ := h9
            refine V.eq (pc' := 710) (st' := [_, _]) (ws' := WX A G a o s R bb sn t n κ ++ [(wa, aI G 48 wf)]) rfl rfl rfl rfl ?_
            refine V.iadd (q := 711) F dL_does_710 rfl ?_
            refine V.if_ne (q := 714) (tgt := 718) F dL_does_711 rfl (by decide) (by omega) (fun k711 => by exfalso; omega) (fun k711 => ?_)
            refine V.iconst (q := 715) F dL_does_714 rfl ?_
            refine V.goto (tgt := 719) F dL_does_715 (by decide) ?_
            exact V.zret F T (Or.inr rfl) dL_does_719 ⟨κ, _, _, _, _, _, rfl, (hP.up (by omega)), rfl⟩ [(A 0), (A 1), (A 2), (A 3), (A 4), (A 5), (A 6), (A 7), (A 8), (A 9), (A 10), (A 11), (A 12), (A 13), (A 14), (A 15), (A 16), (A 17), (A 18), (A 19), (A 20), (A 21), (A 22), (A 23), (A 24), (A 25), (A 26), wa] rfl hwc
          refine V.iload (q := 667) F dL_does_665 rfl rfl ?_
          refine V.if_eq (q := 670) (tgt := 675) F dL_does_667 rfl (by decide) (by omega) (fun k667 => ?_) (fun k667 => ?_)
          · refine V.iload (q := 677) F dL_does_675 rfl rfl ?_
            refine V.iconst (q := 678) F dL_does_677 rfl ?_
            refine V.iadd (q := 679) F dL_does_678 rfl ?_
            exact J679 _ _ (by omega)
          · refine V.iload (q := 672) F dL_does_670 rfl rfl ?_
            refine V.goto (tgt := 679) F dL_does_672 (by decide) ?_
            exact J679 _ _ (by omega)
        refine V.iload (q := 647) F dL_does_645 rfl rfl ?_
        refine V.if_eq (q := 650) (tgt := 655) F dL_does_647 rfl (by decide) (by omega) (fun k647 => ?_) (fun k647 => ?_)
        · refine V.iload (q := 657) F dL_does_655 rfl rfl ?_
          exact J657 _ _ (by omega)
        · refine V.bipush (q := 652) F dL_does_650 rfl (by decide) ?_
          refine V.goto (tgt := 657) F dL_does_652 (by decide) ?_
          exact J657 _ _ (by omega)
      · have e9 := hpos hs
        subst e9
        refine V.eq (pc' := 645) (st' := [_]) (ws' := WX A G (newA a (p * 4 + q)) (oN o s) (sN s) (RN a o s R) bb sn t n κ ++ [(wa, aI G 48 wf)]) rfl rfl rfl rfl ?_
        have hP3 := hP.new hr
        have hrl := ren_law (a := a) hr
        have J657 : ∀ (x657 : Int) (κ : Scr) (hx657 : x657 = if nw = 0 then a (26160 + (p * 4 + q)) else -5), V X (YL_does l G) 0 0 657 [some (.ref (A 0)), some (.int (zI v)), some (.int (zI w)), some (.ref wa), some (.int (zI p)), some (.int (zI q)), some (.int (zI d)), some (.int (zI x)), some (.int (zI h)), some (.int (zI (a (25344 + (p * 4 + q)) + a (25360 + (p * 4 + q))))), some (.int (zI kd)), some (.int (zI (phz a (p * 4 + q) d kd))), some (.int (zI ft)), none, none, none, none, none, none, some (.int (zI (a (26160 + (p * 4 + q))))), some (.int (zI nw)), some (.int (zI (a 26180)))] [.int (zI x657), .int (zI (rRen a p q))] (WX A G (newA a (p * 4 + q)) (oN o s) (sN s) (RN a o s R) bb sn t n κ ++ [(wa, aI G 48 wf)]) := by
          intro x657 κ hx657
          refine V.icmp_ne (q := 660) (tgt := 718) F dL_does_657 rfl (by decide) (by omega) (fun k657 => by exfalso; omega) (fun k657 => ?_)
          refine V.aload_n (q := 661) F dL_does_660 rfl rfl rfl ?_
          refine V.iconst (q := 662) F dL_does_661 rfl ?_
          refine V.callX (q := 665) F 27 rfl nd27 dL_does_662 rfl (c_X6_count l G A (newA a (p * 4 + q)) κ.1.1 (RN a o s R) sn t κ.1.2.1 κ.1.2.2.1 κ.1.2.2.2.1 κ.1.2.2.2.2 κ.2.1.1 κ.2.1.2.1 κ.2.1.2.2 κ.2.2.1.1 κ.2.2.1.2.1 κ.2.2.1.2.2 κ.2.2.2.1.1 κ.2.2.2.1.2.1 κ.2.2.2.1.2.2 (oN o s) (sN s) bb n κ.2.2.2.2.1 κ.2.2.2.2.2.1 κ.2.2.2.2.2.2.1 κ.2.2.2.2.2.2.2.1 κ.2.2.2.2.2.2.2.2.1 κ.2.2.2.2.2.2.2.2.2.1 κ.2.2.2.2.2.2.2.2.2.2.1 κ.2.2.2.2.2.2.2.2.2.2.2 5 hP3.1 hP3.2.2.2.1 hP3.2.2.2.2 hbb hn ht (by omega)) gL_does_X6_count rfl rfl ydX6_count ⟨Nat.le_of_ble_eq_true rfl, Nat.le_of_ble_eq_true rfl⟩ (ci := 6) rfl rfl rfl rfl (Nat.le_of_ble_eq_true rfl) ⟨Nat.le_of_ble_eq_true rfl, Nat.le_of_ble_eq_true rfl⟩ (fun r9 w9 h9 => ?_)
          rw [rCount_5] at h9
          obtain ⟨κ, rfl, rfl⟩ := h9
          refine V.eq (pc' := 665) (st' := [_]) (ws' := WX A G (newA a (p * 4 + q)) (oN o s) (sN s) (RN a o s R) bb sn t n κ ++ [(wa, aI G 48 wf)]) rfl rfl rfl rfl ?_
          have J679 : ∀ (x679 : Int) (κ : Scr) (hx679 : x679 = if nw = 0 then a 26180 + 1 else a 26180), V X (YL_does l G) 0 0 679 [some (.ref (A 0)), some (.int (zI v)), some (.int (zI w)), some (.ref wa), some (.int (zI p)), some (.int (zI q)), some (.int (zI d)), some (.int (zI x)), some (.int (zI h)), some (.int (zI (a (25344 + (p * 4 + q)) + a (25360 + (p * 4 + q))))), some (.int (zI kd)), some (.int (zI (phz a (p * 4 + q) d kd))), some (.int (zI ft)), none, none, none, none, none, none, some (.int (zI (a (26160 + (p * 4 + q))))), some (.int (zI nw)), some (.int (zI (a 26180)))] [.int (zI x679), .int (zI ((newA a (p * 4 + q)) 26180))] (WX A G (newA a (p * 4 + q)) (oN o s) (sN s) (RN a o s R) bb sn t n κ ++ [(wa, aI G 48 wf)]) := by
            intro x679 κ hx679
            refine V.icmp_ne (q := 682) (tgt := 718) F dL_does_679 rfl (by decide) (by omega) (fun k679 => by exfalso; omega) (fun k679 => ?_)
            refine V.aload_n (q := 683) F dL_does_682 rfl rfl rfl ?_
            refine V.iload (q := 685) F dL_does_683 rfl rfl ?_
            refine V.iload (q := 687) F dL_does_685 rfl rfl ?_
            refine V.iconst (q := 688) F dL_does_687 rfl ?_
            refine V.callX (q := 691) F 27 rfl nd27 dL_does_688 rfl (c_X6_plate l G A (newA a (p * 4 + q)) κ.1.1 (RN a o s R) sn t κ.1.2.1 κ.1.2.2.1 κ.1.2.2.2.1 κ.1.2.2.2.2 κ.2.1.1 κ.2.1.2.1 κ.2.1.2.2 κ.2.2.1.1 κ.2.2.1.2.1 κ.2.2.1.2.2 κ.2.2.2.1.1 κ.2.2.2.1.2.1 κ.2.2.2.1.2.2 (oN o s) (sN s) bb n κ.2.2.2.2.1 κ.2.2.2.2.2.1 κ.2.2.2.2.2.2.1 κ.2.2.2.2.2.2.2.1 κ.2.2.2.2.2.2.2.2.1 κ.2.2.2.2.2.2.2.2.2.1 κ.2.2.2.2.2.2.2.2.2.2.1 κ.2.2.2.2.2.2.2.2.2.2.2 p q 1 hP3.1 hP3.2.2.2.1 hP3.2.2.2.2 hbb hn ht (by omega) (by omega) (by omega)) gL_does_X6_plate rfl rfl ydX6_plate ⟨Nat.le_of_ble_eq_true rfl, Nat.le_of_ble_eq_true rfl⟩ (ci := 6) rfl rfl rfl rfl (Nat.le_of_ble_eq_true rfl) ⟨Nat.le_of_ble_eq_true rfl, Nat.le_of_ble_eq_true rfl⟩ (fun r9 w9 h9 => ?_)
            rw [rPlate_1 (a := (newA a (p * 4 + q))) (p := p) (q := q) (by omega) (by omega)] at h9
            obtain ⟨κ, rfl, rfl⟩ := h9
            refine V.eq (pc' := 691) (st' := [_]) (ws' := WX A G (newA a (p * 4 + q)) (oN o s) (sN s) (RN a o s R) bb sn t n κ ++ [(wa, aI G 48 wf)]) rfl rfl rfl rfl ?_
            refine V.aload_n (q := 692) F dL_does_691 rfl rfl rfl ?_
            refine V.iload (q := 694) F dL_does_692 rfl rfl ?_
            refine V.iload (q := 696) F dL_does_694 rfl rfl ?_
            refine V.iconst (q := 697) F dL_does_696 rfl ?_
            refine V.callX (q := 700) F 27 rfl nd27 dL_does_697 rfl (c_X6_plate l G A (newA a (p * 4 + q)) κ.1.1 (RN a o s R) sn t κ.1.2.1 κ.1.2.2.1 κ.1.2.2.2.1 κ.1.2.2.2.2 κ.2.1.1 κ.2.1.2.1 κ.2.1.2.2 κ.2.2.1.1 κ.2.2.1.2.1 κ.2.2.1.2.2 κ.2.2.2.1.1 κ.2.2.2.1.2.1 κ.2.2.2.1.2.2 (oN o s) (sN s) bb n κ.2.2.2.2.1 κ.2.2.2.2.2.1 κ.2.2.2.2.2.2.1 κ.2.2.2.2.2.2.2.1 κ.2.2.2.2.2.2.2.2.1 κ.2.2.2.2.2.2.2.2.2.1 κ.2.2.2.2.2.2.2.2.2.2.1 κ.2.2.2.2.2.2.2.2.2.2.2 p q 0 hP3.1 hP3.2.2.2.1 hP3.2.2.2.2 hbb hn ht (by omega) (by omega) (by omega)) gL_does_X6_plate rfl rfl ydX6_plate ⟨Nat.le_of_ble_eq_true rfl, Nat.le_of_ble_eq_true rfl⟩ (ci := 6) rfl rfl rfl rfl (Nat.le_of_ble_eq_true rfl) ⟨Nat.le_of_ble_eq_true rfl, Nat.le_of_ble_eq_true rfl⟩ (fun r9 w9 h9 => ?_)
            rw [rPlate_0 (a := (newA a (p * 4 + q))) (p := p) (q := q) (by omega) (by omega)] at h9
            obtain ⟨κ, rfl, rfl⟩ := h9
            refine V.eq (pc' := 700) (st' := [_, _]) (ws' := WX A G (newA a (p * 4 + q)) (oN o s) (sN s) (RN a o s R) bb sn t n κ ++ [(wa, aI G 48 wf)]) rfl rfl rfl rfl ?_
            refine V.iadd (q := 701) F dL_does_700 rfl ?_
            refine V.aload_n (q := 702) F dL_does_701 rfl rfl rfl ?_
            refine V.iload (q := 704) F dL_does_702 rfl rfl ?_
            refine V.iload (q := 706) F dL_does_704 rfl rfl ?_
            refine V.iconst (q := 707) F dL_does_706 rfl ?_
            refine V.callX (q := 710) F 27 rfl nd27 dL_does_707 rfl (c_X6_plate l G A (newA a (p * 4 + q)) κ.1.1 (RN a o s R) sn t κ.1.2.1 κ.1.2.2.1 κ.1.2.2.2.1 κ.1.2.2.2.2 κ.2.1.1 κ.2.1.2.1 κ.2.1.2.2 κ.2.2.1.1 κ.2.2.1.2.1 κ.2.2.1.2.2 κ.2.2.2.1.1 κ.2.2.2.1.2.1 κ.2.2.2.1.2.2 (oN o s) (sN s) bb n κ.2.2.2.2.1 κ.2.2.2.2.2.1 κ.2.2.2.2.2.2.1 κ.2.2.2.2.2.2.2.1 κ.2.2.2.2.2.2.2.2.1 κ.2.2.2.2.2.2.2.2.2.1 κ.2.2.2.2.2.2.2.2.2.2.1 κ.2.2.2.2.2.2.2.2.2.2.2 p q 3 hP3.1 hP3.2.2.2.1 hP3.2.2.2.2 hbb hn ht (by omega) (by omega) (by omega)) gL_does_X6_plate rfl rfl ydX6_plate ⟨Nat.le_of_ble_eq_true rfl, Nat.le_of_ble_eq_true rfl⟩ (ci := 6) rfl rfl rfl rfl (Nat.le_of_ble_eq_true rfl) ⟨Nat.le_of_ble_eq_true rfl, Nat.le_of_ble_eq_true rfl⟩ (fun r9 w9 h9 => ?_)
            rw [rPlate_3 (a := (newA a (p * 4 + q))) (p := p) (q := q) (by omega) (by omega)] at h9
            obtain ⟨κ, rfl, rfl⟩ := h9
            refine V.eq (pc' := 710) (st' := [_, _]) (ws' := WX A G (newA a (p * 4 + q)) (oN o s) (sN s) (RN a o s R) bb sn t n κ ++ [(wa, aI G 48 wf)]) rfl rfl rfl rfl ?_
            refine V.iadd (q := 711) F dL_does_710 rfl ?_
            refine V.if_ne (q := 714) (tgt := 718) F dL_does_711 rfl (by decide) (by omega) (fun k711 => by exfalso; omega) (fun k711 => ?_)
            refine V.iconst (q := 715) F dL_does_714 rfl ?_
            refine V.goto (tgt := 719) F dL_does_715 (by decide) ?_
            exact V.zret F T (Or.inr rfl) dL_does_719 ⟨κ, _, _, _, _, _, rfl, hP3, rfl⟩ [(A 0), (A 1), (A 2), (A 3), (A 4), (A 5), (A 6), (A 7), (A 8), (A 9), (A 10), (A 11), (A 12), (A 13), (A 14), (A 15), (A 16), (A 17), (A 18), (A 19), (A 20), (A 21), (A 22), (A 23), (A 24), (A 25), (A 26), wa] rfl hwc
          refine V.iload (q := 667) F dL_does_665 rfl rfl ?_
          refine V.if_eq (q := 670) (tgt := 675) F dL_does_667 rfl (by decide) (by omega) (fun k667 => ?_) (fun k667 => ?_)
          · refine V.iload (q := 677) F dL_does_675 rfl rfl ?_
            refine V.iconst (q := 678) F dL_does_677 rfl ?_
            refine V.iadd (q := 679) F dL_does_678 rfl ?_
            exact J679 _ _ (by omega)
          · refine V.iload (q := 672) F dL_does_670 rfl rfl ?_
            refine V.goto (tgt := 679) F dL_does_672 (by decide) ?_
            exact J679 _ _ (by omega)
        refine V.iload (q := 647) F dL_does_645 rfl rfl ?_
        refine V.if_eq (q := 650) (tgt := 655) F dL_does_647 rfl (by decide) (by omega) (fun k647 => ?_) (fun k647 => ?_)
        · refine V.iload (q := 657) F dL_does_655 rfl rfl ?_
          exact J657 _ _ (by omega)
        · refine V.bipush (q := 652) F dL_does_650 rfl (by decide) ?_
          refine V.goto (tgt := 657) F dL_does_652 (by decide) ?_
          exact J657 _ _ (by omega)
  refine V.iload (q := 590) F dL_does_588 rfl rfl ?_
  refine V.if_ne (q := 593) (tgt := 621) F dL_does_590 rfl (by decide) (by omega) (fun k590 => ?_) (fun k590 => ?_)
  · refine V.iconst (q := 622) F dL_does_621 rfl ?_
    exact J622 _ _ (by omega)
  · refine V.aload_n (q := 594) F dL_does_593 rfl rfl rfl ?_
    refine V.iload (q := 596) F dL_does_594 rfl rfl ?_
    refine V.iload (q := 598) F dL_does_596 rfl rfl ?_
    refine V.iconst (q := 599) F dL_does_598 rfl ?_
    refine V.callX (q := 602) F 27 rfl nd27 dL_does_599 rfl (c_X6_plate l G A a κ.1.1 R sn t κ.1.2.1 κ.1.2.2.1 κ.1.2.2.2.1 κ.1.2.2.2.2 κ.2.1.1 κ.2.1.2.1 κ.2.1.2.2 κ.2.2.1.1 κ.2.2.1.2.1 κ.2.2.1.2.2 κ.2.2.2.1.1 κ.2.2.2.1.2.1 κ.2.2.2.1.2.2 o s bb n κ.2.2.2.2.1 κ.2.2.2.2.2.1 κ.2.2.2.2.2.2.1 κ.2.2.2.2.2.2.2.1 κ.2.2.2.2.2.2.2.2.1 κ.2.2.2.2.2.2.2.2.2.1 κ.2.2.2.2.2.2.2.2.2.2.1 κ.2.2.2.2.2.2.2.2.2.2.2 p q 0 hP.1 hP.2.2.2.1 hP.2.2.2.2 hbb hn ht (by omega) (by omega) (by omega)) gL_does_X6_plate rfl rfl ydX6_plate ⟨Nat.le_of_ble_eq_true rfl, Nat.le_of_ble_eq_true rfl⟩ (ci := 6) rfl rfl rfl rfl (Nat.le_of_ble_eq_true rfl) ⟨Nat.le_of_ble_eq_true rfl, Nat.le_of_ble_eq_true rfl⟩ (fun r9 w9 h9 => ?_)
    rw [rPlate_0 (a := a) (p := p) (q := q) (by omega) (by omega)] at h9
    obtain ⟨κ, rfl, rfl⟩ := h9
    refine V.eq (pc' := 602) (st' := [_]) (ws' := WX A G a o s R bb sn t n κ ++ [(wa, aI G 48 wf)]) rfl rfl rfl rfl ?_
    refine V.if_ne (q := 605) (tgt := 621) F dL_does_602 rfl (by decide) (by omega) (fun k602 => ?_) (fun k602 => ?_)
    · refine V.iconst (q := 622) F dL_does_621 rfl ?_
      exact J622 _ _ (by omega)
    · refine V.aload_n (q := 606) F dL_does_605 rfl rfl rfl ?_
      refine V.iload (q := 608) F dL_does_606 rfl rfl ?_
      refine V.iload (q := 610) F dL_does_608 rfl rfl ?_
      refine V.iconst (q := 611) F dL_does_610 rfl ?_
      refine V.callX (q := 614) F 27 rfl nd27 dL_does_611 rfl (c_X6_plate l G A a κ.1.1 R sn t κ.1.2.1 κ.1.2.2.1 κ.1.2.2.2.1 κ.1.2.2.2.2 κ.2.1.1 κ.2.1.2.1 κ.2.1.2.2 κ.2.2.1.1 κ.2.2.1.2.1 κ.2.2.1.2.2 κ.2.2.2.1.1 κ.2.2.2.1.2.1 κ.2.2.2.1.2.2 o s bb n κ.2.2.2.2.1 κ.2.2.2.2.2.1 κ.2.2.2.2.2.2.1 κ.2.2.2.2.2.2.2.1 κ.2.2.2.2.2.2.2.2.1 κ.2.2.2.2.2.2.2.2.2.1 κ.2.2.2.2.2.2.2.2.2.2.1 κ.2.2.2.2.2.2.2.2.2.2.2 p q 2 hP.1 hP.2.2.2.1 hP.2.2.2.2 hbb hn ht (by omega) (by omega) (by omega)) gL_does_X6_plate rfl rfl ydX6_plate ⟨Nat.le_of_ble_eq_true rfl, Nat.le_of_ble_eq_true rfl⟩ (ci := 6) rfl rfl rfl rfl (Nat.le_of_ble_eq_true rfl) ⟨Nat.le_of_ble_eq_true rfl, Nat.le_of_ble_eq_true rfl⟩ (fun r9 w9 h9 => ?_)
      rw [rPlate_2 (a := a) (p := p) (q := q) (by omega) (by omega)] at h9
      obtain ⟨κ, rfl, rfl⟩ := h9
      refine V.eq (pc' := 614) (st' := [_]) (ws' := WX A G a o s R bb sn t n κ ++ [(wa, aI G 48 wf)]) rfl rfl rfl rfl ?_
      refine V.if_ne (q := 617) (tgt := 621) F dL_does_614 rfl (by decide) (by omega) (fun k614 => ?_) (fun k614 => ?_)
      · refine V.iconst (q := 622) F dL_does_621 rfl ?_
        exact J622 _ _ (by omega)
      · refine V.iconst (q := 618) F dL_does_617 rfl ?_
        refine V.goto (tgt := 622) F dL_does_618 (by decide) ?_
        exact J622 _ _ (by omega)

set_option maxHeartbeats 4000000 in
set_option maxRecDepth 20000 in
theorem dc_720 {X : Cx} {l : Launch} {G : Gx} {A : Nat → Nat} {wa : Nat} {wc : va_W} {a R sn t wf : Int → Int} {o s bb n N v w p q d x h kd ft : Int} {κ : Scr} (F : Fx X (YL_does l G)) (hwc : wc.map Prod.fst = [(A 0), (A 1), (A 2), (A 3), (A 4), (A 5), (A 6), (A 7), (A 8), (A 9), (A 10), (A 11), (A 12), (A 13), (A 14), (A 15), (A 16), (A 17), (A 18), (A 19), (A 20), (A 21), (A 22), (A 23), (A 24), (A 25), (A 26), wa]) (T : Rt X (YL_does l G) (some .boolean) wc (DoX A G wa (N + 1) bb sn t n)) (hP : PI N a o s) (hbb : 0 ≤ bb ∧ bb ≤ 1) (hn : 0 ≤ n ∧ n ≤ 80) (ht : ∀ j, 0 ≤ t j ∧ t j < 65536) (hN : 0 ≤ N ∧ N ≤ 1000) (hv : -2147483648 ≤ v ∧ v < 2147483648) (hw9 : -2147483648 ≤ w ∧ w < 2147483648) (hp : 0 ≤ p ∧ p ≤ 3) (hq4 : 0 ≤ q ∧ q ≤ 3) (hd : 0 ≤ d ∧ d ≤ 15) (hx : 1 ≤ x ∧ x ≤ 99) (hh : 1 ≤ h ∧ h ≤ 99) (hkd : kd = if x < a 26176 then 0 else if x < a 26177 then 1 else 2) (hft : ft = if a (25344 + (p * 4 + q)) + a (25360 + (p * 4 + q)) + h ≤ 9999 then 1 else 0) : V X (YL_does l G) 0 0 720 [some (.ref (A 0)), some (.int (zI v)), some (.int (zI w)), some (.ref wa), some (.int (zI p)), some (.int (zI q)), some (.int (zI d)), some (.int (zI x)), some (.int (zI h)), some (.int (zI (a (25344 + (p * 4 + q)) + a (25360 + (p * 4 + q))))), some (.int (zI kd)), some (.int (zI (phz a (p * 4 + q) d kd))), some (.int (zI ft)), none, none, none, none, none, none, none, none, none] [] (WX A G a o s R bb sn t n κ ++ [(wa, aI G 48 wf)]) := by
  have hr : 0 ≤ p * 4 + q ∧ p * 4 + q < 16 := by omega
  have hI := hP.1
  have hw := hI.w hr
  have hset := hI.s
  have hkp := phz_rng hI hr (d := d) (k := kd) (by omega) (by omega)
  refine V.aload_n (q := 721) F dL_does_720 rfl rfl rfl ?_
  refine V.iload (q := 723) F dL_does_721 rfl rfl ?_
  refine V.iload (q := 725) F dL_does_723 rfl rfl ?_
  refine V.callSX (q := 728) F 27 rfl nd27 dL_does_725 rfl (c_L_areQuarters l G A a R sn t o s bb n N p q κ hP hbb hn ht hp hq4) gL_does_L_areQuarters rfl ydL_areQuarters ⟨Nat.le_of_ble_eq_true rfl, Nat.le_of_ble_eq_true rfl⟩ rfl rfl (Nat.le_of_ble_eq_true rfl) ⟨Nat.le_of_ble_eq_true rfl, Nat.le_of_ble_eq_true rfl⟩ (fun r9 w9 h9 => ?_)
  obtain ⟨κ, rfl, rfl⟩ := h9
  refine V.eq (pc' := 728) (st' := [_]) (ws' := WX A G a o s R bb sn t n κ ++ [(wa, aI G 48 wf)]) rfl rfl rfl rfl ?_
  refine V.if_eq (q := 731) (tgt := 756) F dL_does_728 rfl (by decide) (by omega) (fun k728 => by exfalso; omega) (fun k728 => ?_)
  refine V.aload_n (q := 732) F dL_does_731 rfl rfl rfl ?_
  refine V.iload (q := 734) F dL_does_732 rfl rfl ?_
  refine V.iload_n (q := 735) F dL_does_734 rfl rfl rfl ?_
  refine V.iconst (q := 736) F dL_does_735 rfl ?_
  refine V.iandR (q := 737) F dL_does_736 rfl ?_
  rw [zI_and3]
  refine V.iload (q := 739) F dL_does_737 rfl rfl ?_
  refine V.iload_n (q := 740) F dL_does_739 rfl rfl rfl ?_
  refine V.iconst (q := 741) F dL_does_740 rfl ?_
  refine V.ishrR (q := 742) F dL_does_741 rfl (zI_shr (by omega) (zI 2) 2 4 (by decide +kernel) (by decide +kernel) (by omega)) ?_
  refine V.iconst (q := 743) F dL_does_742 rfl ?_
  refine V.callS (q := 746) F [] dL_does_743 rfl (c_L_low l G (w / 4) 3 (by omega) (by omega)) gL_does_L_low rfl ydL_low ⟨Nat.le_of_ble_eq_true rfl, Nat.le_of_ble_eq_true rfl⟩ rfl rfl (Nat.le_of_ble_eq_true rfl) rfl rfl ⟨Nat.le_of_ble_eq_true rfl, Nat.le_of_ble_eq_true rfl⟩ (kkf (st' := [_, _, _, _, _]) (ws' := WX A G a o s R bb sn t n κ ++ [(wa, aI G 48 wf)]) rfl rfl ?_)
  refine V.callSX (q := 749) F 27 rfl nd27 dL_does_746 rfl (c_L_isUnlike l G A a R sn t o s bb n N p (w % 4) q ((w / 4) % 2147483648 % 3) κ hP hbb hn ht hp (by omega) hq4 (by omega)) gL_does_L_isUnlike rfl ydL_isUnlike ⟨Nat.le_of_ble_eq_true rfl, Nat.le_of_ble_eq_true rfl⟩ rfl rfl (Nat.le_of_ble_eq_true rfl) ⟨Nat.le_of_ble_eq_true rfl, Nat.le_of_ble_eq_true rfl⟩ (fun r9 w9 h9 => ?_)
  obtain ⟨κ, rfl, rfl⟩ := h9
  refine V.eq (pc' := 749) (st' := [_]) (ws' := WX A G a o s R bb sn t n κ ++ [(wa, aI G 48 wf)]) rfl rfl rfl rfl ?_
  refine V.if_eq (q := 752) (tgt := 756) F dL_does_749 rfl (by decide) (by omega) (fun k749 => by exfalso; omega) (fun k749 => ?_)
  refine V.iconst (q := 753) F dL_does_752 rfl ?_
  refine V.goto (tgt := 757) F dL_does_753 (by decide) ?_
  exact V.zret F T (Or.inr rfl) dL_does_757 ⟨κ, _, _, _, _, _, rfl, (hP.up (by omega)), rfl⟩ [(A 0), (A 1), (A 2), (A 3), (A 4), (A 5), (A 6), (A 7), (A 8), (A 9), (A 10), (A 11), (A 12), (A 13), (A 14), (A 15), (A 16), (A 17), (A 18), (A 19), (A 20), (A 21), (A 22), (A 23), (A 24), (A 25), (A 26), wa] rfl hwc

set_option maxHeartbeats 4000000 in
set_option maxRecDepth 20000 in
theorem dc_758 {X : Cx} {l : Launch} {G : Gx} {A : Nat → Nat} {wa : Nat} {wc : va_W} {a R sn t wf : Int → Int} {o s bb n N v w p q d x h kd ft : Int} {κ : Scr} (F : Fx X (YL_does l G)) (hwc : wc.map Prod.fst = [(A 0), (A 1), (A 2), (A 3), (A 4), (A 5), (A 6), (A 7), (A 8), (A 9), (A 10), (A 11), (A 12), (A 13), (A 14), (A 15), (A 16), (A 17), (A 18), (A 19), (A 20), (A 21), (A 22), (A 23), (A 24), (A 25), (A 26), wa]) (T : Rt X (YL_does l G) (some .boolean) wc (DoX A G wa (N + 1) bb sn t n)) (hP : PI N a o s) (hbb : 0 ≤ bb ∧ bb ≤ 1) (hn : 0 ≤ n ∧ n ≤ 80) (ht : ∀ j, 0 ≤ t j ∧ t j < 65536) (hN : 0 ≤ N ∧ N ≤ 1000) (hv : -2147483648 ≤ v ∧ v < 2147483648) (hw9 : -2147483648 ≤ w ∧ w < 2147483648) (hp : 0 ≤ p ∧ p ≤ 3) (hq4 : 0 ≤ q ∧ q ≤ 3) (hd : 0 ≤ d ∧ d ≤ 15) (hx : 1 ≤ x ∧ x ≤ 99) (hh : 1 ≤ h ∧ h ≤ 99) (hkd : kd = if x < a 26176 then 0 else if x < a 26177 then 1 else 2) (hft : ft = if a (25344 + (p * 4 + q)) + a (25360 + (p * 4 + q)) + h ≤ 9999 then 1 else 0) : V X (YL_does l G) 0 0 758 [some (.ref (A 0)), some (.int (zI v)), some (.int (zI w)), some (.ref wa), some (.int (zI p)), some (.int (zI q)), some (.int (zI d)), some (.int (zI x)), some (.int (zI h)), some (.int (zI (a (25344 + (p * 4 + q)) + a (25360 + (p * 4 + q))))), some (.int (zI kd)), some (.int (zI (phz a (p * 4 + q) d kd))), some (.int (zI ft)), none, none, none, none, none, none, none, none, none] [] (WX A G a o s R bb sn t n κ ++ [(wa, aI G 48 wf)]) := by
  have hr : 0 ≤ p * 4 + q ∧ p * 4 + q < 16 := by omega
  have hI := hP.1
  have hw := hI.w hr
  have hset := hI.s
  have hkp := phz_rng hI hr (d := d) (k := kd) (by omega) (by omega)
  have eR : rLog a p q d x h = if ¬ (((0 ≤ p ∧ p ≤ 3) ∧ (0 ≤ q ∧ q ≤ 3)) ∧ (0 ≤ d ∧ d ≤ 15)) then -1 else if ¬ ((1 ≤ x ∧ x ≤ 99) ∧ (1 ≤ h ∧ h ≤ 99)) then -2 else if 9999 < a (25344 + (p * 4 + q)) + a (25360 + (p * 4 + q)) + h then -3 else a (25344 + (p * 4 + q)) + a (25360 + (p * 4 + q)) + h := rfl
  have hd16 : 0 ≤ d ∧ d < 16 := by omega
  refine V.aload_n (q := 759) F dL_does_758 rfl rfl rfl ?_
  refine V.iload (q := 761) F dL_does_759 rfl rfl ?_
  refine V.iload (q := 763) F dL_does_761 rfl rfl ?_
  refine V.iload (q := 765) F dL_does_763 rfl rfl ?_
  refine V.iload (q := 767) F dL_does_765 rfl rfl ?_
  refine V.iload (q := 769) F dL_does_767 rfl rfl ?_
  refine V.callX (q := 772) F 27 rfl nd27 dL_does_769 rfl (c_X6_log l G A a κ.1.1 R sn t κ.1.2.1 κ.1.2.2.1 κ.1.2.2.2.1 κ.1.2.2.2.2 κ.2.1.1 κ.2.1.2.1 κ.2.1.2.2 κ.2.2.1.1 κ.2.2.1.2.1 κ.2.2.1.2.2 κ.2.2.2.1.1 κ.2.2.2.1.2.1 κ.2.2.2.1.2.2 o s bb n κ.2.2.2.2.1 κ.2.2.2.2.2.1 κ.2.2.2.2.2.2.1 κ.2.2.2.2.2.2.2.1 κ.2.2.2.2.2.2.2.2.1 κ.2.2.2.2.2.2.2.2.2.1 κ.2.2.2.2.2.2.2.2.2.2.1 κ.2.2.2.2.2.2.2.2.2.2.2 p q d x h hP.1 hP.2.2.2.1 hP.2.2.2.2 hbb hn ht (by omega) (by omega) (by omega) (by omega) (by omega)) gL_does_X6_log rfl rfl ydX6_log ⟨Nat.le_of_ble_eq_true rfl, Nat.le_of_ble_eq_true rfl⟩ (ci := 6) rfl rfl rfl rfl (Nat.le_of_ble_eq_true rfl) ⟨Nat.le_of_ble_eq_true rfl, Nat.le_of_ble_eq_true rfl⟩ (fun r9 w9 h9 => ?_)
  obtain ⟨κ, rfl, hneg, hpos⟩ := h9
  rcases Int.lt_or_le (rLog a p q d x h) 0 with hs | hs
  · have e9 := hneg hs
    subst e9
    refine V.eq (pc' := 772) (st' := [_]) (ws' := WX A G a o s R bb sn t n κ ++ [(wa, aI G 48 wf)]) rfl rfl rfl rfl ?_
    have J787 : ∀ (x787 : Int) (κ : Scr) (hx787 : x787 = if ft = 0 then -3 else a (25344 + (p * 4 + q)) + a (25360 + (p * 4 + q)) + h), V X (YL_does l G) 0 0 787 [some (.ref (A 0)), some (.int (zI v)), some (.int (zI w)), some (.ref wa), some (.int (zI p)), some (.int (zI q)), some (.int (zI d)), some (.int (zI x)), some (.int (zI h)), some (.int (zI (a (25344 + (p * 4 + q)) + a (25360 + (p * 4 + q))))), some (.int (zI kd)), some (.int (zI (phz a (p * 4 + q) d kd))), some (.int (zI ft)), none, none, none, none, none, none, none, none, none] [.int (zI x787), .int (zI (rLog a p q d x h))] (WX A G a o s R bb sn t n κ ++ [(wa, aI G 48 wf)]) := by
      intro x787 κ hx787
      refine V.icmp_ne (q := 790) (tgt := 824) F dL_does_787 rfl (by decide) (by omega) (fun k787 => by exfalso; omega) (fun k787 => ?_)
      refine V.aload_n (q := 791) F dL_does_790 rfl rfl rfl ?_
      refine V.iload (q := 793) F dL_does_791 rfl rfl ?_
      refine V.iload (q := 795) F dL_does_793 rfl rfl ?_
      refine V.iload (q := 797) F dL_does_795 rfl rfl ?_
      refine V.iload (q := 799) F dL_does_797 rfl rfl ?_
      refine V.callX (q := 802) F 27 rfl nd27 dL_does_799 rfl (c_X6_hours l G A a κ.1.1 R sn t κ.1.2.1 κ.1.2.2.1 κ.1.2.2.2.1 κ.1.2.2.2.2 κ.2.1.1 κ.2.1.2.1 κ.2.1.2.2 κ.2.2.1.1 κ.2.2.1.2.1 κ.2.2.1.2.2 κ.2.2.2.1.1 κ.2.2.2.1.2.1 κ.2.2.2.1.2.2 o s bb n κ.2.2.2.2.1 κ.2.2.2.2.2.1 κ.2.2.2.2.2.2.1 κ.2.2.2.2.2.2.2.1 κ.2.2.2.2.2.2.2.2.1 κ.2.2.2.2.2.2.2.2.2.1 κ.2.2.2.2.2.2.2.2.2.2.1 κ.2.2.2.2.2.2.2.2.2.2.2 p q d kd hP.1 hP.2.2.2.1 hP.2.2.2.2 hbb hn ht (by omega) (by omega) (by omega) (by omega)) gL_does_X6_hours rfl rfl ydX6_hours ⟨Nat.le_of_ble_eq_true rfl, Nat.le_of_ble_eq_true rfl⟩ (ci := 6) rfl rfl rfl rfl (Nat.le_of_ble_eq_true rfl) ⟨Nat.le_of_ble_eq_true rfl, Nat.le_of_ble_eq_true rfl⟩ (fun r9 w9 h9 => ?_)
      rw [rHours_k (a := a) (p := p) (q := q) (by omega) (by omega) (d := d) (k := kd) (by omega) (by omega)] at h9
      obtain ⟨κ, rfl, rfl⟩ := h9
      refine V.eq (pc' := 802) (st' := [_]) (ws' := WX A G a o s R bb sn t n κ ++ [(wa, aI G 48 wf)]) rfl rfl rfl rfl ?_
      have J817 : ∀ (x817 : Int) (κ : Scr) (hx817 : x817 = if ft = 0 then phz a (p * 4 + q) d kd else phz a (p * 4 + q) d kd + h), V X (YL_does l G) 0 0 817 [some (.ref (A 0)), some (.int (zI v)), some (.int (zI w)), some (.ref wa), some (.int (zI p)), some (.int (zI q)), some (.int (zI d)), some (.int (zI x)), some (.int (zI h)), some (.int (zI (a (25344 + (p * 4 + q)) + a (25360 + (p * 4 + q))))), some (.int (zI kd)), some (.int (zI (phz a (p * 4 + q) d kd))), some (.int (zI ft)), none, none, none, none, none, none, none, none, none] [.int (zI x817), .int (zI (phz a (p * 4 + q) d kd))] (WX A G a o s R bb sn t n κ ++ [(wa, aI G 48 wf)]) := by
        intro x817 κ hx817
        refine V.icmp_ne (q := 820) (tgt := 824) F dL_does_817 rfl (by decide) (by omega) (fun k817 => by exfalso; omega) (fun k817 => ?_)
        refine V.iconst (q := 821) F dL_does_820 rfl ?_
        refine V.goto (tgt := 825) F dL_does_821 (by decide) ?_
        exact V.zret F T (Or.inr rfl) dL_does_825 ⟨κ, _, _, _, _, _, rfl, (hP.up (by omega)), rfl⟩ [(A 0), (A 1), (A 2), (A 3), (A 4), (A 5), (A 6), (A 7), (A 8), (A 9), (A 10), (A 11), (A 12), (A 13), (A 14), (A 15), (A 16), (A 17), (A 18), (A 19), (A 20), (A 21), (A 22), (A 23), (A 24), (A 25), (A 26), wa] rfl hwc
      refine V.iload (q := 804) F dL_does_802 rfl rfl ?_
      refine V.if_eq (q := 807) (tgt := 815) F dL_does_804 rfl (by decide) (by omega) (fun k804 => ?_) (fun k804 => ?_)
      · refine V.iload (q := 817) F dL_does_815 rfl rfl ?_
        exact J817 _ _ (by omega)
      · refine V.iload (q := 809) F dL_does_807 rfl rfl ?_
        refine V.iload (q := 811) F dL_does_809 rfl rfl ?_
        refine V.iadd (q := 812) F dL_does_811 rfl ?_
        refine V.goto (tgt := 817) F dL_does_812 (by decide) ?_
        exact J817 _ _ (by omega)
    refine V.iload (q := 774) F dL_does_772 rfl rfl ?_
    refine V.if_eq (q := 777) (tgt := 785) F dL_does_774 rfl (by decide) (by omega) (fun k774 => ?_) (fun k774 => ?_)
    · refine V.bipush (q := 787) F dL_does_785 rfl (by decide) ?_
      exact J787 _ _ (by omega)
    · refine V.iload (q := 779) F dL_does_777 rfl rfl ?_
      refine V.iload (q := 781) F dL_does_779 rfl rfl ?_
      refine V.iadd (q := 782) F dL_does_781 rfl ?_
      refine V.goto (tgt := 787) F dL_does_782 (by decide) ?_
      exact J787 _ _ (by omega)
  · have e9 := hpos hs
    subst e9
    refine V.eq (pc' := 772) (st' := [_]) (ws' := WX A G (addW a (p * 4 + q) d x h) (oN o s) (sN s) (RN a o s R) bb sn t n κ ++ [(wa, aI G 48 wf)]) rfl rfl rfl rfl ?_
    have hat := addW_at (a := a) (h := h) hr hd16 hx
    have hP2 : PI N (addW a (p * 4 + q) d x h) (oN o s) (sN s) := hP.aW hr hd16 hx (inv_log hI hs)
    have hpa := phz_add (h := h) hI hr hd16 hx
    rw [← hkd] at hpa
    have J787 : ∀ (x787 : Int) (κ : Scr) (hx787 : x787 = if ft = 0 then -3 else a (25344 + (p * 4 + q)) + a (25360 + (p * 4 + q)) + h), V X (YL_does l G) 0 0 787 [some (.ref (A 0)), some (.int (zI v)), some (.int (zI w)), some (.ref wa), some (.int (zI p)), some (.int (zI q)), some (.int (zI d)), some (.int (zI x)), some (.int (zI h)), some (.int (zI (a (25344 + (p * 4 + q)) + a (25360 + (p * 4 + q))))), some (.int (zI kd)), some (.int (zI (phz a (p * 4 + q) d kd))), some (.int (zI ft)), none, none, none, none, none, none, none, none, none] [.int (zI x787), .int (zI (rLog a p q d x h))] (WX A G (addW a (p * 4 + q) d x h) (oN o s) (sN s) (RN a o s R) bb sn t n κ ++ [(wa, aI G 48 wf)]) := by
      intro x787 κ hx787
      refine V.icmp_ne (q := 790) (tgt := 824) F dL_does_787 rfl (by decide) (by omega) (fun k787 => by exfalso; omega) (fun k787 => ?_)
      refine V.aload_n (q := 791) F dL_does_790 rfl rfl rfl ?_
      refine V.iload (q := 793) F dL_does_791 rfl rfl ?_
      refine V.iload (q := 795) F dL_does_793 rfl rfl ?_
      refine V.iload (q := 797) F dL_does_795 rfl rfl ?_
      refine V.iload (q := 799) F dL_does_797 rfl rfl ?_
      refine V.callX (q := 802) F 27 rfl nd27 dL_does_799 rfl (c_X6_hours l G A (addW a (p * 4 + q) d x h) κ.1.1 (RN a o s R) sn t κ.1.2.1 κ.1.2.2.1 κ.1.2.2.2.1 κ.1.2.2.2.2 κ.2.1.1 κ.2.1.2.1 κ.2.1.2.2 κ.2.2.1.1 κ.2.2.1.2.1 κ.2.2.1.2.2 κ.2.2.2.1.1 κ.2.2.2.1.2.1 κ.2.2.2.1.2.2 (oN o s) (sN s) bb n κ.2.2.2.2.1 κ.2.2.2.2.2.1 κ.2.2.2.2.2.2.1 κ.2.2.2.2.2.2.2.1 κ.2.2.2.2.2.2.2.2.1 κ.2.2.2.2.2.2.2.2.2.1 κ.2.2.2.2.2.2.2.2.2.2.1 κ.2.2.2.2.2.2.2.2.2.2.2 p q d kd hP2.1 hP2.2.2.2.1 hP2.2.2.2.2 hbb hn ht (by omega) (by omega) (by omega) (by omega)) gL_does_X6_hours rfl rfl ydX6_hours ⟨Nat.le_of_ble_eq_true rfl, Nat.le_of_ble_eq_true rfl⟩ (ci := 6) rfl rfl rfl rfl (Nat.le_of_ble_eq_true rfl) ⟨Nat.le_of_ble_eq_true rfl, Nat.le_of_ble_eq_true rfl⟩ (fun r9 w9 h9 => ?_)
      rw [rHours_k (a := (addW a (p * 4 + q) d x h)) (p := p) (q := q) (by omega) (by omega) (d := d) (k := kd) (by omega) (by omega)] at h9
      obtain ⟨κ, rfl, rfl⟩ := h9
      refine V.eq (pc' := 802) (st' := [_]) (ws' := WX A G (addW a (p * 4 + q) d x h) (oN o s) (sN s) (RN a o s R) bb sn t n κ ++ [(wa, aI G 48 wf)]) rfl rfl rfl rfl ?_
      have J817 : ∀ (x817 : Int) (κ : Scr) (hx817 : x817 = if ft = 0 then phz a (p * 4 + q) d kd else phz a (p * 4 + q) d kd + h), V X (YL_does l G) 0 0 817 [some (.ref (A 0)), some (.int (zI v)), some (.int (zI w)), some (.ref wa), some (.int (zI p)), some (.int (zI q)), some (.int (zI d)), some (.int (zI x)), some (.int (zI h)), some (.int (zI (a (25344 + (p * 4 + q)) + a (25360 + (p * 4 + q))))), some (.int (zI kd)), some (.int (zI (phz a (p * 4 + q) d kd))), some (.int (zI ft)), none, none, none, none, none, none, none, none, none] [.int (zI x817), .int (zI (phz (addW a (p * 4 + q) d x h) (p * 4 + q) d kd))] (WX A G (addW a (p * 4 + q) d x h) (oN o s) (sN s) (RN a o s R) bb sn t n κ ++ [(wa, aI G 48 wf)]) := by
        intro x817 κ hx817
        refine V.icmp_ne (q := 820) (tgt := 824) F dL_does_817 rfl (by decide) (by omega) (fun k817 => by exfalso; omega) (fun k817 => ?_)
        refine V.iconst (q := 821) F dL_does_820 rfl ?_
        refine V.goto (tgt := 825) F dL_does_821 (by decide) ?_
        exact V.zret F T (Or.inr rfl) dL_does_825 ⟨κ, _, _, _, _, _, rfl, (hP2.up (by omega)), rfl⟩ [(A 0), (A 1), (A 2), (A 3), (A 4), (A 5), (A 6), (A 7), (A 8), (A 9), (A 10), (A 11), (A 12), (A 13), (A 14), (A 15), (A 16), (A 17), (A 18), (A 19), (A 20), (A 21), (A 22), (A 23), (A 24), (A 25), (A 26), wa] rfl hwc
      refine V.iload (q := 804) F dL_does_802 rfl rfl ?_
      refine V.if_eq (q := 807) (tgt := 815) F dL_does_804 rfl (by decide) (by omega) (fun k804 => ?_) (fun k804 => ?_)
      · refine V.iload (q := 817) F dL_does_815 rfl rfl ?_
        exact J817 _ _ (by omega)
      · refine V.iload (q := 809) F dL_does_807 rfl rfl ?_
        refine V.iload (q := 811) F dL_does_809 rfl rfl ?_
        refine V.iadd (q := 812) F dL_does_811 rfl ?_
        refine V.goto (tgt := 817) F dL_does_812 (by decide) ?_
        exact J817 _ _ (by omega)
    refine V.iload (q := 774) F dL_does_772 rfl rfl ?_
    refine V.if_eq (q := 777) (tgt := 785) F dL_does_774 rfl (by decide) (by omega) (fun k774 => ?_) (fun k774 => ?_)
    · refine V.bipush (q := 787) F dL_does_785 rfl (by decide) ?_
      exact J787 _ _ (by omega)
    · refine V.iload (q := 779) F dL_does_777 rfl rfl ?_
      refine V.iload (q := 781) F dL_does_779 rfl rfl ?_
      refine V.iadd (q := 782) F dL_does_781 rfl ?_
      refine V.goto (tgt := 787) F dL_does_782 (by decide) ?_
      exact J787 _ _ (by omega)

set_option maxHeartbeats 4000000 in
set_option maxRecDepth 20000 in
theorem c_L_does (l : Launch) (G : Gx) (A : Nat → Nat) (wa : Nat) (a R sn t wf : Int → Int) (o s bb n N v w : Int) (κ : Scr) (hP : PI N a o s) (hbb : 0 ≤ bb ∧ bb ≤ 1) (hn : 0 ≤ n ∧ n ≤ 80) (ht : ∀ j, 0 ≤ t j ∧ t j < 65536) (hN : 0 ≤ N ∧ N ≤ 1000) (hv : -2147483648 ≤ v ∧ v < 2147483648) (hw9 : -2147483648 ≤ w ∧ w < 2147483648) : Ct l G yL_does wsL_does (rmD 8) [.ref (A 0), .int (zI v), .int (zI w), .ref wa] (WX A G a o s R bb sn t n κ ++ [(wa, aI G 48 wf)]) (DoX A G wa (N + 1) bb sn t n) := by
  refine Ct.intro (cc := cL_does) (maxL := 22) (ret := (some .boolean)) (lo0 := [some (.ref (A 0)), some (.int (zI v)), some (.int (zI w)), some (.ref wa), none, none, none, none, none, none, none, none, none, none, none, none, none, none, none, none, none, none]) (by decide +kernel) rfl ⟨rfl, rfl⟩ (Nat.le_of_ble_eq_true rfl) rfl ?_
  intro X F T
  change Fx X (YL_does l G) at F
  change V X (YL_does l G) 0 0 0 _ _ _
  have hI := hP.1
  have hset := hI.s
  refine V.iload_n (q := 1) F dL_does_0 rfl rfl rfl ?_
  refine V.iconst (q := 2) F dL_does_1 rfl ?_
  refine V.ishrR (q := 3) F dL_does_2 rfl (zI_shr (by omega) (zI 5) 5 32 (by decide +kernel) (by decide +kernel) (by omega)) ?_
  refine V.iconst (q := 4) F dL_does_3 rfl ?_
  refine V.iandR (q := 5) F dL_does_4 rfl ?_
  rw [zI_and1]
  refine V.istore (q := 7) (lo' := [_, _, _, _, _, _, _, _, _, _, _, _, _, _, _, _, _, _, _, _, _, _]) F dL_does_5 rfl (Nat.le_of_ble_eq_true rfl) rfl rfl ?_
  refine V.iload_n (q := 8) F dL_does_7 rfl rfl rfl ?_
  refine V.bipush (q := 10) F dL_does_8 rfl (by decide) ?_
  refine V.ishrR (q := 11) F dL_does_10 rfl (zI_shr (by omega) (zI 6) 6 64 (by decide +kernel) (by decide +kernel) (by omega)) ?_
  refine V.iconst (q := 12) F dL_does_11 rfl ?_
  refine V.iandR (q := 13) F dL_does_12 rfl ?_
  rw [zI_and1]
  refine V.istore (q := 15) (lo' := [_, _, _, _, _, _, _, _, _, _, _, _, _, _, _, _, _, _, _, _, _, _]) F dL_does_13 rfl (Nat.le_of_ble_eq_true rfl) rfl rfl ?_
  have hp : 0 ≤ v / 32 % 2 ∧ v / 32 % 2 ≤ 3 := by omega
  generalize v / 32 % 2 = p at hp ⊢
  have hq4 : 0 ≤ v / 64 % 2 ∧ v / 64 % 2 ≤ 3 := by omega
  generalize v / 64 % 2 = q at hq4 ⊢
  refine V.iload_n (q := 16) F dL_does_15 rfl rfl rfl ?_
  refine V.bipush (q := 18) F dL_does_16 rfl (by decide) ?_
  refine V.callS (q := 21) F [] dL_does_18 rfl (c_L_low l G w 16 (by omega) (by omega)) gL_does_L_low rfl ydL_low ⟨Nat.le_of_ble_eq_true rfl, Nat.le_of_ble_eq_true rfl⟩ rfl rfl (Nat.le_of_ble_eq_true rfl) rfl rfl ⟨Nat.le_of_ble_eq_true rfl, Nat.le_of_ble_eq_true rfl⟩ (kkf (st' := [_]) (ws' := WX A G a o s R bb sn t n κ ++ [(wa, aI G 48 wf)]) rfl rfl ?_)
  refine V.istore (q := 23) (lo' := [_, _, _, _, _, _, _, _, _, _, _, _, _, _, _, _, _, _, _, _, _, _]) F dL_does_21 rfl (Nat.le_of_ble_eq_true rfl) rfl rfl ?_
  have hd : 0 ≤ w % 2147483648 % 16 ∧ w % 2147483648 % 16 ≤ 15 := by omega
  generalize w % 2147483648 % 16 = d at hd ⊢
  refine V.iconst (q := 24) F dL_does_23 rfl ?_
  refine V.iload_n (q := 25) F dL_does_24 rfl rfl rfl ?_
  refine V.iconst (q := 26) F dL_does_25 rfl ?_
  refine V.ishrR (q := 27) F dL_does_26 rfl (zI_shr (by omega) (zI 4) 4 16 (by decide +kernel) (by decide +kernel) (by omega)) ?_
  have J42 : ∀ (c42 : Int) (κ : Scr) (hc42 : c42 = 99 ∨ c42 = 40), V X (YL_does l G) 0 0 42 [some (.ref (A 0)), some (.int (zI v)), some (.int (zI w)), some (.ref wa), some (.int (zI p)), some (.int (zI q)), some (.int (zI d)), none, none, none, none, none, none, none, none, none, none, none, none, none, none, none] [.int (zI c42), .int (zI (w / 16)), .int (zI 1)] (WX A G a o s R bb sn t n κ ++ [(wa, aI G 48 wf)]) := by
    intro c42 κ hc42
    refine V.callS (q := 45) F [] dL_does_42 rfl (c_L_low l G (w / 16) c42 (by omega) (by omega)) gL_does_L_low rfl ydL_low ⟨Nat.le_of_ble_eq_true rfl, Nat.le_of_ble_eq_true rfl⟩ rfl rfl (Nat.le_of_ble_eq_true rfl) rfl rfl ⟨Nat.le_of_ble_eq_true rfl, Nat.le_of_ble_eq_true rfl⟩ (kkf (st' := [_, _]) (ws' := WX A G a o s R bb sn t n κ ++ [(wa, aI G 48 wf)]) rfl rfl ?_)
    refine V.iadd (q := 46) F dL_does_45 rfl ?_
    refine V.istore (q := 48) (lo' := [_, _, _, _, _, _, _, _, _, _, _, _, _, _, _, _, _, _, _, _, _, _]) F dL_does_46 rfl (Nat.le_of_ble_eq_true rfl) rfl rfl ?_
    have hx : 1 ≤ 1 + w / 16 % 2147483648 % c42 ∧ 1 + w / 16 % 2147483648 % c42 ≤ 99 := by rcases hc42 with rfl | rfl <;> omega
    generalize 1 + w / 16 % 2147483648 % c42 = x at hx ⊢
    refine V.iconst (q := 49) F dL_does_48 rfl ?_
    refine V.iload_n (q := 50) F dL_does_49 rfl rfl rfl ?_
    refine V.bipush (q := 52) F dL_does_50 rfl (by decide) ?_
    refine V.ishrR (q := 53) F dL_does_52 rfl (zI_shr (by omega) (zI 11) 11 2048 (by decide +kernel) (by decide +kernel) (by omega)) ?_
    have J69 : ∀ (c69 : Int) (κ : Scr) (hc69 : c69 = 99 ∨ c69 = 9), V X (YL_does l G) 0 0 69 [some (.ref (A 0)), some (.int (zI v)), some (.int (zI w)), some (.ref wa), some (.int (zI p)), some (.int (zI q)), some (.int (zI d)), some (.int (zI x)), none, none, none, none, none, none, none, none, none, none, none, none, none, none] [.int (zI c69), .int (zI (w / 2048)), .int (zI 1)] (WX A G a o s R bb sn t n κ ++ [(wa, aI G 48 wf)]) := by
      intro c69 κ hc69
      refine V.callS (q := 72) F [] dL_does_69 rfl (c_L_low l G (w / 2048) c69 (by omega) (by omega)) gL_does_L_low rfl ydL_low ⟨Nat.le_of_ble_eq_true rfl, Nat.le_of_ble_eq_true rfl⟩ rfl rfl (Nat.le_of_ble_eq_true rfl) rfl rfl ⟨Nat.le_of_ble_eq_true rfl, Nat.le_of_ble_eq_true rfl⟩ (kkf (st' := [_, _]) (ws' := WX A G a o s R bb sn t n κ ++ [(wa, aI G 48 wf)]) rfl rfl ?_)
      refine V.iadd (q := 73) F dL_does_72 rfl ?_
      refine V.istore (q := 75) (lo' := [_, _, _, _, _, _, _, _, _, _, _, _, _, _, _, _, _, _, _, _, _, _]) F dL_does_73 rfl (Nat.le_of_ble_eq_true rfl) rfl rfl ?_
      have hh : 1 ≤ 1 + w / 2048 % 2147483648 % c69 ∧ 1 + w / 2048 % 2147483648 % c69 ≤ 99 := by rcases hc69 with rfl | rfl <;> omega
      generalize 1 + w / 2048 % 2147483648 % c69 = h at hh ⊢
      refine V.aload_n (q := 76) F dL_does_75 rfl rfl rfl ?_
      refine V.iload (q := 78) F dL_does_76 rfl rfl ?_
      refine V.iload (q := 80) F dL_does_78 rfl rfl ?_
      refine V.iconst (q := 81) F dL_does_80 rfl ?_
      refine V.callX (q := 84) F 27 rfl nd27 dL_does_81 rfl (c_X6_rose l G A a κ.1.1 R sn t κ.1.2.1 κ.1.2.2.1 κ.1.2.2.2.1 κ.1.2.2.2.2 κ.2.1.1 κ.2.1.2.1 κ.2.1.2.2 κ.2.2.1.1 κ.2.2.1.2.1 κ.2.2.1.2.2 κ.2.2.2.1.1 κ.2.2.2.1.2.1 κ.2.2.2.1.2.2 o s bb n κ.2.2.2.2.1 κ.2.2.2.2.2.1 κ.2.2.2.2.2.2.1 κ.2.2.2.2.2.2.2.1 κ.2.2.2.2.2.2.2.2.1 κ.2.2.2.2.2.2.2.2.2.1 κ.2.2.2.2.2.2.2.2.2.2.1 κ.2.2.2.2.2.2.2.2.2.2.2 p q 0 hP.1 hP.2.2.2.1 hP.2.2.2.2 hbb hn ht (by omega) (by omega) (by omega)) gL_does_X6_rose rfl rfl ydX6_rose ⟨Nat.le_of_ble_eq_true rfl, Nat.le_of_ble_eq_true rfl⟩ (ci := 6) rfl rfl rfl rfl (Nat.le_of_ble_eq_true rfl) ⟨Nat.le_of_ble_eq_true rfl, Nat.le_of_ble_eq_true rfl⟩ (fun r9 w9 h9 => ?_)
      rw [rRose_0 (a := a) (p := p) (q := q) (by omega) (by omega)] at h9
      obtain ⟨κ, rfl, rfl⟩ := h9
      refine V.eq (pc' := 84) (st' := [_]) (ws' := WX A G a o s R bb sn t n κ ++ [(wa, aI G 48 wf)]) rfl rfl rfl rfl ?_
      refine V.istore (q := 86) (lo' := [_, _, _, _, _, _, _, _, _, _, _, _, _, _, _, _, _, _, _, _, _, _]) F dL_does_84 rfl (Nat.le_of_ble_eq_true rfl) rfl rfl ?_
      have hr : 0 ≤ p * 4 + q ∧ p * 4 + q < 16 := by omega
      have hw := hI.w hr
      have J117 : ∀ (kd : Int) (κ : Scr) (hkd : kd = if x < a 26176 then 0 else if x < a 26177 then 1 else 2), V X (YL_does l G) 0 0 117 [some (.ref (A 0)), some (.int (zI v)), some (.int (zI w)), some (.ref wa), some (.int (zI p)), some (.int (zI q)), some (.int (zI d)), some (.int (zI x)), some (.int (zI h)), some (.int (zI (a (25344 + (p * 4 + q)) + a (25360 + (p * 4 + q))))), none, none, none, none, none, none, none, none, none, none, none, none] [.int (zI kd)] (WX A G a o s R bb sn t n κ ++ [(wa, aI G 48 wf)]) := by
        intro kd κ hkd
        refine V.istore (q := 119) (lo' := [_, _, _, _, _, _, _, _, _, _, _, _, _, _, _, _, _, _, _, _, _, _]) F dL_does_117 rfl (Nat.le_of_ble_eq_true rfl) rfl rfl ?_
        have hkp := phz_rng hI hr (d := d) (k := kd) (by omega) (by omega)
        refine V.aload_n (q := 120) F dL_does_119 rfl rfl rfl ?_
        refine V.iload (q := 122) F dL_does_120 rfl rfl ?_
        refine V.iload (q := 124) F dL_does_122 rfl rfl ?_
        refine V.iload (q := 126) F dL_does_124 rfl rfl ?_
        refine V.iload (q := 128) F dL_does_126 rfl rfl ?_
        refine V.callX (q := 131) F 27 rfl nd27 dL_does_128 rfl (c_X6_hours l G A a κ.1.1 R sn t κ.1.2.1 κ.1.2.2.1 κ.1.2.2.2.1 κ.1.2.2.2.2 κ.2.1.1 κ.2.1.2.1 κ.2.1.2.2 κ.2.2.1.1 κ.2.2.1.2.1 κ.2.2.1.2.2 κ.2.2.2.1.1 κ.2.2.2.1.2.1 κ.2.2.2.1.2.2 o s bb n κ.2.2.2.2.1 κ.2.2.2.2.2.1 κ.2.2.2.2.2.2.1 κ.2.2.2.2.2.2.2.1 κ.2.2.2.2.2.2.2.2.1 κ.2.2.2.2.2.2.2.2.2.1 κ.2.2.2.2.2.2.2.2.2.2.1 κ.2.2.2.2.2.2.2.2.2.2.2 p q d kd hP.1 hP.2.2.2.1 hP.2.2.2.2 hbb hn ht (by omega) (by omega) (by omega) (by omega)) gL_does_X6_hours rfl rfl ydX6_hours ⟨Nat.le_of_ble_eq_true rfl, Nat.le_of_ble_eq_true rfl⟩ (ci := 6) rfl rfl rfl rfl (Nat.le_of_ble_eq_true rfl) ⟨Nat.le_of_ble_eq_true rfl, Nat.le_of_ble_eq_true rfl⟩ (fun r9 w9 h9 => ?_)
        rw [rHours_k (a := a) (p := p) (q := q) (by omega) (by omega) (d := d) (k := kd) (by omega) (by omega)] at h9
        obtain ⟨κ, rfl, rfl⟩ := h9
        refine V.eq (pc' := 131) (st' := [_]) (ws' := WX A G a o s R bb sn t n κ ++ [(wa, aI G 48 wf)]) rfl rfl rfl rfl ?_
        refine V.istore (q := 133) (lo' := [_, _, _, _, _, _, _, _, _, _, _, _, _, _, _, _, _, _, _, _, _, _]) F dL_does_131 rfl (Nat.le_of_ble_eq_true rfl) rfl rfl ?_
        have J149 : ∀ (ft : Int) (κ : Scr) (hft : ft = if a (25344 + (p * 4 + q)) + a (25360 + (p * 4 + q)) + h ≤ 9999 then 1 else 0), V X (YL_does l G) 0 0 149 [some (.ref (A 0)), some (.int (zI v)), some (.int (zI w)), some (.ref wa), some (.int (zI p)), some (.int (zI q)), some (.int (zI d)), some (.int (zI x)), some (.int (zI h)), some (.int (zI (a (25344 + (p * 4 + q)) + a (25360 + (p * 4 + q))))), some (.int (zI kd)), some (.int (zI (phz a (p * 4 + q) d kd))), none, none, none, none, none, none, none, none, none, none] [.int (zI ft)] (WX A G a o s R bb sn t n κ ++ [(wa, aI G 48 wf)]) := by
          intro ft κ hft
          refine V.istore (q := 151) (lo' := [_, _, _, _, _, _, _, _, _, _, _, _, _, _, _, _, _, _, _, _, _, _]) F dL_does_149 rfl (Nat.le_of_ble_eq_true rfl) rfl rfl ?_
          refine V.iload_n (q := 152) F dL_does_151 rfl rfl rfl ?_
          refine V.bipush (q := 154) F dL_does_152 rfl (by decide) ?_
          refine V.callS (q := 157) F [] dL_does_154 rfl (c_L_low l G v 20 (by omega) (by omega)) gL_does_L_low rfl ydL_low ⟨Nat.le_of_ble_eq_true rfl, Nat.le_of_ble_eq_true rfl⟩ rfl rfl (Nat.le_of_ble_eq_true rfl) rfl rfl ⟨Nat.le_of_ble_eq_true rfl, Nat.le_of_ble_eq_true rfl⟩ (kkf (st' := [_]) (ws' := WX A G a o s R bb sn t n κ ++ [(wa, aI G 48 wf)]) rfl rfl ?_)
          have hg : 0 ≤ v % 2147483648 % 20 ∧ v % 2147483648 % 20 ≤ 19 := by omega
          generalize v % 2147483648 % 20 = g9 at hg ⊢
          rcases (show g9 = 0 ∨ g9 = 1 ∨ g9 = 2 ∨ g9 = 3 ∨ g9 = 4 ∨ g9 = 5 ∨ g9 = 6 ∨ g9 = 7 ∨ g9 = 8 ∨ g9 = 9 ∨ g9 = 10 ∨ (g9 < 0 ∨ 10 < g9) by omega) with hsw | hsw | hsw | hsw | hsw | hsw | hsw | hsw | hsw | hsw | hsw | hsw
          · rw [hsw]
            refine V.tswIn (tgt := 216) F dL_does_157 (by decide) (by decide) (by decide) rfl (by decide) ?_
            exact dc_216 F rfl T hP hbb hn ht hN hv hw9 hp hq4 hd hx hh hkd hft
          · rw [hsw]
            refine V.tswIn (tgt := 216) F dL_does_157 (by decide) (by decide) (by decide) rfl (by decide) ?_
            exact dc_216 F rfl T hP hbb hn ht hN hv hw9 hp hq4 hd hx hh hkd hft
          · rw [hsw]
            refine V.tswIn (tgt := 288) F dL_does_157 (by decide) (by decide) (by decide) rfl (by decide) ?_
            exact dc_288 F rfl T hP hbb hn ht hN hv hw9 hp hq4 hd hx hh hkd hft
          · rw [hsw]
            refine V.tswIn (tgt := 399) F dL_does_157 (by decide) (by decide) (by decide) rfl (by decide) ?_
            exact dc_399 F rfl T hP hbb hn ht hN hv hw9 hp hq4 hd hx hh hkd hft
          · rw [hsw]
            refine V.tswIn (tgt := 417) F dL_does_157 (by decide) (by decide) (by decide) rfl (by decide) ?_
            exact dc_417 F rfl T hP hbb hn ht hN hv hw9 hp hq4 hd hx hh hkd hft
          · rw [hsw]
            refine V.tswIn (tgt := 568) F dL_does_157 (by decide) (by decide) (by decide) rfl (by decide) ?_
            exact dc_568 F rfl T hP hbb hn ht hN hv hw9 hp hq4 hd hx hh hkd hft
          · rw [hsw]
            refine V.tswIn (tgt := 568) F dL_does_157 (by decide) (by decide) (by decide) rfl (by decide) ?_
            exact dc_568 F rfl T hP hbb hn ht hN hv hw9 hp hq4 hd hx hh hkd hft
          · rw [hsw]
            refine V.tswIn (tgt := 568) F dL_does_157 (by decide) (by decide) (by decide) rfl (by decide) ?_
            exact dc_568 F rfl T hP hbb hn ht hN hv hw9 hp hq4 hd hx hh hkd hft
          · rw [hsw]
            refine V.tswIn (tgt := 568) F dL_does_157 (by decide) (by decide) (by decide) rfl (by decide) ?_
            exact dc_568 F rfl T hP hbb hn ht hN hv hw9 hp hq4 hd hx hh hkd hft
          · rw [hsw]
            refine V.tswIn (tgt := 577) F dL_does_157 (by decide) (by decide) (by decide) rfl (by decide) ?_
            exact dc_577 F rfl T hP hbb hn ht hN hv hw9 hp hq4 hd hx hh hkd hft
          · rw [hsw]
            refine V.tswIn (tgt := 720) F dL_does_157 (by decide) (by decide) (by decide) rfl (by decide) ?_
            exact dc_720 F rfl T hP hbb hn ht hN hv hw9 hp hq4 hd hx hh hkd hft
          · refine V.tswOut (tgt := 758) F dL_does_157 (by omega) hsw (by decide) ?_
            exact dc_758 F rfl T hP hbb hn ht hN hv hw9 hp hq4 hd hx hh hkd hft
        refine V.iload (q := 135) F dL_does_133 rfl rfl ?_
        refine V.iload (q := 137) F dL_does_135 rfl rfl ?_
        refine V.iadd (q := 138) F dL_does_137 rfl ?_
        refine V.sipush (q := 141) F dL_does_138 rfl (by decide) ?_
        refine V.icmp_gt (q := 144) (tgt := 148) F dL_does_141 rfl (by decide) (by omega) (fun k141 => ?_) (fun k141 => ?_)
        · refine V.iconst (q := 149) F dL_does_148 rfl ?_
          exact J149 _ _ (by omega)
        · refine V.iconst (q := 145) F dL_does_144 rfl ?_
          refine V.goto (tgt := 149) F dL_does_145 (by decide) ?_
          exact J149 _ _ (by omega)
      refine V.iload (q := 88) F dL_does_86 rfl rfl ?_
      refine V.aload_n (q := 89) F dL_does_88 rfl rfl rfl ?_
      refine V.bipush (q := 91) F dL_does_89 rfl (by decide) ?_
      refine V.callX (q := 94) F 27 rfl nd27 dL_does_91 rfl (c_X6_count l G A a κ.1.1 R sn t κ.1.2.1 κ.1.2.2.1 κ.1.2.2.2.1 κ.1.2.2.2.2 κ.2.1.1 κ.2.1.2.1 κ.2.1.2.2 κ.2.2.1.1 κ.2.2.1.2.1 κ.2.2.1.2.2 κ.2.2.2.1.1 κ.2.2.2.1.2.1 κ.2.2.2.1.2.2 o s bb n κ.2.2.2.2.1 κ.2.2.2.2.2.1 κ.2.2.2.2.2.2.1 κ.2.2.2.2.2.2.2.1 κ.2.2.2.2.2.2.2.2.1 κ.2.2.2.2.2.2.2.2.2.1 κ.2.2.2.2.2.2.2.2.2.2.1 κ.2.2.2.2.2.2.2.2.2.2.2 6 hP.1 hP.2.2.2.1 hP.2.2.2.2 hbb hn ht (by omega)) gL_does_X6_count rfl rfl ydX6_count ⟨Nat.le_of_ble_eq_true rfl, Nat.le_of_ble_eq_true rfl⟩ (ci := 6) rfl rfl rfl rfl (Nat.le_of_ble_eq_true rfl) ⟨Nat.le_of_ble_eq_true rfl, Nat.le_of_ble_eq_true rfl⟩ (fun r9 w9 h9 => ?_)
      rw [rCount_6] at h9
      obtain ⟨κ, rfl, rfl⟩ := h9
      refine V.eq (pc' := 94) (st' := [_, _]) (ws' := WX A G a o s R bb sn t n κ ++ [(wa, aI G 48 wf)]) rfl rfl rfl rfl ?_
      refine V.icmp_ge (q := 97) (tgt := 101) F dL_does_94 rfl (by decide) (by omega) (fun k94 => ?_) (fun k94 => ?_)
      · refine V.iload (q := 103) F dL_does_101 rfl rfl ?_
        refine V.aload_n (q := 104) F dL_does_103 rfl rfl rfl ?_
        refine V.bipush (q := 106) F dL_does_104 rfl (by decide) ?_
        refine V.callX (q := 109) F 27 rfl nd27 dL_does_106 rfl (c_X6_count l G A a κ.1.1 R sn t κ.1.2.1 κ.1.2.2.1 κ.1.2.2.2.1 κ.1.2.2.2.2 κ.2.1.1 κ.2.1.2.1 κ.2.1.2.2 κ.2.2.1.1 κ.2.2.1.2.1 κ.2.2.1.2.2 κ.2.2.2.1.1 κ.2.2.2.1.2.1 κ.2.2.2.1.2.2 o s bb n κ.2.2.2.2.1 κ.2.2.2.2.2.1 κ.2.2.2.2.2.2.1 κ.2.2.2.2.2.2.2.1 κ.2.2.2.2.2.2.2.2.1 κ.2.2.2.2.2.2.2.2.2.1 κ.2.2.2.2.2.2.2.2.2.2.1 κ.2.2.2.2.2.2.2.2.2.2.2 7 hP.1 hP.2.2.2.1 hP.2.2.2.2 hbb hn ht (by omega)) gL_does_X6_count rfl rfl ydX6_count ⟨Nat.le_of_ble_eq_true rfl, Nat.le_of_ble_eq_true rfl⟩ (ci := 6) rfl rfl rfl rfl (Nat.le_of_ble_eq_true rfl) ⟨Nat.le_of_ble_eq_true rfl, Nat.le_of_ble_eq_true rfl⟩ (fun r9 w9 h9 => ?_)
        rw [rCount_7] at h9
        obtain ⟨κ, rfl, rfl⟩ := h9
        refine V.eq (pc' := 109) (st' := [_, _]) (ws' := WX A G a o s R bb sn t n κ ++ [(wa, aI G 48 wf)]) rfl rfl rfl rfl ?_
        refine V.icmp_ge (q := 112) (tgt := 116) F dL_does_109 rfl (by decide) (by omega) (fun k109 => ?_) (fun k109 => ?_)
        · refine V.iconst (q := 117) F dL_does_116 rfl ?_
          exact J117 _ _ (by omega)
        · refine V.iconst (q := 113) F dL_does_112 rfl ?_
          refine V.goto (tgt := 117) F dL_does_113 (by decide) ?_
          exact J117 _ _ (by omega)
      · refine V.iconst (q := 98) F dL_does_97 rfl ?_
        refine V.goto (tgt := 117) F dL_does_98 (by decide) ?_
        exact J117 _ _ (by omega)
    refine V.iload_n (q := 54) F dL_does_53 rfl rfl rfl ?_
    refine V.bipush (q := 56) F dL_does_54 rfl (by decide) ?_
    refine V.ishrR (q := 57) F dL_does_56 rfl (zI_shr (by omega) (zI 18) 18 262144 (by decide +kernel) (by decide +kernel) (by omega)) ?_
    refine V.iconst (q := 58) F dL_does_57 rfl ?_
    refine V.iandR (q := 59) F dL_does_58 rfl ?_
    rw [zI_and3]
    refine V.if_ne (q := 62) (tgt := 67) F dL_does_59 rfl (by decide) (by omega) (fun k59 => ?_) (fun k59 => ?_)
    · refine V.bipush (q := 69) F dL_does_67 rfl (by decide) ?_
      exact J69 _ _ (by omega)
    · refine V.bipush (q := 64) F dL_does_62 rfl (by decide) ?_
      refine V.goto (tgt := 69) F dL_does_64 (by decide) ?_
      exact J69 _ _ (by omega)
  refine V.iload_n (q := 28) F dL_does_27 rfl rfl rfl ?_
  refine V.iconst (q := 29) F dL_does_28 rfl ?_
  refine V.ishrR (q := 30) F dL_does_29 rfl (zI_shr (by omega) (zI 3) 3 8 (by decide +kernel) (by decide +kernel) (by omega)) ?_
  refine V.iconst (q := 31) F dL_does_30 rfl ?_
  refine V.iandR (q := 32) F dL_does_31 rfl ?_
  rw [zI_and1]
  refine V.if_ne (q := 35) (tgt := 40) F dL_does_32 rfl (by decide) (by omega) (fun k32 => ?_) (fun k32 => ?_)
  · refine V.bipush (q := 42) F dL_does_40 rfl (by decide) ?_
    exact J42 _ _ (by omega)
  · refine V.bipush (q := 37) F dL_does_35 rfl (by decide) ?_
    refine V.goto (tgt := 42) F dL_does_37 (by decide) ?_
    exact J42 _ _ (by omega)

/-! the law: plates, all -/
abbrev YL_isPlate (l : Launch) (G : Gx) : Sx := (cL_isPlate, 11, RL, wsL_isPlate, rmD 7, l, G)
theorem ydL_isPlate : ydOk yL_isPlate 3 := by decide +kernel
set_option maxHeartbeats 4000000 in
set_option maxRecDepth 20000 in
theorem c_L_isPlate (l : Launch) (G : Gx) (A : Nat → Nat)  (a R sn t : Int → Int) (o s bb n N p q : Int) (κ : Scr) (hP : PI N a o s) (hbb : 0 ≤ bb ∧ bb ≤ 1) (hn : 0 ≤ n ∧ n ≤ 80) (ht : ∀ j, 0 ≤ t j ∧ t j < 65536) (hp : 0 ≤ p ∧ p ≤ 3) (hq4 : 0 ≤ q ∧ q ≤ 3) : Ct l G yL_isPlate wsL_isPlate (rmD 7) [.ref (A 0), .int (zI p), .int (zI q)] (WX A G a o s R bb sn t n κ) (RdX A G a o s R bb sn t n 1) := by
  refine Ct.intro (cc := cL_isPlate) (maxL := 11) (ret := (some .boolean)) (lo0 := [some (.ref (A 0)), some (.int (zI p)), some (.int (zI q)), none, none, none, none, none, none, none, none]) (by decide +kernel) rfl ⟨rfl, rfl⟩ (Nat.le_of_ble_eq_true rfl) rfl ?_
  intro X F T
  change Fx X (YL_isPlate l G) at F
  change V X (YL_isPlate l G) 0 0 0 _ _ _
  refine V.eq (pc' := 0) (ws' := WX A G a o s R bb sn t n κ ++ []) rfl rfl rfl (List.append_nil _).symm ?_
  have hr : 0 ≤ p * 4 + q ∧ p * 4 + q < 16 := by omega
  have hI := hP.1
  have hw := hI.w hr
  refine V.iconst (q := 1) F dL_isPlate_0 rfl ?_
  refine V.istore_n (q := 2) (lo' := [_, _, _, _, _, _, _, _, _, _, _]) F dL_isPlate_1 rfl rfl (Nat.le_of_ble_eq_true rfl) rfl rfl ?_
  refine V.iconst (q := 3) F dL_isPlate_2 rfl ?_
  refine V.istore (q := 5) (lo' := [_, _, _, _, _, _, _, _, _, _, _]) F dL_isPlate_3 rfl (Nat.le_of_ble_eq_true rfl) rfl rfl ?_
  refine V.iconst (q := 6) F dL_isPlate_5 rfl ?_
  refine V.istore (q := 8) (lo' := [_, _, _, _, _, _, _, _, _, _, _]) F dL_isPlate_6 rfl (Nat.le_of_ble_eq_true rfl) rfl rfl ?_
  refine V.iconst (q := 9) F dL_isPlate_8 rfl ?_
  refine V.istore (q := 11) (lo' := [_, _, _, _, _, _, _, _, _, _, _]) F dL_isPlate_9 rfl (Nat.le_of_ble_eq_true rfl) rfl rfl ?_
  refine V.iconst (q := 12) F dL_isPlate_11 rfl ?_
  refine V.istore (q := 14) (lo' := [_, _, _, _, _, _, _, _, _, _, _]) F dL_isPlate_12 rfl (Nat.le_of_ble_eq_true rfl) rfl rfl ?_
  refine V.iconst (q := 15) F dL_isPlate_14 rfl ?_
  refine V.istore (q := 17) (lo' := [_, _, _, _, _, _, _, _, _, _, _]) F dL_isPlate_15 rfl (Nat.le_of_ble_eq_true rfl) rfl rfl ?_
  have L17 : ∀ (nq : Nat) (i f9 nd pt lg df : Int) (κ : Scr) (hi : 0 ≤ i ∧ i ≤ 49) (hf : f9 = farS a (p * 4 + q) i) (hnd : nd = needS a (p * 4 + q) i) (hpt : pt = petS a (p * 4 + q) i) (hlg : lg = lonS a (p * 4 + q) i) (hdf : df = difS a (p * 4 + q) i), (49 - i).toNat < nq → V X (YL_isPlate l G) 0 0 17 [some (.ref (A 0)), some (.int (zI p)), some (.int (zI q)), some (.int (zI f9)), some (.int (zI nd)), some (.int (zI pt)), some (.int (zI lg)), some (.int (zI df)), some (.int (zI i)), none, none] [] (WX A G a o s R bb sn t n κ ++ []) := by
    intro n17
    induction n17 with
    | zero => intro i f9 nd pt lg df κ hi hf hnd hpt hlg hdf hm17; exact absurd hm17 (Nat.not_lt_zero _)
    | succ n17 ih17 =>
      intro i f9 nd pt lg df κ hi hf hnd hpt hlg hdf hm17
      refine V.iload (q := 19) F dL_isPlate_17 rfl rfl ?_
      refine V.bipush (q := 21) F dL_isPlate_19 rfl (by decide) ?_
      refine V.icmp_gt (q := 24) (tgt := 198) F dL_isPlate_21 rfl (by decide) (by omega) (fun k21 => ?_) (fun k21 => ?_)
      · have hi49 : i = 49 := by omega
        have hf2 : f9 = disz a (p * 4 + q) := by rw [hf, hi49, farS_49]
        have hnd2 : nd = scrz a (p * 4 + q) := by rw [hnd, hi49, needS_49]
        have hpt2 : pt = cutz a (p * 4 + q) := by rw [hpt, hi49, petS_49]
        have hlg2 : lg = longz a (p * 4 + q) := by rw [hlg, hi49, lonS_49]
        have hdf2 : df = difz a (p * 4 + q) := by rw [hdf, hi49, difS_49]
        have hob := obsz_o a (p * 4 + q)
        have hal := allz_o a (p * 4 + q)
        have hor : 0 ≤ obsz a (p * 4 + q) ∧ obsz a (p * 4 + q) ≤ 3 := by omega
        have hdr := disz_rng hI hr
        have hsr := scrz_rng (a := a) (p * 4 + q)
        have hfr := difz_rng (a := a) (p * 4 + q)
        have hcr := cutz_rng a (p * 4 + q)
        have hlr2 : 0 ≤ longz a (p * 4 + q) ∧ longz a (p * 4 + q) ≤ 100 := by rw [← lonS_49]; exact lonS_rng hI hr
        have h9s := hP.2.1 _ hr.1 hr.2
        have h9n := hI.1 (26160 + (p * 4 + q))
        have hst := hI.2.2.1
        have hs8 := hI.1 26178
        refine V.aload_n (q := 199) F dL_isPlate_198 rfl rfl rfl ?_
        refine V.iload_n (q := 200) F dL_isPlate_199 rfl rfl rfl ?_
        refine V.iload_n (q := 201) F dL_isPlate_200 rfl rfl rfl ?_
        refine V.iconst (q := 202) F dL_isPlate_201 rfl ?_
        refine V.callX (q := 205) F 27 rfl nd27 dL_isPlate_202 rfl (c_X6_plate l G A a κ.1.1 R sn t κ.1.2.1 κ.1.2.2.1 κ.1.2.2.2.1 κ.1.2.2.2.2 κ.2.1.1 κ.2.1.2.1 κ.2.1.2.2 κ.2.2.1.1 κ.2.2.1.2.1 κ.2.2.1.2.2 κ.2.2.2.1.1 κ.2.2.2.1.2.1 κ.2.2.2.1.2.2 o s bb n κ.2.2.2.2.1 κ.2.2.2.2.2.1 κ.2.2.2.2.2.2.1 κ.2.2.2.2.2.2.2.1 κ.2.2.2.2.2.2.2.2.1 κ.2.2.2.2.2.2.2.2.2.1 κ.2.2.2.2.2.2.2.2.2.2.1 κ.2.2.2.2.2.2.2.2.2.2.2 p q 1 hP.1 hP.2.2.2.1 hP.2.2.2.2 hbb hn ht (by omega) (by omega) (by omega)) gL_isPlate_X6_plate rfl rfl ydX6_plate ⟨Nat.le_of_ble_eq_true rfl, Nat.le_of_ble_eq_true rfl⟩ (ci := 6) rfl rfl rfl rfl (Nat.le_of_ble_eq_true rfl) ⟨Nat.le_of_ble_eq_true rfl, Nat.le_of_ble_eq_true rfl⟩ (fun r9 w9 h9 => ?_)
        rw [rPlate_1 (a := a) (p := p) (q := q) (by omega) (by omega)] at h9
        obtain ⟨κ, rfl, rfl⟩ := h9
        refine V.eq (pc' := 205) (st' := [_]) (ws' := WX A G a o s R bb sn t n κ ++ []) rfl rfl rfl rfl ?_
        refine V.istore (q := 207) (lo' := [_, _, _, _, _, _, _, _, _, _, _]) F dL_isPlate_205 rfl (Nat.le_of_ble_eq_true rfl) rfl rfl ?_
        refine V.aload_n (q := 208) F dL_isPlate_207 rfl rfl rfl ?_
        refine V.iload_n (q := 209) F dL_isPlate_208 rfl rfl rfl ?_
        refine V.iload_n (q := 210) F dL_isPlate_209 rfl rfl rfl ?_
        refine V.callX (q := 213) F 27 rfl nd27 dL_isPlate_210 rfl (c_X6_reason l G A a κ.1.1 R sn t κ.1.2.1 κ.1.2.2.1 κ.1.2.2.2.1 κ.1.2.2.2.2 κ.2.1.1 κ.2.1.2.1 κ.2.1.2.2 κ.2.2.1.1 κ.2.2.1.2.1 κ.2.2.1.2.2 κ.2.2.2.1.1 κ.2.2.2.1.2.1 κ.2.2.2.1.2.2 o s bb n κ.2.2.2.2.1 κ.2.2.2.2.2.1 κ.2.2.2.2.2.2.1 κ.2.2.2.2.2.2.2.1 κ.2.2.2.2.2.2.2.2.1 κ.2.2.2.2.2.2.2.2.2.1 κ.2.2.2.2.2.2.2.2.2.2.1 κ.2.2.2.2.2.2.2.2.2.2.2 p q hP.1 hP.2.2.2.1 hP.2.2.2.2 hbb hn ht (by omega) (by omega)) gL_isPlate_X6_reason rfl rfl ydX6_reason ⟨Nat.le_of_ble_eq_true rfl, Nat.le_of_ble_eq_true rfl⟩ (ci := 6) rfl rfl rfl rfl (Nat.le_of_ble_eq_true rfl) ⟨Nat.le_of_ble_eq_true rfl, Nat.le_of_ble_eq_true rfl⟩ (fun r9 w9 h9 => ?_)
        rw [rReas_o (a := a) (p := p) (q := q) (by omega) (by omega)] at h9
        obtain ⟨κ, rfl, rfl⟩ := h9
        refine V.eq (pc' := 213) (st' := [_]) (ws' := WX A G a o s R bb sn t n κ ++ []) rfl rfl rfl rfl ?_
        refine V.istore (q := 215) (lo' := [_, _, _, _, _, _, _, _, _, _, _]) F dL_isPlate_213 rfl (Nat.le_of_ble_eq_true rfl) rfl rfl ?_
        have J301 : ∀ (x301 : Int) (κ : Scr) (hx301 : x301 = 1), V X (YL_isPlate l G) 0 0 301 [some (.ref (A 0)), some (.int (zI p)), some (.int (zI q)), some (.int (zI f9)), some (.int (zI nd)), some (.int (zI pt)), some (.int (zI lg)), some (.int (zI df)), some (.int (zI (a (26160 + (p * 4 + q))))), some (.int (zI (obsz a (p * 4 + q)))), none] [.int (zI x301)] (WX A G a o s R bb sn t n κ ++ []) := by
          intro x301 κ hx301
          refine V.istore (q := 303) (lo' := [_, _, _, _, _, _, _, _, _, _, _]) F dL_isPlate_301 rfl (Nat.le_of_ble_eq_true rfl) rfl rfl ?_
          refine V.iload (q := 305) F dL_isPlate_303 rfl rfl ?_
          refine V.if_eq (q := 308) (tgt := 371) F dL_isPlate_305 rfl (by decide) (by omega) (fun k305 => by exfalso; omega) (fun k305 => ?_)
          refine V.iload (q := 310) F dL_isPlate_308 rfl rfl ?_
          refine V.if_lt (q := 313) (tgt := 371) F dL_isPlate_310 rfl (by decide) (by omega) (fun k310 => by exfalso; omega) (fun k310 => ?_)
          refine V.iload (q := 315) F dL_isPlate_313 rfl rfl ?_
          refine V.bipush (q := 317) F dL_isPlate_315 rfl (by decide) ?_
          refine V.icmp_ge (q := 320) (tgt := 371) F dL_isPlate_317 rfl (by decide) (by omega) (fun k317 => by exfalso; omega) (fun k317 => ?_)
          refine V.aload_n (q := 321) F dL_isPlate_320 rfl rfl rfl ?_
          refine V.iload_n (q := 322) F dL_isPlate_321 rfl rfl rfl ?_
          refine V.iload_n (q := 323) F dL_isPlate_322 rfl rfl rfl ?_
          refine V.iconst (q := 324) F dL_isPlate_323 rfl ?_
          refine V.callX (q := 327) F 27 rfl nd27 dL_isPlate_324 rfl (c_X6_plate l G A a κ.1.1 R sn t κ.1.2.1 κ.1.2.2.1 κ.1.2.2.2.1 κ.1.2.2.2.2 κ.2.1.1 κ.2.1.2.1 κ.2.1.2.2 κ.2.2.1.1 κ.2.2.1.2.1 κ.2.2.1.2.2 κ.2.2.2.1.1 κ.2.2.2.1.2.1 κ.2.2.2.1.2.2 o s bb n κ.2.2.2.2.1 κ.2.2.2.2.2.1 κ.2.2.2.2.2.2.1 κ.2.2.2.2.2.2.2.1 κ.2.2.2.2.2.2.2.2.1 κ.2.2.2.2.2.2.2.2.2.1 κ.2.2.2.2.2.2.2.2.2.2.1 κ.2.2.2.2.2.2.2.2.2.2.2 p q 2 hP.1 hP.2.2.2.1 hP.2.2.2.2 hbb hn ht (by omega) (by omega) (by omega)) gL_isPlate_X6_plate rfl rfl ydX6_plate ⟨Nat.le_of_ble_eq_true rfl, Nat.le_of_ble_eq_true rfl⟩ (ci := 6) rfl rfl rfl rfl (Nat.le_of_ble_eq_true rfl) ⟨Nat.le_of_ble_eq_true rfl, Nat.le_of_ble_eq_true rfl⟩ (fun r9 w9 h9 => ?_)
          rw [rPlate_2 (a := a) (p := p) (q := q) (by omega) (by omega)] at h9
          obtain ⟨κ, rfl, rfl⟩ := h9
          refine V.eq (pc' := 327) (st' := [_]) (ws' := WX A G a o s R bb sn t n κ ++ []) rfl rfl rfl rfl ?_
          refine V.iload (q := 329) F dL_isPlate_327 rfl rfl ?_
          refine V.icmp_ne (q := 332) (tgt := 371) F dL_isPlate_329 rfl (by decide) (by omega) (fun k329 => by exfalso; omega) (fun k329 => ?_)
          refine V.aload_n (q := 333) F dL_isPlate_332 rfl rfl rfl ?_
          refine V.iload_n (q := 334) F dL_isPlate_333 rfl rfl rfl ?_
          refine V.iload_n (q := 335) F dL_isPlate_334 rfl rfl rfl ?_
          refine V.iconst (q := 336) F dL_isPlate_335 rfl ?_
          refine V.callX (q := 339) F 27 rfl nd27 dL_isPlate_336 rfl (c_X6_plate l G A a κ.1.1 R sn t κ.1.2.1 κ.1.2.2.1 κ.1.2.2.2.1 κ.1.2.2.2.2 κ.2.1.1 κ.2.1.2.1 κ.2.1.2.2 κ.2.2.1.1 κ.2.2.1.2.1 κ.2.2.1.2.2 κ.2.2.2.1.1 κ.2.2.2.1.2.1 κ.2.2.2.1.2.2 o s bb n κ.2.2.2.2.1 κ.2.2.2.2.2.1 κ.2.2.2.2.2.2.1 κ.2.2.2.2.2.2.2.1 κ.2.2.2.2.2.2.2.2.1 κ.2.2.2.2.2.2.2.2.2.1 κ.2.2.2.2.2.2.2.2.2.2.1 κ.2.2.2.2.2.2.2.2.2.2.2 p q 3 hP.1 hP.2.2.2.1 hP.2.2.2.2 hbb hn ht (by omega) (by omega) (by omega)) gL_isPlate_X6_plate rfl rfl ydX6_plate ⟨Nat.le_of_ble_eq_true rfl, Nat.le_of_ble_eq_true rfl⟩ (ci := 6) rfl rfl rfl rfl (Nat.le_of_ble_eq_true rfl) ⟨Nat.le_of_ble_eq_true rfl, Nat.le_of_ble_eq_true rfl⟩ (fun r9 w9 h9 => ?_)
          rw [rPlate_3 (a := a) (p := p) (q := q) (by omega) (by omega)] at h9
          obtain ⟨κ, rfl, rfl⟩ := h9
          refine V.eq (pc' := 339) (st' := [_]) (ws' := WX A G a o s R bb sn t n κ ++ []) rfl rfl rfl rfl ?_
          refine V.iload (q := 341) F dL_isPlate_339 rfl rfl ?_
          refine V.icmp_ne (q := 344) (tgt := 371) F dL_isPlate_341 rfl (by decide) (by omega) (fun k341 => by exfalso; omega) (fun k341 => ?_)
          refine V.aload_n (q := 345) F dL_isPlate_344 rfl rfl rfl ?_
          refine V.iload_n (q := 346) F dL_isPlate_345 rfl rfl rfl ?_
          refine V.iload_n (q := 347) F dL_isPlate_346 rfl rfl rfl ?_
          refine V.iconst (q := 348) F dL_isPlate_347 rfl ?_
          refine V.callX (q := 351) F 27 rfl nd27 dL_isPlate_348 rfl (c_X6_plate l G A a κ.1.1 R sn t κ.1.2.1 κ.1.2.2.1 κ.1.2.2.2.1 κ.1.2.2.2.2 κ.2.1.1 κ.2.1.2.1 κ.2.1.2.2 κ.2.2.1.1 κ.2.2.1.2.1 κ.2.2.1.2.2 κ.2.2.2.1.1 κ.2.2.2.1.2.1 κ.2.2.2.1.2.2 o s bb n κ.2.2.2.2.1 κ.2.2.2.2.2.1 κ.2.2.2.2.2.2.1 κ.2.2.2.2.2.2.2.1 κ.2.2.2.2.2.2.2.2.1 κ.2.2.2.2.2.2.2.2.2.1 κ.2.2.2.2.2.2.2.2.2.2.1 κ.2.2.2.2.2.2.2.2.2.2.2 p q 4 hP.1 hP.2.2.2.1 hP.2.2.2.2 hbb hn ht (by omega) (by omega) (by omega)) gL_isPlate_X6_plate rfl rfl ydX6_plate ⟨Nat.le_of_ble_eq_true rfl, Nat.le_of_ble_eq_true rfl⟩ (ci := 6) rfl rfl rfl rfl (Nat.le_of_ble_eq_true rfl) ⟨Nat.le_of_ble_eq_true rfl, Nat.le_of_ble_eq_true rfl⟩ (fun r9 w9 h9 => ?_)
          rw [rPlate_4 (a := a) (p := p) (q := q) (by omega) (by omega)] at h9
          obtain ⟨κ, rfl, rfl⟩ := h9
          refine V.eq (pc' := 351) (st' := [_]) (ws' := WX A G a o s R bb sn t n κ ++ []) rfl rfl rfl rfl ?_
          refine V.iload_n (q := 352) F dL_isPlate_351 rfl rfl rfl ?_
          refine V.icmp_ne (q := 355) (tgt := 371) F dL_isPlate_352 rfl (by decide) (by omega) (fun k352 => by exfalso; omega) (fun k352 => ?_)
          refine V.aload_n (q := 356) F dL_isPlate_355 rfl rfl rfl ?_
          refine V.iload_n (q := 357) F dL_isPlate_356 rfl rfl rfl ?_
          refine V.iload_n (q := 358) F dL_isPlate_357 rfl rfl rfl ?_
          refine V.iconst (q := 359) F dL_isPlate_358 rfl ?_
          refine V.callX (q := 362) F 27 rfl nd27 dL_isPlate_359 rfl (c_X6_plate l G A a κ.1.1 R sn t κ.1.2.1 κ.1.2.2.1 κ.1.2.2.2.1 κ.1.2.2.2.2 κ.2.1.1 κ.2.1.2.1 κ.2.1.2.2 κ.2.2.1.1 κ.2.2.1.2.1 κ.2.2.1.2.2 κ.2.2.2.1.1 κ.2.2.2.1.2.1 κ.2.2.2.1.2.2 o s bb n κ.2.2.2.2.1 κ.2.2.2.2.2.1 κ.2.2.2.2.2.2.1 κ.2.2.2.2.2.2.2.1 κ.2.2.2.2.2.2.2.2.1 κ.2.2.2.2.2.2.2.2.2.1 κ.2.2.2.2.2.2.2.2.2.2.1 κ.2.2.2.2.2.2.2.2.2.2.2 p q 5 hP.1 hP.2.2.2.1 hP.2.2.2.2 hbb hn ht (by omega) (by omega) (by omega)) gL_isPlate_X6_plate rfl rfl ydX6_plate ⟨Nat.le_of_ble_eq_true rfl, Nat.le_of_ble_eq_true rfl⟩ (ci := 6) rfl rfl rfl rfl (Nat.le_of_ble_eq_true rfl) ⟨Nat.le_of_ble_eq_true rfl, Nat.le_of_ble_eq_true rfl⟩ (fun r9 w9 h9 => ?_)
          rw [rPlate_5 (a := a) (p := p) (q := q) (by omega) (by omega)] at h9
          obtain ⟨κ, rfl, rfl⟩ := h9
          refine V.eq (pc' := 362) (st' := [_]) (ws' := WX A G a o s R bb sn t n κ ++ []) rfl rfl rfl rfl ?_
          refine V.iload (q := 364) F dL_isPlate_362 rfl rfl ?_
          refine V.icmp_ne (q := 367) (tgt := 371) F dL_isPlate_364 rfl (by decide) (by omega) (fun k364 => by exfalso; omega) (fun k364 => ?_)
          refine V.iconst (q := 368) F dL_isPlate_367 rfl ?_
          refine V.goto (tgt := 372) F dL_isPlate_368 (by decide) ?_
          exact V.zret F T (Or.inr rfl) dL_isPlate_372 ⟨κ, rfl, List.append_nil _⟩ [(A 0), (A 1), (A 2), (A 3), (A 4), (A 5), (A 6), (A 7), (A 8), (A 9), (A 10), (A 11), (A 12), (A 13), (A 14), (A 15), (A 16), (A 17), (A 18), (A 19), (A 20), (A 21), (A 22), (A 23), (A 24), (A 25), (A 26)] rfl rfl
        refine V.aload_n (q := 216) F dL_isPlate_215 rfl rfl rfl ?_
        refine V.iload_n (q := 217) F dL_isPlate_216 rfl rfl rfl ?_
        refine V.iload_n (q := 218) F dL_isPlate_217 rfl rfl rfl ?_
        refine V.iconst (q := 219) F dL_isPlate_218 rfl ?_
        refine V.callX (q := 222) F 27 rfl nd27 dL_isPlate_219 rfl (c_X6_rose l G A a κ.1.1 R sn t κ.1.2.1 κ.1.2.2.1 κ.1.2.2.2.1 κ.1.2.2.2.2 κ.2.1.1 κ.2.1.2.1 κ.2.1.2.2 κ.2.2.1.1 κ.2.2.1.2.1 κ.2.2.1.2.2 κ.2.2.2.1.1 κ.2.2.2.1.2.1 κ.2.2.2.1.2.2 o s bb n κ.2.2.2.2.1 κ.2.2.2.2.2.1 κ.2.2.2.2.2.2.1 κ.2.2.2.2.2.2.2.1 κ.2.2.2.2.2.2.2.2.1 κ.2.2.2.2.2.2.2.2.2.1 κ.2.2.2.2.2.2.2.2.2.2.1 κ.2.2.2.2.2.2.2.2.2.2.2 p q 0 hP.1 hP.2.2.2.1 hP.2.2.2.2 hbb hn ht (by omega) (by omega) (by omega)) gL_isPlate_X6_rose rfl rfl ydX6_rose ⟨Nat.le_of_ble_eq_true rfl, Nat.le_of_ble_eq_true rfl⟩ (ci := 6) rfl rfl rfl rfl (Nat.le_of_ble_eq_true rfl) ⟨Nat.le_of_ble_eq_true rfl, Nat.le_of_ble_eq_true rfl⟩ (fun r9 w9 h9 => ?_)
        rw [rRose_0 (a := a) (p := p) (q := q) (by omega) (by omega)] at h9
        obtain ⟨κ, rfl, rfl⟩ := h9
        refine V.eq (pc' := 222) (st' := [_]) (ws' := WX A G a o s R bb sn t n κ ++ []) rfl rfl rfl rfl ?_
        refine V.if_ne (q := 225) (tgt := 239) F dL_isPlate_222 rfl (by decide) (by omega) (fun k222 => ?_) (fun k222 => ?_)
        · refine V.iload (q := 241) F dL_isPlate_239 rfl rfl ?_
          refine V.if_ne (q := 244) (tgt := 258) F dL_isPlate_241 rfl (by decide) (by omega) (fun k241 => ?_) (fun k241 => ?_)
          · refine V.iload (q := 260) F dL_isPlate_258 rfl rfl ?_
            refine V.if_le (q := 263) (tgt := 291) F dL_isPlate_260 rfl (by decide) (by omega) (fun k260 => ?_) (fun k260 => ?_)
            · refine V.iload (q := 293) F dL_isPlate_291 rfl rfl ?_
              refine V.if_ne (q := 296) (tgt := 300) F dL_isPlate_293 rfl (by decide) (by omega) (fun k293 => by exfalso; omega) (fun k293 => ?_)
              refine V.iconst (q := 297) F dL_isPlate_296 rfl ?_
              refine V.goto (tgt := 301) F dL_isPlate_297 (by decide) ?_
              exact J301 _ _ (by omega)
            · refine V.iload (q := 265) F dL_isPlate_263 rfl rfl ?_
              refine V.iload (q := 267) F dL_isPlate_265 rfl rfl ?_
              refine V.iadd (q := 268) F dL_isPlate_267 rfl ?_
              refine V.aload_n (q := 269) F dL_isPlate_268 rfl rfl rfl ?_
              refine V.bipush (q := 271) F dL_isPlate_269 rfl (by decide) ?_
              refine V.callX (q := 274) F 27 rfl nd27 dL_isPlate_271 rfl (c_X6_count l G A a κ.1.1 R sn t κ.1.2.1 κ.1.2.2.1 κ.1.2.2.2.1 κ.1.2.2.2.2 κ.2.1.1 κ.2.1.2.1 κ.2.1.2.2 κ.2.2.1.1 κ.2.2.1.2.1 κ.2.2.1.2.2 κ.2.2.2.1.1 κ.2.2.2.1.2.1 κ.2.2.2.1.2.2 o s bb n κ.2.2.2.2.1 κ.2.2.2.2.2.1 κ.2.2.2.2.2.2.1 κ.2.2.2.2.2.2.2.1 κ.2.2.2.2.2.2.2.2.1 κ.2.2.2.2.2.2.2.2.2.1 κ.2.2.2.2.2.2.2.2.2.2.1 κ.2.2.2.2.2.2.2.2.2.2.2 8 hP.1 hP.2.2.2.1 hP.2.2.2.2 hbb hn ht (by omega)) gL_isPlate_X6_count rfl rfl ydX6_count ⟨Nat.le_of_ble_eq_true rfl, Nat.le_of_ble_eq_true rfl⟩ (ci := 6) rfl rfl rfl rfl (Nat.le_of_ble_eq_true rfl) ⟨Nat.le_of_ble_eq_true rfl, Nat.le_of_ble_eq_true rfl⟩ (fun r9 w9 h9 => ?_)
              rw [rCount_8] at h9
              obtain ⟨κ, rfl, rfl⟩ := h9
              refine V.eq (pc' := 274) (st' := [_, _]) (ws' := WX A G a o s R bb sn t n κ ++ []) rfl rfl rfl rfl ?_
              refine V.icmp_le (q := 277) (tgt := 291) F dL_isPlate_274 rfl (by decide) (by omega) (fun k274 => ?_) (fun k274 => ?_)
              · refine V.iload (q := 293) F dL_isPlate_291 rfl rfl ?_
                refine V.if_ne (q := 296) (tgt := 300) F dL_isPlate_293 rfl (by decide) (by omega) (fun k293 => by exfalso; omega) (fun k293 => ?_)
                refine V.iconst (q := 297) F dL_isPlate_296 rfl ?_
                refine V.goto (tgt := 301) F dL_isPlate_297 (by decide) ?_
                exact J301 _ _ (by omega)
              · refine V.iload (q := 279) F dL_isPlate_277 rfl rfl ?_
                refine V.iconst (q := 280) F dL_isPlate_279 rfl ?_
                refine V.icmp_ne (q := 283) (tgt := 287) F dL_isPlate_280 rfl (by decide) (by omega) (fun k280 => by exfalso; omega) (fun k280 => ?_)
                refine V.iconst (q := 284) F dL_isPlate_283 rfl ?_
                refine V.goto (tgt := 301) F dL_isPlate_284 (by decide) ?_
                exact J301 _ _ (by omega)
          · refine V.iload (q := 246) F dL_isPlate_244 rfl rfl ?_
            refine V.iconst (q := 247) F dL_isPlate_246 rfl ?_
            refine V.icmp_ne (q := 250) (tgt := 254) F dL_isPlate_247 rfl (by decide) (by omega) (fun k247 => by exfalso; omega) (fun k247 => ?_)
            refine V.iconst (q := 251) F dL_isPlate_250 rfl ?_
            refine V.goto (tgt := 301) F dL_isPlate_251 (by decide) ?_
            exact J301 _ _ (by omega)
        · refine V.iload (q := 227) F dL_isPlate_225 rfl rfl ?_
          refine V.iconst (q := 228) F dL_isPlate_227 rfl ?_
          refine V.icmp_ne (q := 231) (tgt := 235) F dL_isPlate_228 rfl (by decide) (by omega) (fun k228 => by exfalso; omega) (fun k228 => ?_)
          refine V.iconst (q := 232) F dL_isPlate_231 rfl ?_
          refine V.goto (tgt := 301) F dL_isPlate_232 (by decide) ?_
          exact J301 _ _ (by omega)
      · have hiz := itz_rng hI hr (k := i) (by omega)
        have hdz := duz_rng hI hr (k := i) (by omega)
        have hlr : 0 ≤ lg ∧ lg ≤ 100 := by rw [hlg]; exact lonS_rng hI hr
        have J55 : ∀ (x55 : Int) (κ : Scr) (hx55 : x55 = itz a (p * 4 + q) i), V X (YL_isPlate l G) 0 0 55 [some (.ref (A 0)), some (.int (zI p)), some (.int (zI q)), some (.int (zI f9)), some (.int (zI nd)), some (.int (zI pt)), some (.int (zI lg)), some (.int (zI df)), some (.int (zI i)), none, none] [.int (zI x55)] (WX A G a o s R bb sn t n κ ++ []) := by
          intro x55 κ hx55
          refine V.istore (q := 57) (lo' := [_, _, _, _, _, _, _, _, _, _, _]) F dL_isPlate_55 rfl (Nat.le_of_ble_eq_true rfl) rfl rfl ?_
          have J88 : ∀ (x88 : Int) (κ : Scr) (hx88 : x88 = duz a (p * 4 + q) i), V X (YL_isPlate l G) 0 0 88 [some (.ref (A 0)), some (.int (zI p)), some (.int (zI q)), some (.int (zI f9)), some (.int (zI nd)), some (.int (zI pt)), some (.int (zI lg)), some (.int (zI df)), some (.int (zI i)), some (.int (zI x55)), none] [.int (zI x88)] (WX A G a o s R bb sn t n κ ++ []) := by
            intro x88 κ hx88
            refine V.istore (q := 90) (lo' := [_, _, _, _, _, _, _, _, _, _, _]) F dL_isPlate_88 rfl (Nat.le_of_ble_eq_true rfl) rfl rfl ?_
            refine V.iload_n (q := 91) F dL_isPlate_90 rfl rfl rfl ?_
            have J111 : ∀ (x111 : Int) (κ : Scr) (hx111 : x111 = absz (x55 - x88)), V X (YL_isPlate l G) 0 0 111 [some (.ref (A 0)), some (.int (zI p)), some (.int (zI q)), some (.int (zI f9)), some (.int (zI nd)), some (.int (zI pt)), some (.int (zI lg)), some (.int (zI df)), some (.int (zI i)), some (.int (zI x55)), some (.int (zI x88))] [.int (zI x111), .int (zI f9)] (WX A G a o s R bb sn t n κ ++ []) := by
              intro x111 κ hx111
              refine V.iadd (q := 112) F dL_isPlate_111 rfl ?_
              refine V.istore_n (q := 113) (lo' := [_, _, _, _, _, _, _, _, _, _, _]) F dL_isPlate_112 rfl rfl (Nat.le_of_ble_eq_true rfl) rfl rfl ?_
              refine V.iload (q := 115) F dL_isPlate_113 rfl rfl ?_
              have J127 : ∀ (x127 : Int) (κ : Scr) (hx127 : x127 = if x88 < x55 then 1 else 0), V X (YL_isPlate l G) 0 0 127 [some (.ref (A 0)), some (.int (zI p)), some (.int (zI q)), some (.int (zI (f9 + x111))), some (.int (zI nd)), some (.int (zI pt)), some (.int (zI lg)), some (.int (zI df)), some (.int (zI i)), some (.int (zI x55)), some (.int (zI x88))] [.int (zI x127), .int (zI nd)] (WX A G a o s R bb sn t n κ ++ []) := by
                intro x127 κ hx127
                refine V.iadd (q := 128) F dL_isPlate_127 rfl ?_
                refine V.istore (q := 130) (lo' := [_, _, _, _, _, _, _, _, _, _, _]) F dL_isPlate_128 rfl (Nat.le_of_ble_eq_true rfl) rfl rfl ?_
                refine V.iload (q := 132) F dL_isPlate_130 rfl rfl ?_
                have J144 : ∀ (x144 : Int) (κ : Scr) (hx144 : x144 = if x55 = x88 then 0 else 1), V X (YL_isPlate l G) 0 0 144 [some (.ref (A 0)), some (.int (zI p)), some (.int (zI q)), some (.int (zI (f9 + x111))), some (.int (zI (nd + x127))), some (.int (zI pt)), some (.int (zI lg)), some (.int (zI df)), some (.int (zI i)), some (.int (zI x55)), some (.int (zI x88))] [.int (zI x144), .int (zI df)] (WX A G a o s R bb sn t n κ ++ []) := by
                  intro x144 κ hx144
                  refine V.iadd (q := 145) F dL_isPlate_144 rfl ?_
                  refine V.istore (q := 147) (lo' := [_, _, _, _, _, _, _, _, _, _, _]) F dL_isPlate_145 rfl (Nat.le_of_ble_eq_true rfl) rfl rfl ?_
                  refine V.iload (q := 149) F dL_isPlate_147 rfl rfl ?_
                  have J166 : ∀ (x166 : Int) (κ : Scr) (hx166 : x166 = if i < 48 ∧ 0 < x55 then 1 else 0), V X (YL_isPlate l G) 0 0 166 [some (.ref (A 0)), some (.int (zI p)), some (.int (zI q)), some (.int (zI (f9 + x111))), some (.int (zI (nd + x127))), some (.int (zI pt)), some (.int (zI lg)), some (.int (zI (df + x144))), some (.int (zI i)), some (.int (zI x55)), some (.int (zI x88))] [.int (zI x166), .int (zI pt)] (WX A G a o s R bb sn t n κ ++ []) := by
                    intro x166 κ hx166
                    refine V.iadd (q := 167) F dL_isPlate_166 rfl ?_
                    refine V.istore (q := 169) (lo' := [_, _, _, _, _, _, _, _, _, _, _]) F dL_isPlate_167 rfl (Nat.le_of_ble_eq_true rfl) rfl rfl ?_
                    have J190 : ∀ (x190 : Int) (κ : Scr) (hx190 : x190 = if i < 48 ∧ lg < x55 then x55 else lg), V X (YL_isPlate l G) 0 0 190 [some (.ref (A 0)), some (.int (zI p)), some (.int (zI q)), some (.int (zI (f9 + x111))), some (.int (zI (nd + x127))), some (.int (zI (pt + x166))), some (.int (zI lg)), some (.int (zI (df + x144))), some (.int (zI i)), some (.int (zI x55)), some (.int (zI x88))] [.int (zI x190)] (WX A G a o s R bb sn t n κ ++ []) := by
                      intro x190 κ hx190
                      refine V.istore (q := 192) (lo' := [_, _, _, _, _, _, _, _, _, _, _]) F dL_isPlate_190 rfl (Nat.le_of_ble_eq_true rfl) rfl rfl ?_
                      refine V.iinc (q := 195) (lo' := [_, _, _, _, _, _, _, _, _, _, _]) F dL_isPlate_192 rfl rfl (Nat.le_of_ble_eq_true rfl) rfl rfl ?_
                      refine V.goto (tgt := 17) F dL_isPlate_195 (by decide) ?_
                      refine V.mask [true, true, true, true, true, true, true, true, true, false, false] (lo' := [_, _, _, _, _, _, _, _, _, _, _]) rfl ?_
                      exact ih17 (i + 1) _ _ _ _ _ _ (by omega) (by rw [farS_s _ _ hi.1, ← hf, hx111, hx55, hx88]) (by rw [needS_s _ _ hi.1, ← hnd, hx127, hx55, hx88]) (by rw [petS_s _ _ hi.1, ← hpt, hx166, hx55]) (by rw [lonS_s _ _ hi.1, ← hlg, hx190, hx55]) (by rw [difS_s _ _ hi.1, ← hdf, hx144, hx55, hx88]) (by omega)
                    refine V.iload (q := 171) F dL_isPlate_169 rfl rfl ?_
                    refine V.bipush (q := 173) F dL_isPlate_171 rfl (by decide) ?_
                    refine V.icmp_ge (q := 176) (tgt := 188) F dL_isPlate_173 rfl (by decide) (by omega) (fun k173 => ?_) (fun k173 => ?_)
                    · refine V.iload (q := 190) F dL_isPlate_188 rfl rfl ?_
                      exact J190 _ _ (by omega)
                    · refine V.iload (q := 178) F dL_isPlate_176 rfl rfl ?_
                      refine V.iload (q := 180) F dL_isPlate_178 rfl rfl ?_
                      refine V.icmp_le (q := 183) (tgt := 188) F dL_isPlate_180 rfl (by decide) (by omega) (fun k180 => ?_) (fun k180 => ?_)
                      · refine V.iload (q := 190) F dL_isPlate_188 rfl rfl ?_
                        exact J190 _ _ (by omega)
                      · refine V.iload (q := 185) F dL_isPlate_183 rfl rfl ?_
                        refine V.goto (tgt := 190) F dL_isPlate_185 (by decide) ?_
                        exact J190 _ _ (by omega)
                  refine V.iload (q := 151) F dL_isPlate_149 rfl rfl ?_
                  refine V.bipush (q := 153) F dL_isPlate_151 rfl (by decide) ?_
                  refine V.icmp_ge (q := 156) (tgt := 165) F dL_isPlate_153 rfl (by decide) (by omega) (fun k153 => ?_) (fun k153 => ?_)
                  · refine V.iconst (q := 166) F dL_isPlate_165 rfl ?_
                    exact J166 _ _ (by omega)
                  · refine V.iload (q := 158) F dL_isPlate_156 rfl rfl ?_
                    refine V.if_le (q := 161) (tgt := 165) F dL_isPlate_158 rfl (by decide) (by omega) (fun k158 => ?_) (fun k158 => ?_)
                    · refine V.iconst (q := 166) F dL_isPlate_165 rfl ?_
                      exact J166 _ _ (by omega)
                    · refine V.iconst (q := 162) F dL_isPlate_161 rfl ?_
                      refine V.goto (tgt := 166) F dL_isPlate_162 (by decide) ?_
                      exact J166 _ _ (by omega)
                refine V.iload (q := 134) F dL_isPlate_132 rfl rfl ?_
                refine V.iload (q := 136) F dL_isPlate_134 rfl rfl ?_
                refine V.icmp_ne (q := 139) (tgt := 143) F dL_isPlate_136 rfl (by decide) (by omega) (fun k136 => ?_) (fun k136 => ?_)
                · refine V.iconst (q := 144) F dL_isPlate_143 rfl ?_
                  exact J144 _ _ (by omega)
                · refine V.iconst (q := 140) F dL_isPlate_139 rfl ?_
                  refine V.goto (tgt := 144) F dL_isPlate_140 (by decide) ?_
                  exact J144 _ _ (by omega)
              refine V.iload (q := 117) F dL_isPlate_115 rfl rfl ?_
              refine V.iload (q := 119) F dL_isPlate_117 rfl rfl ?_
              refine V.icmp_le (q := 122) (tgt := 126) F dL_isPlate_119 rfl (by decide) (by omega) (fun k119 => ?_) (fun k119 => ?_)
              · refine V.iconst (q := 127) F dL_isPlate_126 rfl ?_
                exact J127 _ _ (by omega)
              · refine V.iconst (q := 123) F dL_isPlate_122 rfl ?_
                refine V.goto (tgt := 127) F dL_isPlate_123 (by decide) ?_
                exact J127 _ _ (by omega)
            refine V.iload (q := 93) F dL_isPlate_91 rfl rfl ?_
            refine V.iload (q := 95) F dL_isPlate_93 rfl rfl ?_
            refine V.icmp_le (q := 98) (tgt := 106) F dL_isPlate_95 rfl (by decide) (by omega) (fun k95 => ?_) (fun k95 => ?_)
            · refine V.iload (q := 108) F dL_isPlate_106 rfl rfl ?_
              refine V.iload (q := 110) F dL_isPlate_108 rfl rfl ?_
              refine V.isub (q := 111) F dL_isPlate_110 rfl ?_
              exact J111 _ _ (by unfold absz; omega)
            · refine V.iload (q := 100) F dL_isPlate_98 rfl rfl ?_
              refine V.iload (q := 102) F dL_isPlate_100 rfl rfl ?_
              refine V.isub (q := 103) F dL_isPlate_102 rfl ?_
              refine V.goto (tgt := 111) F dL_isPlate_103 (by decide) ?_
              exact J111 _ _ (by unfold absz; omega)
          refine V.iload (q := 59) F dL_isPlate_57 rfl rfl ?_
          refine V.bipush (q := 61) F dL_isPlate_59 rfl (by decide) ?_
          refine V.icmp_ne (q := 64) (tgt := 74) F dL_isPlate_61 rfl (by decide) (by omega) (fun k61 => ?_) (fun k61 => ?_)
          · refine V.aload_n (q := 75) F dL_isPlate_74 rfl rfl rfl ?_
            refine V.iload_n (q := 76) F dL_isPlate_75 rfl rfl rfl ?_
            refine V.iload_n (q := 77) F dL_isPlate_76 rfl rfl rfl ?_
            refine V.iload (q := 79) F dL_isPlate_77 rfl rfl ?_
            refine V.iconst (q := 80) F dL_isPlate_79 rfl ?_
            refine V.idiv (q := 81) F dL_isPlate_80 rfl ⟨by omega, by omega⟩ ?_
            refine V.iload (q := 83) F dL_isPlate_81 rfl rfl ?_
            refine V.iconst (q := 84) F dL_isPlate_83 rfl ?_
            refine V.irem (q := 85) F dL_isPlate_84 rfl ⟨by omega, by omega⟩ ?_
            refine V.callX (q := 88) F 27 rfl nd27 dL_isPlate_85 rfl (c_X6_share l G A a κ.1.1 R sn t κ.1.2.1 κ.1.2.2.1 κ.1.2.2.2.1 κ.1.2.2.2.2 κ.2.1.1 κ.2.1.2.1 κ.2.1.2.2 κ.2.2.1.1 κ.2.2.1.2.1 κ.2.2.1.2.2 κ.2.2.2.1.1 κ.2.2.2.1.2.1 κ.2.2.2.1.2.2 o s bb n κ.2.2.2.2.1 κ.2.2.2.2.2.1 κ.2.2.2.2.2.2.1 κ.2.2.2.2.2.2.2.1 κ.2.2.2.2.2.2.2.2.1 κ.2.2.2.2.2.2.2.2.2.1 κ.2.2.2.2.2.2.2.2.2.2.1 κ.2.2.2.2.2.2.2.2.2.2.2 p q (i / 3) (i % 3) hP.1 hP.2.2.2.1 hP.2.2.2.2 hbb hn ht (by omega) (by omega) (by omega) (by omega)) gL_isPlate_X6_share rfl rfl ydX6_share ⟨Nat.le_of_ble_eq_true rfl, Nat.le_of_ble_eq_true rfl⟩ (ci := 6) rfl rfl rfl rfl (Nat.le_of_ble_eq_true rfl) ⟨Nat.le_of_ble_eq_true rfl, Nat.le_of_ble_eq_true rfl⟩ (fun r9 w9 h9 => ?_)
            rw [rShare_i (a := a) (p := p) (q := q) (by omega) (by omega) (i := i) (by omega)] at h9
            obtain ⟨κ, rfl, rfl⟩ := h9
            refine V.eq (pc' := 88) (st' := [_]) (ws' := WX A G a o s R bb sn t n κ ++ []) rfl rfl rfl rfl ?_
            exact J88 _ _ (by first | (rw [show i = 48 by omega, duz_48]) | (rw [duz_k a _ (by omega)]))
          · refine V.aload_n (q := 65) F dL_isPlate_64 rfl rfl rfl ?_
            refine V.iload_n (q := 66) F dL_isPlate_65 rfl rfl rfl ?_
            refine V.iload_n (q := 67) F dL_isPlate_66 rfl rfl rfl ?_
            refine V.iconst (q := 68) F dL_isPlate_67 rfl ?_
            refine V.callX (q := 71) F 27 rfl nd27 dL_isPlate_68 rfl (c_X6_rose l G A a κ.1.1 R sn t κ.1.2.1 κ.1.2.2.1 κ.1.2.2.2.1 κ.1.2.2.2.2 κ.2.1.1 κ.2.1.2.1 κ.2.1.2.2 κ.2.2.1.1 κ.2.2.1.2.1 κ.2.2.1.2.2 κ.2.2.2.1.1 κ.2.2.2.1.2.1 κ.2.2.2.1.2.2 o s bb n κ.2.2.2.2.1 κ.2.2.2.2.2.1 κ.2.2.2.2.2.2.1 κ.2.2.2.2.2.2.2.1 κ.2.2.2.2.2.2.2.2.1 κ.2.2.2.2.2.2.2.2.2.1 κ.2.2.2.2.2.2.2.2.2.2.1 κ.2.2.2.2.2.2.2.2.2.2.2 p q 3 hP.1 hP.2.2.2.1 hP.2.2.2.2 hbb hn ht (by omega) (by omega) (by omega)) gL_isPlate_X6_rose rfl rfl ydX6_rose ⟨Nat.le_of_ble_eq_true rfl, Nat.le_of_ble_eq_true rfl⟩ (ci := 6) rfl rfl rfl rfl (Nat.le_of_ble_eq_true rfl) ⟨Nat.le_of_ble_eq_true rfl, Nat.le_of_ble_eq_true rfl⟩ (fun r9 w9 h9 => ?_)
            rw [rRose_3 (a := a) (p := p) (q := q) (by omega) (by omega)] at h9
            obtain ⟨κ, rfl, rfl⟩ := h9
            refine V.eq (pc' := 71) (st' := [_]) (ws' := WX A G a o s R bb sn t n κ ++ []) rfl rfl rfl rfl ?_
            refine V.goto (tgt := 88) F dL_isPlate_71 (by decide) ?_
            exact J88 _ _ (by first | (rw [show i = 48 by omega, duz_48]) | (rw [duz_k a _ (by omega)]))
        refine V.iload (q := 26) F dL_isPlate_24 rfl rfl ?_
        refine V.bipush (q := 28) F dL_isPlate_26 rfl (by decide) ?_
        refine V.icmp_ne (q := 31) (tgt := 41) F dL_isPlate_28 rfl (by decide) (by omega) (fun k28 => ?_) (fun k28 => ?_)
        · refine V.aload_n (q := 42) F dL_isPlate_41 rfl rfl rfl ?_
          refine V.iload_n (q := 43) F dL_isPlate_42 rfl rfl rfl ?_
          refine V.iload_n (q := 44) F dL_isPlate_43 rfl rfl rfl ?_
          refine V.iload (q := 46) F dL_isPlate_44 rfl rfl ?_
          refine V.iconst (q := 47) F dL_isPlate_46 rfl ?_
          refine V.idiv (q := 48) F dL_isPlate_47 rfl ⟨by omega, by omega⟩ ?_
          refine V.iload (q := 50) F dL_isPlate_48 rfl rfl ?_
          refine V.iconst (q := 51) F dL_isPlate_50 rfl ?_
          refine V.irem (q := 52) F dL_isPlate_51 rfl ⟨by omega, by omega⟩ ?_
          refine V.callX (q := 55) F 27 rfl nd27 dL_isPlate_52 rfl (c_X6_petal l G A a κ.1.1 R sn t κ.1.2.1 κ.1.2.2.1 κ.1.2.2.2.1 κ.1.2.2.2.2 κ.2.1.1 κ.2.1.2.1 κ.2.1.2.2 κ.2.2.1.1 κ.2.2.1.2.1 κ.2.2.1.2.2 κ.2.2.2.1.1 κ.2.2.2.1.2.1 κ.2.2.2.1.2.2 o s bb n κ.2.2.2.2.1 κ.2.2.2.2.2.1 κ.2.2.2.2.2.2.1 κ.2.2.2.2.2.2.2.1 κ.2.2.2.2.2.2.2.2.1 κ.2.2.2.2.2.2.2.2.2.1 κ.2.2.2.2.2.2.2.2.2.2.1 κ.2.2.2.2.2.2.2.2.2.2.2 p q (i / 3) (i % 3) hP.1 hP.2.2.2.1 hP.2.2.2.2 hbb hn ht (by omega) (by omega) (by omega) (by omega)) gL_isPlate_X6_petal rfl rfl ydX6_petal ⟨Nat.le_of_ble_eq_true rfl, Nat.le_of_ble_eq_true rfl⟩ (ci := 6) rfl rfl rfl rfl (Nat.le_of_ble_eq_true rfl) ⟨Nat.le_of_ble_eq_true rfl, Nat.le_of_ble_eq_true rfl⟩ (fun r9 w9 h9 => ?_)
          rw [rPetal_i (a := a) (p := p) (q := q) (by omega) (by omega) (i := i) (by omega)] at h9
          obtain ⟨κ, rfl, rfl⟩ := h9
          refine V.eq (pc' := 55) (st' := [_]) (ws' := WX A G a o s R bb sn t n κ ++ []) rfl rfl rfl rfl ?_
          exact J55 _ _ (by first | (rw [show i = 48 by omega, itz_48]) | (rw [itz_k a _ (by omega)]))
        · refine V.aload_n (q := 32) F dL_isPlate_31 rfl rfl rfl ?_
          refine V.iload_n (q := 33) F dL_isPlate_32 rfl rfl rfl ?_
          refine V.iload_n (q := 34) F dL_isPlate_33 rfl rfl rfl ?_
          refine V.iconst (q := 35) F dL_isPlate_34 rfl ?_
          refine V.callX (q := 38) F 27 rfl nd27 dL_isPlate_35 rfl (c_X6_plate l G A a κ.1.1 R sn t κ.1.2.1 κ.1.2.2.1 κ.1.2.2.2.1 κ.1.2.2.2.2 κ.2.1.1 κ.2.1.2.1 κ.2.1.2.2 κ.2.2.1.1 κ.2.2.1.2.1 κ.2.2.1.2.2 κ.2.2.2.1.1 κ.2.2.2.1.2.1 κ.2.2.2.1.2.2 o s bb n κ.2.2.2.2.1 κ.2.2.2.2.2.1 κ.2.2.2.2.2.2.1 κ.2.2.2.2.2.2.2.1 κ.2.2.2.2.2.2.2.2.1 κ.2.2.2.2.2.2.2.2.2.1 κ.2.2.2.2.2.2.2.2.2.2.1 κ.2.2.2.2.2.2.2.2.2.2.2 p q 0 hP.1 hP.2.2.2.1 hP.2.2.2.2 hbb hn ht (by omega) (by omega) (by omega)) gL_isPlate_X6_plate rfl rfl ydX6_plate ⟨Nat.le_of_ble_eq_true rfl, Nat.le_of_ble_eq_true rfl⟩ (ci := 6) rfl rfl rfl rfl (Nat.le_of_ble_eq_true rfl) ⟨Nat.le_of_ble_eq_true rfl, Nat.le_of_ble_eq_true rfl⟩ (fun r9 w9 h9 => ?_)
          rw [rPlate_0 (a := a) (p := p) (q := q) (by omega) (by omega)] at h9
          obtain ⟨κ, rfl, rfl⟩ := h9
          refine V.eq (pc' := 38) (st' := [_]) (ws' := WX A G a o s R bb sn t n κ ++ []) rfl rfl rfl rfl ?_
          refine V.goto (tgt := 55) F dL_isPlate_38 (by decide) ?_
          exact J55 _ _ (by first | (rw [show i = 48 by omega, itz_48]) | (rw [itz_k a _ (by omega)]))
  exact L17 _ 0 0 0 0 0 0 _ (by omega) (sz_self _ _).symm (sz_self _ _).symm (sz_self _ _).symm (by unfold lonS; rw [if_pos (by omega)]; rfl) (sz_self _ _).symm (Nat.lt_succ_self _)

abbrev YL_areAll (l : Launch) (G : Gx) : Sx := (cL_areAll, 10, RL, wsL_areAll, rmD 7, l, G)
theorem ydL_areAll : ydOk yL_areAll 1 := by decide +kernel
set_option maxHeartbeats 4000000 in
set_option maxRecDepth 20000 in
theorem c_L_areAll (l : Launch) (G : Gx) (A : Nat → Nat)  (a R sn t : Int → Int) (o s bb n N : Int) (κ : Scr) (hP : PI N a o s) (hbb : 0 ≤ bb ∧ bb ≤ 1) (hn : 0 ≤ n ∧ n ≤ 80) (ht : ∀ j, 0 ≤ t j ∧ t j < 65536) : Ct l G yL_areAll wsL_areAll (rmD 7) [.ref (A 0)] (WX A G a o s R bb sn t n κ) (RdX A G a o s R bb sn t n 1) := by
  refine Ct.intro (cc := cL_areAll) (maxL := 10) (ret := (some .boolean)) (lo0 := [some (.ref (A 0)), none, none, none, none, none, none, none, none, none]) (by decide +kernel) rfl ⟨rfl, rfl⟩ (Nat.le_of_ble_eq_true rfl) rfl ?_
  intro X F T
  change Fx X (YL_areAll l G) at F
  change V X (YL_areAll l G) 0 0 0 _ _ _
  refine V.eq (pc' := 0) (ws' := WX A G a o s R bb sn t n κ ++ []) rfl rfl rfl (List.append_nil _).symm ?_
  have hI := hP.1
  have hset := hI.s
  refine V.iconst (q := 1) F dL_areAll_0 rfl ?_
  refine V.istore_n (q := 2) (lo' := [_, _, _, _, _, _, _, _, _, _]) F dL_areAll_1 rfl rfl (Nat.le_of_ble_eq_true rfl) rfl rfl ?_
  refine V.iconst (q := 3) F dL_areAll_2 rfl ?_
  refine V.istore_n (q := 4) (lo' := [_, _, _, _, _, _, _, _, _, _]) F dL_areAll_3 rfl rfl (Nat.le_of_ble_eq_true rfl) rfl rfl ?_
  refine V.iconst (q := 5) F dL_areAll_4 rfl ?_
  refine V.istore_n (q := 6) (lo' := [_, _, _, _, _, _, _, _, _, _]) F dL_areAll_5 rfl rfl (Nat.le_of_ble_eq_true rfl) rfl rfl ?_
  refine V.iconst (q := 7) F dL_areAll_6 rfl ?_
  refine V.istore (q := 9) (lo' := [_, _, _, _, _, _, _, _, _, _]) F dL_areAll_7 rfl (Nat.le_of_ble_eq_true rfl) rfl rfl ?_
  refine V.bipush (q := 11) F dL_areAll_9 rfl (by decide) ?_
  refine V.istore (q := 13) (lo' := [_, _, _, _, _, _, _, _, _, _]) F dL_areAll_11 rfl (Nat.le_of_ble_eq_true rfl) rfl rfl ?_
  refine V.iconst (q := 14) F dL_areAll_13 rfl ?_
  refine V.istore (q := 16) (lo' := [_, _, _, _, _, _, _, _, _, _]) F dL_areAll_14 rfl (Nat.le_of_ble_eq_true rfl) rfl rfl ?_
  refine V.iconst (q := 17) F dL_areAll_16 rfl ?_
  refine V.istore (q := 19) (lo' := [_, _, _, _, _, _, _, _, _, _]) F dL_areAll_17 rfl (Nat.le_of_ble_eq_true rfl) rfl rfl ?_
  have L19 : ∀ (nq : Nat) (i H Cm Wr Sc B M : Int) (κ : Scr) (hi : 0 ≤ i ∧ i ≤ 16) (hH : H = sz (fun k => a (25344 + k) + a (25360 + k)) 0 i) (hC : Cm = sz (fun k => a (25360 + k)) 0 i) (hW : Wr = sz (fun k => if 0 < disz a k then 1 else 0) 0 i) (hS : Sc = sz (fun k => a (26160 + k)) 0 i) (hM : (M, B) = pvz (nxf a) i.toNat) (hM2 : 0 ≤ M ∧ M ≤ 1000000), (16 - i).toNat < nq → V X (YL_areAll l G) 0 0 19 [some (.ref (A 0)), some (.int (zI H)), some (.int (zI Cm)), some (.int (zI Wr)), some (.int (zI Sc)), some (.int (zI B)), some (.int (zI M)), some (.int (zI i)), none, none] [] (WX A G a o s R bb sn t n κ ++ []) := by
    intro n19
    induction n19 with
    | zero => intro i H Cm Wr Sc B M κ hi hH hC hW hS hM hM2 hm19; exact absurd hm19 (Nat.not_lt_zero _)
    | succ n19 ih19 =>
      intro i H Cm Wr Sc B M κ hi hH hC hW hS hM hM2 hm19
      refine V.iload (q := 21) F dL_areAll_19 rfl rfl ?_
      refine V.bipush (q := 23) F dL_areAll_21 rfl (by decide) ?_
      refine V.icmp_ge (q := 26) (tgt := 167) F dL_areAll_23 rfl (by decide) (by omega) (fun k23 => ?_) (fun k23 => ?_)
      · have hi16 : i = 16 := by omega
        have hH2 : H = sumz a 25344 + sumz a 25360 := by rw [hH, hi16, sz_add]; rfl
        have hC2 : Cm = sumz a 25360 := by rw [hC, hi16]; rfl
        have hW2 : Wr = pnad a 16 := by rw [hW, hi16, pnad_o]
        have hS2 : Sc = sumz a 26160 := by rw [hS, hi16]; rfl
        have hB2 : B = rNext a := by unfold rNext; rw [show (16 : Nat) = i.toNat by omega, ← hM]
        have g1 := sumz_rng (a := a) (t := 25344) (c := 9999) (by omega) (fun k h1 h2 => by have := hI.w (r := k) ⟨h1, h2⟩; omega)
        have g2 := sumz_rng (a := a) (t := 25360) (c := 9999) (by omega) (fun k h1 h2 => by have := hI.w (r := k) ⟨h1, h2⟩; omega)
        have g3 := sumz_rng (a := a) (t := 26160) (c := 9) (by omega) (fun k h1 h2 => ⟨hI.1 _, hP.2.1 k h1 h2⟩)
        have g4 : 0 ≤ pnad a 16 ∧ pnad a 16 ≤ 16 - 0 := sz_cnt (by omega) (fun j _ _ => by split <;> omega)
        have g5 := rNext_rng hI
        refine V.aload_n (q := 168) F dL_areAll_167 rfl rfl rfl ?_
        refine V.iconst (q := 169) F dL_areAll_168 rfl ?_
        refine V.callX (q := 172) F 27 rfl nd27 dL_areAll_169 rfl (c_X6_count l G A a κ.1.1 R sn t κ.1.2.1 κ.1.2.2.1 κ.1.2.2.2.1 κ.1.2.2.2.2 κ.2.1.1 κ.2.1.2.1 κ.2.1.2.2 κ.2.2.1.1 κ.2.2.1.2.1 κ.2.2.1.2.2 κ.2.2.2.1.1 κ.2.2.2.1.2.1 κ.2.2.2.1.2.2 o s bb n κ.2.2.2.2.1 κ.2.2.2.2.2.1 κ.2.2.2.2.2.2.1 κ.2.2.2.2.2.2.2.1 κ.2.2.2.2.2.2.2.2.1 κ.2.2.2.2.2.2.2.2.2.1 κ.2.2.2.2.2.2.2.2.2.2.1 κ.2.2.2.2.2.2.2.2.2.2.2 0 hP.1 hP.2.2.2.1 hP.2.2.2.2 hbb hn ht (by omega)) gL_areAll_X6_count rfl rfl ydX6_count ⟨Nat.le_of_ble_eq_true rfl, Nat.le_of_ble_eq_true rfl⟩ (ci := 6) rfl rfl rfl rfl (Nat.le_of_ble_eq_true rfl) ⟨Nat.le_of_ble_eq_true rfl, Nat.le_of_ble_eq_true rfl⟩ (fun r9 w9 h9 => ?_)
        rw [rCount_0] at h9
        obtain ⟨κ, rfl, rfl⟩ := h9
        refine V.eq (pc' := 172) (st' := [_]) (ws' := WX A G a o s R bb sn t n κ ++ []) rfl rfl rfl rfl ?_
        refine V.iload_n (q := 173) F dL_areAll_172 rfl rfl rfl ?_
        refine V.icmp_ne (q := 176) (tgt := 232) F dL_areAll_173 rfl (by decide) (by omega) (fun k173 => by exfalso; omega) (fun k173 => ?_)
        refine V.aload_n (q := 177) F dL_areAll_176 rfl rfl rfl ?_
        refine V.iconst (q := 178) F dL_areAll_177 rfl ?_
        refine V.callX (q := 181) F 27 rfl nd27 dL_areAll_178 rfl (c_X6_count l G A a κ.1.1 R sn t κ.1.2.1 κ.1.2.2.1 κ.1.2.2.2.1 κ.1.2.2.2.2 κ.2.1.1 κ.2.1.2.1 κ.2.1.2.2 κ.2.2.1.1 κ.2.2.1.2.1 κ.2.2.1.2.2 κ.2.2.2.1.1 κ.2.2.2.1.2.1 κ.2.2.2.1.2.2 o s bb n κ.2.2.2.2.1 κ.2.2.2.2.2.1 κ.2.2.2.2.2.2.1 κ.2.2.2.2.2.2.2.1 κ.2.2.2.2.2.2.2.2.1 κ.2.2.2.2.2.2.2.2.2.1 κ.2.2.2.2.2.2.2.2.2.2.1 κ.2.2.2.2.2.2.2.2.2.2.2 1 hP.1 hP.2.2.2.1 hP.2.2.2.2 hbb hn ht (by omega)) gL_areAll_X6_count rfl rfl ydX6_count ⟨Nat.le_of_ble_eq_true rfl, Nat.le_of_ble_eq_true rfl⟩ (ci := 6) rfl rfl rfl rfl (Nat.le_of_ble_eq_true rfl) ⟨Nat.le_of_ble_eq_true rfl, Nat.le_of_ble_eq_true rfl⟩ (fun r9 w9 h9 => ?_)
        rw [rCount_1] at h9
        obtain ⟨κ, rfl, rfl⟩ := h9
        refine V.eq (pc' := 181) (st' := [_]) (ws' := WX A G a o s R bb sn t n κ ++ []) rfl rfl rfl rfl ?_
        refine V.iload_n (q := 182) F dL_areAll_181 rfl rfl rfl ?_
        refine V.icmp_ne (q := 185) (tgt := 232) F dL_areAll_182 rfl (by decide) (by omega) (fun k182 => by exfalso; omega) (fun k182 => ?_)
        refine V.aload_n (q := 186) F dL_areAll_185 rfl rfl rfl ?_
        refine V.iconst (q := 187) F dL_areAll_186 rfl ?_
        refine V.callX (q := 190) F 27 rfl nd27 dL_areAll_187 rfl (c_X6_count l G A a κ.1.1 R sn t κ.1.2.1 κ.1.2.2.1 κ.1.2.2.2.1 κ.1.2.2.2.2 κ.2.1.1 κ.2.1.2.1 κ.2.1.2.2 κ.2.2.1.1 κ.2.2.1.2.1 κ.2.2.1.2.2 κ.2.2.2.1.1 κ.2.2.2.1.2.1 κ.2.2.2.1.2.2 o s bb n κ.2.2.2.2.1 κ.2.2.2.2.2.1 κ.2.2.2.2.2.2.1 κ.2.2.2.2.2.2.2.1 κ.2.2.2.2.2.2.2.2.1 κ.2.2.2.2.2.2.2.2.2.1 κ.2.2.2.2.2.2.2.2.2.2.1 κ.2.2.2.2.2.2.2.2.2.2.2 2 hP.1 hP.2.2.2.1 hP.2.2.2.2 hbb hn ht (by omega)) gL_areAll_X6_count rfl rfl ydX6_count ⟨Nat.le_of_ble_eq_true rfl, Nat.le_of_ble_eq_true rfl⟩ (ci := 6) rfl rfl rfl rfl (Nat.le_of_ble_eq_true rfl) ⟨Nat.le_of_ble_eq_true rfl, Nat.le_of_ble_eq_true rfl⟩ (fun r9 w9 h9 => ?_)
        rw [rCount_2] at h9
        obtain ⟨κ, rfl, rfl⟩ := h9
        refine V.eq (pc' := 190) (st' := [_]) (ws' := WX A G a o s R bb sn t n κ ++ []) rfl rfl rfl rfl ?_
        refine V.iload_n (q := 191) F dL_areAll_190 rfl rfl rfl ?_
        refine V.icmp_ne (q := 194) (tgt := 232) F dL_areAll_191 rfl (by decide) (by omega) (fun k191 => by exfalso; omega) (fun k191 => ?_)
        refine V.aload_n (q := 195) F dL_areAll_194 rfl rfl rfl ?_
        refine V.iconst (q := 196) F dL_areAll_195 rfl ?_
        refine V.callX (q := 199) F 27 rfl nd27 dL_areAll_196 rfl (c_X6_count l G A a κ.1.1 R sn t κ.1.2.1 κ.1.2.2.1 κ.1.2.2.2.1 κ.1.2.2.2.2 κ.2.1.1 κ.2.1.2.1 κ.2.1.2.2 κ.2.2.1.1 κ.2.2.1.2.1 κ.2.2.1.2.2 κ.2.2.2.1.1 κ.2.2.2.1.2.1 κ.2.2.2.1.2.2 o s bb n κ.2.2.2.2.1 κ.2.2.2.2.2.1 κ.2.2.2.2.2.2.1 κ.2.2.2.2.2.2.2.1 κ.2.2.2.2.2.2.2.2.1 κ.2.2.2.2.2.2.2.2.2.1 κ.2.2.2.2.2.2.2.2.2.2.1 κ.2.2.2.2.2.2.2.2.2.2.2 3 hP.1 hP.2.2.2.1 hP.2.2.2.2 hbb hn ht (by omega)) gL_areAll_X6_count rfl rfl ydX6_count ⟨Nat.le_of_ble_eq_true rfl, Nat.le_of_ble_eq_true rfl⟩ (ci := 6) rfl rfl rfl rfl (Nat.le_of_ble_eq_true rfl) ⟨Nat.le_of_ble_eq_true rfl, Nat.le_of_ble_eq_true rfl⟩ (fun r9 w9 h9 => ?_)
        rw [rCount_3] at h9
        obtain ⟨κ, rfl, rfl⟩ := h9
        refine V.eq (pc' := 199) (st' := [_]) (ws' := WX A G a o s R bb sn t n κ ++ []) rfl rfl rfl rfl ?_
        refine V.iload (q := 201) F dL_areAll_199 rfl rfl ?_
        refine V.icmp_ne (q := 204) (tgt := 232) F dL_areAll_201 rfl (by decide) (by omega) (fun k201 => by exfalso; omega) (fun k201 => ?_)
        refine V.aload_n (q := 205) F dL_areAll_204 rfl rfl rfl ?_
        refine V.callX (q := 208) F 27 rfl nd27 dL_areAll_205 rfl (c_X6_nextPlate l G A a κ.1.1 R sn t κ.1.2.1 κ.1.2.2.1 κ.1.2.2.2.1 κ.1.2.2.2.2 κ.2.1.1 κ.2.1.2.1 κ.2.1.2.2 κ.2.2.1.1 κ.2.2.1.2.1 κ.2.2.1.2.2 κ.2.2.2.1.1 κ.2.2.2.1.2.1 κ.2.2.2.1.2.2 o s bb n κ.2.2.2.2.1 κ.2.2.2.2.2.1 κ.2.2.2.2.2.2.1 κ.2.2.2.2.2.2.2.1 κ.2.2.2.2.2.2.2.2.1 κ.2.2.2.2.2.2.2.2.2.1 κ.2.2.2.2.2.2.2.2.2.2.1 κ.2.2.2.2.2.2.2.2.2.2.2 hP.1 hP.2.2.2.1 hP.2.2.2.2 hbb hn ht) gL_areAll_X6_nextPlate rfl rfl ydX6_nextPlate ⟨Nat.le_of_ble_eq_true rfl, Nat.le_of_ble_eq_true rfl⟩ (ci := 6) rfl rfl rfl rfl (Nat.le_of_ble_eq_true rfl) ⟨Nat.le_of_ble_eq_true rfl, Nat.le_of_ble_eq_true rfl⟩ (fun r9 w9 h9 => ?_)
        obtain ⟨κ, rfl, rfl⟩ := h9
        refine V.eq (pc' := 208) (st' := [_]) (ws' := WX A G a o s R bb sn t n κ ++ []) rfl rfl rfl rfl ?_
        refine V.iload (q := 210) F dL_areAll_208 rfl rfl ?_
        refine V.icmp_ne (q := 213) (tgt := 232) F dL_areAll_210 rfl (by decide) (by omega) (fun k210 => by exfalso; omega) (fun k210 => ?_)
        refine V.aload_n (q := 214) F dL_areAll_213 rfl rfl rfl ?_
        refine V.bipush (q := 216) F dL_areAll_214 rfl (by decide) ?_
        refine V.callX (q := 219) F 27 rfl nd27 dL_areAll_216 rfl (c_X6_count l G A a κ.1.1 R sn t κ.1.2.1 κ.1.2.2.1 κ.1.2.2.2.1 κ.1.2.2.2.2 κ.2.1.1 κ.2.1.2.1 κ.2.1.2.2 κ.2.2.1.1 κ.2.2.1.2.1 κ.2.2.1.2.2 κ.2.2.2.1.1 κ.2.2.2.1.2.1 κ.2.2.2.1.2.2 o s bb n κ.2.2.2.2.1 κ.2.2.2.2.2.1 κ.2.2.2.2.2.2.1 κ.2.2.2.2.2.2.2.1 κ.2.2.2.2.2.2.2.2.1 κ.2.2.2.2.2.2.2.2.2.1 κ.2.2.2.2.2.2.2.2.2.2.1 κ.2.2.2.2.2.2.2.2.2.2.2 6 hP.1 hP.2.2.2.1 hP.2.2.2.2 hbb hn ht (by omega)) gL_areAll_X6_count rfl rfl ydX6_count ⟨Nat.le_of_ble_eq_true rfl, Nat.le_of_ble_eq_true rfl⟩ (ci := 6) rfl rfl rfl rfl (Nat.le_of_ble_eq_true rfl) ⟨Nat.le_of_ble_eq_true rfl, Nat.le_of_ble_eq_true rfl⟩ (fun r9 w9 h9 => ?_)
        rw [rCount_6] at h9
        obtain ⟨κ, rfl, rfl⟩ := h9
        refine V.eq (pc' := 219) (st' := [_]) (ws' := WX A G a o s R bb sn t n κ ++ []) rfl rfl rfl rfl ?_
        refine V.aload_n (q := 220) F dL_areAll_219 rfl rfl rfl ?_
        refine V.bipush (q := 222) F dL_areAll_220 rfl (by decide) ?_
        refine V.callX (q := 225) F 27 rfl nd27 dL_areAll_222 rfl (c_X6_count l G A a κ.1.1 R sn t κ.1.2.1 κ.1.2.2.1 κ.1.2.2.2.1 κ.1.2.2.2.2 κ.2.1.1 κ.2.1.2.1 κ.2.1.2.2 κ.2.2.1.1 κ.2.2.1.2.1 κ.2.2.1.2.2 κ.2.2.2.1.1 κ.2.2.2.1.2.1 κ.2.2.2.1.2.2 o s bb n κ.2.2.2.2.1 κ.2.2.2.2.2.1 κ.2.2.2.2.2.2.1 κ.2.2.2.2.2.2.2.1 κ.2.2.2.2.2.2.2.2.1 κ.2.2.2.2.2.2.2.2.2.1 κ.2.2.2.2.2.2.2.2.2.2.1 κ.2.2.2.2.2.2.2.2.2.2.2 7 hP.1 hP.2.2.2.1 hP.2.2.2.2 hbb hn ht (by omega)) gL_areAll_X6_count rfl rfl ydX6_count ⟨Nat.le_of_ble_eq_true rfl, Nat.le_of_ble_eq_true rfl⟩ (ci := 6) rfl rfl rfl rfl (Nat.le_of_ble_eq_true rfl) ⟨Nat.le_of_ble_eq_true rfl, Nat.le_of_ble_eq_true rfl⟩ (fun r9 w9 h9 => ?_)
        rw [rCount_7] at h9
        obtain ⟨κ, rfl, rfl⟩ := h9
        refine V.eq (pc' := 225) (st' := [_, _]) (ws' := WX A G a o s R bb sn t n κ ++ []) rfl rfl rfl rfl ?_
        refine V.icmp_ge (q := 228) (tgt := 232) F dL_areAll_225 rfl (by decide) (by omega) (fun k225 => by exfalso; omega) (fun k225 => ?_)
        refine V.iconst (q := 229) F dL_areAll_228 rfl ?_
        refine V.goto (tgt := 233) F dL_areAll_229 (by decide) ?_
        exact V.zret F T (Or.inr rfl) dL_areAll_233 ⟨κ, rfl, List.append_nil _⟩ [(A 0), (A 1), (A 2), (A 3), (A 4), (A 5), (A 6), (A 7), (A 8), (A 9), (A 10), (A 11), (A 12), (A 13), (A 14), (A 15), (A 16), (A 17), (A 18), (A 19), (A 20), (A 21), (A 22), (A 23), (A 24), (A 25), (A 26)] rfl rfl
      · have hri : 0 ≤ i ∧ i < 16 := by omega
        have hdr := disz_rng hI hri
        have hor : 0 ≤ obsz a i ∧ obsz a i ≤ 3 := by unfold obsz; omega
        have hnx : nxf a i = if obsz a i = 0 then disz a i else 0 := rfl
        refine V.aload_n (q := 27) F dL_areAll_26 rfl rfl rfl ?_
        refine V.iload (q := 29) F dL_areAll_27 rfl rfl ?_
        refine V.iconst (q := 30) F dL_areAll_29 rfl ?_
        refine V.idiv (q := 31) F dL_areAll_30 rfl ⟨by omega, by omega⟩ ?_
        refine V.iload (q := 33) F dL_areAll_31 rfl rfl ?_
        refine V.iconst (q := 34) F dL_areAll_33 rfl ?_
        refine V.irem (q := 35) F dL_areAll_34 rfl ⟨by omega, by omega⟩ ?_
        refine V.iconst (q := 36) F dL_areAll_35 rfl ?_
        refine V.callX (q := 39) F 27 rfl nd27 dL_areAll_36 rfl (c_X6_plate l G A a κ.1.1 R sn t κ.1.2.1 κ.1.2.2.1 κ.1.2.2.2.1 κ.1.2.2.2.2 κ.2.1.1 κ.2.1.2.1 κ.2.1.2.2 κ.2.2.1.1 κ.2.2.1.2.1 κ.2.2.1.2.2 κ.2.2.2.1.1 κ.2.2.2.1.2.1 κ.2.2.2.1.2.2 o s bb n κ.2.2.2.2.1 κ.2.2.2.2.2.1 κ.2.2.2.2.2.2.1 κ.2.2.2.2.2.2.2.1 κ.2.2.2.2.2.2.2.2.1 κ.2.2.2.2.2.2.2.2.2.1 κ.2.2.2.2.2.2.2.2.2.2.1 κ.2.2.2.2.2.2.2.2.2.2.2 (i / 4) (i % 4) 4 hP.1 hP.2.2.2.1 hP.2.2.2.2 hbb hn ht (by omega) (by omega) (by omega)) gL_areAll_X6_plate rfl rfl ydX6_plate ⟨Nat.le_of_ble_eq_true rfl, Nat.le_of_ble_eq_true rfl⟩ (ci := 6) rfl rfl rfl rfl (Nat.le_of_ble_eq_true rfl) ⟨Nat.le_of_ble_eq_true rfl, Nat.le_of_ble_eq_true rfl⟩ (fun r9 w9 h9 => ?_)
        rw [rPlate_4 (a := a) (p := i / 4) (q := i % 4) (by omega) (by omega), show i / 4 * 4 + i % 4 = i by omega] at h9
        obtain ⟨κ, rfl, rfl⟩ := h9
        refine V.eq (pc' := 39) (st' := [_]) (ws' := WX A G a o s R bb sn t n κ ++ []) rfl rfl rfl rfl ?_
        refine V.istore (q := 41) (lo' := [_, _, _, _, _, _, _, _, _, _]) F dL_areAll_39 rfl (Nat.le_of_ble_eq_true rfl) rfl rfl ?_
        refine V.iload_n (q := 42) F dL_areAll_41 rfl rfl rfl ?_
        refine V.aload_n (q := 43) F dL_areAll_42 rfl rfl rfl ?_
        refine V.iload (q := 45) F dL_areAll_43 rfl rfl ?_
        refine V.iconst (q := 46) F dL_areAll_45 rfl ?_
        refine V.idiv (q := 47) F dL_areAll_46 rfl ⟨by omega, by omega⟩ ?_
        refine V.iload (q := 49) F dL_areAll_47 rfl rfl ?_
        refine V.iconst (q := 50) F dL_areAll_49 rfl ?_
        refine V.irem (q := 51) F dL_areAll_50 rfl ⟨by omega, by omega⟩ ?_
        refine V.iconst (q := 52) F dL_areAll_51 rfl ?_
        refine V.callX (q := 55) F 27 rfl nd27 dL_areAll_52 rfl (c_X6_rose l G A a κ.1.1 R sn t κ.1.2.1 κ.1.2.2.1 κ.1.2.2.2.1 κ.1.2.2.2.2 κ.2.1.1 κ.2.1.2.1 κ.2.1.2.2 κ.2.2.1.1 κ.2.2.1.2.1 κ.2.2.1.2.2 κ.2.2.2.1.1 κ.2.2.2.1.2.1 κ.2.2.2.1.2.2 o s bb n κ.2.2.2.2.1 κ.2.2.2.2.2.1 κ.2.2.2.2.2.2.1 κ.2.2.2.2.2.2.2.1 κ.2.2.2.2.2.2.2.2.1 κ.2.2.2.2.2.2.2.2.2.1 κ.2.2.2.2.2.2.2.2.2.2.1 κ.2.2.2.2.2.2.2.2.2.2.2 (i / 4) (i % 4) 0 hP.1 hP.2.2.2.1 hP.2.2.2.2 hbb hn ht (by omega) (by omega) (by omega)) gL_areAll_X6_rose rfl rfl ydX6_rose ⟨Nat.le_of_ble_eq_true rfl, Nat.le_of_ble_eq_true rfl⟩ (ci := 6) rfl rfl rfl rfl (Nat.le_of_ble_eq_true rfl) ⟨Nat.le_of_ble_eq_true rfl, Nat.le_of_ble_eq_true rfl⟩ (fun r9 w9 h9 => ?_)
        rw [rRose_0 (a := a) (p := i / 4) (q := i % 4) (by omega) (by omega), show i / 4 * 4 + i % 4 = i by omega] at h9
        obtain ⟨κ, rfl, rfl⟩ := h9
        refine V.eq (pc' := 55) (st' := [_, _]) (ws' := WX A G a o s R bb sn t n κ ++ []) rfl rfl rfl rfl ?_
        refine V.iadd (q := 56) F dL_areAll_55 rfl ?_
        refine V.istore_n (q := 57) (lo' := [_, _, _, _, _, _, _, _, _, _]) F dL_areAll_56 rfl rfl (Nat.le_of_ble_eq_true rfl) rfl rfl ?_
        refine V.iload_n (q := 58) F dL_areAll_57 rfl rfl rfl ?_
        refine V.aload_n (q := 59) F dL_areAll_58 rfl rfl rfl ?_
        refine V.iload (q := 61) F dL_areAll_59 rfl rfl ?_
        refine V.iconst (q := 62) F dL_areAll_61 rfl ?_
        refine V.idiv (q := 63) F dL_areAll_62 rfl ⟨by omega, by omega⟩ ?_
        refine V.iload (q := 65) F dL_areAll_63 rfl rfl ?_
        refine V.iconst (q := 66) F dL_areAll_65 rfl ?_
        refine V.irem (q := 67) F dL_areAll_66 rfl ⟨by omega, by omega⟩ ?_
        refine V.iconst (q := 68) F dL_areAll_67 rfl ?_
        refine V.callX (q := 71) F 27 rfl nd27 dL_areAll_68 rfl (c_X6_rose l G A a κ.1.1 R sn t κ.1.2.1 κ.1.2.2.1 κ.1.2.2.2.1 κ.1.2.2.2.2 κ.2.1.1 κ.2.1.2.1 κ.2.1.2.2 κ.2.2.1.1 κ.2.2.1.2.1 κ.2.2.1.2.2 κ.2.2.2.1.1 κ.2.2.2.1.2.1 κ.2.2.2.1.2.2 o s bb n κ.2.2.2.2.1 κ.2.2.2.2.2.1 κ.2.2.2.2.2.2.1 κ.2.2.2.2.2.2.2.1 κ.2.2.2.2.2.2.2.2.1 κ.2.2.2.2.2.2.2.2.2.1 κ.2.2.2.2.2.2.2.2.2.2.1 κ.2.2.2.2.2.2.2.2.2.2.2 (i / 4) (i % 4) 2 hP.1 hP.2.2.2.1 hP.2.2.2.2 hbb hn ht (by omega) (by omega) (by omega)) gL_areAll_X6_rose rfl rfl ydX6_rose ⟨Nat.le_of_ble_eq_true rfl, Nat.le_of_ble_eq_true rfl⟩ (ci := 6) rfl rfl rfl rfl (Nat.le_of_ble_eq_true rfl) ⟨Nat.le_of_ble_eq_true rfl, Nat.le_of_ble_eq_true rfl⟩ (fun r9 w9 h9 => ?_)
        rw [rRose_2 (a := a) (p := i / 4) (q := i % 4) (by omega) (by omega), show i / 4 * 4 + i % 4 = i by omega] at h9
        obtain ⟨κ, rfl, rfl⟩ := h9
        refine V.eq (pc' := 71) (st' := [_, _]) (ws' := WX A G a o s R bb sn t n κ ++ []) rfl rfl rfl rfl ?_
        refine V.iadd (q := 72) F dL_areAll_71 rfl ?_
        refine V.istore_n (q := 73) (lo' := [_, _, _, _, _, _, _, _, _, _]) F dL_areAll_72 rfl rfl (Nat.le_of_ble_eq_true rfl) rfl rfl ?_
        refine V.iload_n (q := 74) F dL_areAll_73 rfl rfl rfl ?_
        have J84 : ∀ (x84 : Int) (κ : Scr) (hx84 : x84 = if 0 < disz a i then 1 else 0), V X (YL_areAll l G) 0 0 84 [some (.ref (A 0)), some (.int (zI (H + (a (25344 + i) + a (25360 + i))))), some (.int (zI (Cm + (a (25360 + i))))), some (.int (zI Wr)), some (.int (zI Sc)), some (.int (zI B)), some (.int (zI M)), some (.int (zI i)), some (.int (zI (disz a i))), none] [.int (zI x84), .int (zI Wr)] (WX A G a o s R bb sn t n κ ++ []) := by
          intro x84 κ hx84
          refine V.iadd (q := 85) F dL_areAll_84 rfl ?_
          refine V.istore_n (q := 86) (lo' := [_, _, _, _, _, _, _, _, _, _]) F dL_areAll_85 rfl rfl (Nat.le_of_ble_eq_true rfl) rfl rfl ?_
          refine V.iload (q := 88) F dL_areAll_86 rfl rfl ?_
          refine V.aload_n (q := 89) F dL_areAll_88 rfl rfl rfl ?_
          refine V.iload (q := 91) F dL_areAll_89 rfl rfl ?_
          refine V.iconst (q := 92) F dL_areAll_91 rfl ?_
          refine V.idiv (q := 93) F dL_areAll_92 rfl ⟨by omega, by omega⟩ ?_
          refine V.iload (q := 95) F dL_areAll_93 rfl rfl ?_
          refine V.iconst (q := 96) F dL_areAll_95 rfl ?_
          refine V.irem (q := 97) F dL_areAll_96 rfl ⟨by omega, by omega⟩ ?_
          refine V.iconst (q := 98) F dL_areAll_97 rfl ?_
          refine V.callX (q := 101) F 27 rfl nd27 dL_areAll_98 rfl (c_X6_plate l G A a κ.1.1 R sn t κ.1.2.1 κ.1.2.2.1 κ.1.2.2.2.1 κ.1.2.2.2.2 κ.2.1.1 κ.2.1.2.1 κ.2.1.2.2 κ.2.2.1.1 κ.2.2.1.2.1 κ.2.2.1.2.2 κ.2.2.2.1.1 κ.2.2.2.1.2.1 κ.2.2.2.1.2.2 o s bb n κ.2.2.2.2.1 κ.2.2.2.2.2.1 κ.2.2.2.2.2.2.1 κ.2.2.2.2.2.2.2.1 κ.2.2.2.2.2.2.2.2.1 κ.2.2.2.2.2.2.2.2.2.1 κ.2.2.2.2.2.2.2.2.2.2.1 κ.2.2.2.2.2.2.2.2.2.2.2 (i / 4) (i % 4) 1 hP.1 hP.2.2.2.1 hP.2.2.2.2 hbb hn ht (by omega) (by omega) (by omega)) gL_areAll_X6_plate rfl rfl ydX6_plate ⟨Nat.le_of_ble_eq_true rfl, Nat.le_of_ble_eq_true rfl⟩ (ci := 6) rfl rfl rfl rfl (Nat.le_of_ble_eq_true rfl) ⟨Nat.le_of_ble_eq_true rfl, Nat.le_of_ble_eq_true rfl⟩ (fun r9 w9 h9 => ?_)
          rw [rPlate_1 (a := a) (p := i / 4) (q := i % 4) (by omega) (by omega), show i / 4 * 4 + i % 4 = i by omega] at h9
          obtain ⟨κ, rfl, rfl⟩ := h9
          refine V.eq (pc' := 101) (st' := [_, _]) (ws' := WX A G a o s R bb sn t n κ ++ []) rfl rfl rfl rfl ?_
          refine V.iadd (q := 102) F dL_areAll_101 rfl ?_
          refine V.istore (q := 104) (lo' := [_, _, _, _, _, _, _, _, _, _]) F dL_areAll_102 rfl (Nat.le_of_ble_eq_true rfl) rfl rfl ?_
          have J131 : ∀ (x131 : Int) (κ : Scr) (hx131 : x131 = if obsz a i = 0 ∧ M < disz a i then 1 else 0), V X (YL_areAll l G) 0 0 131 [some (.ref (A 0)), some (.int (zI (H + (a (25344 + i) + a (25360 + i))))), some (.int (zI (Cm + (a (25360 + i))))), some (.int (zI (Wr + x84))), some (.int (zI (Sc + (a (26160 + i))))), some (.int (zI B)), some (.int (zI M)), some (.int (zI i)), some (.int (zI (disz a i))), none] [.int (zI x131)] (WX A G a o s R bb sn t n κ ++ []) := by
            intro x131 κ hx131
            refine V.istore (q := 133) (lo' := [_, _, _, _, _, _, _, _, _, _]) F dL_areAll_131 rfl (Nat.le_of_ble_eq_true rfl) rfl rfl ?_
            have J145 : ∀ (x145 : Int) (κ : Scr) (hx145 : x145 = if x131 = 0 then B else i), V X (YL_areAll l G) 0 0 145 [some (.ref (A 0)), some (.int (zI (H + (a (25344 + i) + a (25360 + i))))), some (.int (zI (Cm + (a (25360 + i))))), some (.int (zI (Wr + x84))), some (.int (zI (Sc + (a (26160 + i))))), some (.int (zI B)), some (.int (zI M)), some (.int (zI i)), some (.int (zI (disz a i))), some (.int (zI x131))] [.int (zI x145)] (WX A G a o s R bb sn t n κ ++ []) := by
              intro x145 κ hx145
              refine V.istore (q := 147) (lo' := [_, _, _, _, _, _, _, _, _, _]) F dL_areAll_145 rfl (Nat.le_of_ble_eq_true rfl) rfl rfl ?_
              have J159 : ∀ (x159 : Int) (κ : Scr) (hx159 : x159 = if x131 = 0 then M else disz a i), V X (YL_areAll l G) 0 0 159 [some (.ref (A 0)), some (.int (zI (H + (a (25344 + i) + a (25360 + i))))), some (.int (zI (Cm + (a (25360 + i))))), some (.int (zI (Wr + x84))), some (.int (zI (Sc + (a (26160 + i))))), some (.int (zI x145)), some (.int (zI M)), some (.int (zI i)), some (.int (zI (disz a i))), some (.int (zI x131))] [.int (zI x159)] (WX A G a o s R bb sn t n κ ++ []) := by
                intro x159 κ hx159
                refine V.istore (q := 161) (lo' := [_, _, _, _, _, _, _, _, _, _]) F dL_areAll_159 rfl (Nat.le_of_ble_eq_true rfl) rfl rfl ?_
                refine V.iinc (q := 164) (lo' := [_, _, _, _, _, _, _, _, _, _]) F dL_areAll_161 rfl rfl (Nat.le_of_ble_eq_true rfl) rfl rfl ?_
                refine V.goto (tgt := 19) F dL_areAll_164 (by decide) ?_
                have hMn : (x159, x145) = pvz (nxf a) (i + 1).toNat := by
                  rw [pvz_s _ hi.1, ← hM]
                  by_cases c : obsz a i = 0 ∧ M < disz a i
                  · have x1 : x131 = 1 := by rw [hx131, if_pos c]
                    have n1 : nxf a i = disz a i := by rw [hnx, if_pos c.1]
                    rw [if_pos (show M < nxf a i by rw [n1]; exact c.2), n1, hx159, hx145, if_neg (by omega), if_neg (by omega)]
                  · have x0 : x131 = 0 := by rw [hx131, if_neg c]
                    have n0 : ¬ M < nxf a i := by rw [hnx]; split <;> omega
                    rw [if_neg n0, hx159, hx145, if_pos x0, if_pos x0]
                refine V.mask [true, true, true, true, true, true, true, true, false, false] (lo' := [_, _, _, _, _, _, _, _, _, _]) rfl ?_
                exact ih19 (i + 1) _ _ _ _ _ _ _ (by omega) (by rw [sz_succ _ hi.1, ← hH]) (by rw [sz_succ _ hi.1, ← hC]) (by rw [sz_succ _ hi.1, ← hW, hx84]) (by rw [sz_succ _ hi.1, ← hS]) hMn (by omega) (by omega)
              refine V.iload (q := 149) F dL_areAll_147 rfl rfl ?_
              refine V.if_eq (q := 152) (tgt := 157) F dL_areAll_149 rfl (by decide) (by omega) (fun k149 => ?_) (fun k149 => ?_)
              · refine V.iload (q := 159) F dL_areAll_157 rfl rfl ?_
                exact J159 _ _ (by omega)
              · refine V.iload (q := 154) F dL_areAll_152 rfl rfl ?_
                refine V.goto (tgt := 159) F dL_areAll_154 (by decide) ?_
                exact J159 _ _ (by omega)
            refine V.iload (q := 135) F dL_areAll_133 rfl rfl ?_
            refine V.if_eq (q := 138) (tgt := 143) F dL_areAll_135 rfl (by decide) (by omega) (fun k135 => ?_) (fun k135 => ?_)
            · refine V.iload (q := 145) F dL_areAll_143 rfl rfl ?_
              exact J145 _ _ (by omega)
            · refine V.iload (q := 140) F dL_areAll_138 rfl rfl ?_
              refine V.goto (tgt := 145) F dL_areAll_140 (by decide) ?_
              exact J145 _ _ (by omega)
          refine V.aload_n (q := 105) F dL_areAll_104 rfl rfl rfl ?_
          refine V.iload (q := 107) F dL_areAll_105 rfl rfl ?_
          refine V.iconst (q := 108) F dL_areAll_107 rfl ?_
          refine V.idiv (q := 109) F dL_areAll_108 rfl ⟨by omega, by omega⟩ ?_
          refine V.iload (q := 111) F dL_areAll_109 rfl rfl ?_
          refine V.iconst (q := 112) F dL_areAll_111 rfl ?_
          refine V.irem (q := 113) F dL_areAll_112 rfl ⟨by omega, by omega⟩ ?_
          refine V.callX (q := 116) F 27 rfl nd27 dL_areAll_113 rfl (c_X6_reason l G A a κ.1.1 R sn t κ.1.2.1 κ.1.2.2.1 κ.1.2.2.2.1 κ.1.2.2.2.2 κ.2.1.1 κ.2.1.2.1 κ.2.1.2.2 κ.2.2.1.1 κ.2.2.1.2.1 κ.2.2.1.2.2 κ.2.2.2.1.1 κ.2.2.2.1.2.1 κ.2.2.2.1.2.2 o s bb n κ.2.2.2.2.1 κ.2.2.2.2.2.1 κ.2.2.2.2.2.2.1 κ.2.2.2.2.2.2.2.1 κ.2.2.2.2.2.2.2.2.1 κ.2.2.2.2.2.2.2.2.2.1 κ.2.2.2.2.2.2.2.2.2.2.1 κ.2.2.2.2.2.2.2.2.2.2.2 (i / 4) (i % 4) hP.1 hP.2.2.2.1 hP.2.2.2.2 hbb hn ht (by omega) (by omega)) gL_areAll_X6_reason rfl rfl ydX6_reason ⟨Nat.le_of_ble_eq_true rfl, Nat.le_of_ble_eq_true rfl⟩ (ci := 6) rfl rfl rfl rfl (Nat.le_of_ble_eq_true rfl) ⟨Nat.le_of_ble_eq_true rfl, Nat.le_of_ble_eq_true rfl⟩ (fun r9 w9 h9 => ?_)
          rw [rReas_o (a := a) (p := i / 4) (q := i % 4) (by omega) (by omega), show i / 4 * 4 + i % 4 = i by omega] at h9
          obtain ⟨κ, rfl, rfl⟩ := h9
          refine V.eq (pc' := 116) (st' := [_]) (ws' := WX A G a o s R bb sn t n κ ++ []) rfl rfl rfl rfl ?_
          refine V.if_ne (q := 119) (tgt := 130) F dL_areAll_116 rfl (by decide) (by omega) (fun k116 => ?_) (fun k116 => ?_)
          · refine V.iconst (q := 131) F dL_areAll_130 rfl ?_
            exact J131 _ _ (by omega)
          · refine V.iload (q := 121) F dL_areAll_119 rfl rfl ?_
            refine V.iload (q := 123) F dL_areAll_121 rfl rfl ?_
            refine V.icmp_le (q := 126) (tgt := 130) F dL_areAll_123 rfl (by decide) (by omega) (fun k123 => ?_) (fun k123 => ?_)
            · refine V.iconst (q := 131) F dL_areAll_130 rfl ?_
              exact J131 _ _ (by omega)
            · refine V.iconst (q := 127) F dL_areAll_126 rfl ?_
              refine V.goto (tgt := 131) F dL_areAll_127 (by decide) ?_
              exact J131 _ _ (by omega)
        refine V.iload (q := 76) F dL_areAll_74 rfl rfl ?_
        refine V.if_le (q := 79) (tgt := 83) F dL_areAll_76 rfl (by decide) (by omega) (fun k76 => ?_) (fun k76 => ?_)
        · refine V.iconst (q := 84) F dL_areAll_83 rfl ?_
          exact J84 _ _ (by omega)
        · refine V.iconst (q := 80) F dL_areAll_79 rfl ?_
          refine V.goto (tgt := 84) F dL_areAll_80 (by decide) ?_
          exact J84 _ _ (by omega)
  exact L19 _ 0 0 0 0 0 (-5) 0 _ (by omega) (sz_self _ _).symm (sz_self _ _).symm (sz_self _ _).symm (sz_self _ _).symm rfl (by omega) (Nat.lt_succ_self _)

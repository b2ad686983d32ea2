/-! the law: engraved, turned, unlike -/
abbrev YL_isEngraved (l : Launch) (G : Gx) : Sx := (cL_isEngraved, 11, RL, wsL_isEngraved, rmD 7, l, G)
theorem ydL_isEngraved : ydOk yL_isEngraved 3 := by decide +kernel
set_option maxHeartbeats 4000000 in
set_option maxRecDepth 20000 in
theorem c_L_isEngraved (l : Launch) (G : Gx) (A : Nat → Nat)  (a R sn t : Int → Int) (o s bb n N p q : Int) (κ : Scr) (hP : PI N a o s) (hbb : 0 ≤ bb ∧ bb ≤ 1) (hn : 0 ≤ n ∧ n ≤ 80) (ht : ∀ j, 0 ≤ t j ∧ t j < 65536) (hp : 0 ≤ p ∧ p ≤ 3) (hq4 : 0 ≤ q ∧ q ≤ 3) (hN : 0 ≤ N ∧ N ≤ 1000) : Ct l G yL_isEngraved wsL_isEngraved (rmD 7) [.ref (A 0), .int (zI p), .int (zI q)] (WX A G a o s R bb sn t n κ) (EnX A G (N + 1) bb sn t n) := by
  refine Ct.intro (cc := cL_isEngraved) (maxL := 11) (ret := (some .boolean)) (lo0 := [some (.ref (A 0)), some (.int (zI p)), some (.int (zI q)), none, none, none, none, none, none, none, none]) (by decide +kernel) rfl ⟨rfl, rfl⟩ (Nat.le_of_ble_eq_true rfl) rfl ?_
  intro X F T
  change Fx X (YL_isEngraved l G) at F
  change V X (YL_isEngraved l G) 0 0 0 _ _ _
  refine V.eq (pc' := 0) (ws' := WX A G a o s R bb sn t n κ ++ []) rfl rfl rfl (List.append_nil _).symm ?_
  have hr : 0 ≤ p * 4 + q ∧ p * 4 + q < 16 := by omega
  have hI := hP.1
  have hw := hI.w hr
  have hob := obsz_o a (p * 4 + q)
  have hal := allz_o a (p * 4 + q)
  have hor : 0 ≤ obsz a (p * 4 + q) ∧ obsz a (p * 4 + q) ≤ 3 := by omega
  have hsr := scrz_rng (a := a) (p * 4 + q)
  have hfr := difz_rng (a := a) (p * 4 + q)
  have h9s := hP.2.1 _ hr.1 hr.2
  have h9n := hI.1 (26160 + (p * 4 + q))
  have hct := hP.2.2.1
  have hc0 := hI.1 26179
  have eR : rEng a p q = if ¬ ((0 ≤ p ∧ p ≤ 3) ∧ (0 ≤ q ∧ q ≤ 3)) then -1 else if obsz a (p * 4 + q) = 1 ∨ obsz a (p * 4 + q) = 3 then -4 else if obsz a (p * 4 + q) = 2 then -5 else difz a (p * 4 + q) := rfl
  refine V.aload_n (q := 1) F dL_isEngraved_0 rfl rfl rfl ?_
  refine V.iload_n (q := 2) F dL_isEngraved_1 rfl rfl rfl ?_
  refine V.iload_n (q := 3) F dL_isEngraved_2 rfl rfl rfl ?_
  refine V.callX (q := 6) F 27 rfl nd27 dL_isEngraved_3 rfl (c_X6_reason l G A a κ.1.1 R sn t κ.1.2.1 κ.1.2.2.1 κ.1.2.2.2.1 κ.1.2.2.2.2 κ.2.1.1 κ.2.1.2.1 κ.2.1.2.2 κ.2.2.1.1 κ.2.2.1.2.1 κ.2.2.1.2.2 κ.2.2.2.1.1 κ.2.2.2.1.2.1 κ.2.2.2.1.2.2 o s bb n κ.2.2.2.2.1 κ.2.2.2.2.2.1 κ.2.2.2.2.2.2.1 κ.2.2.2.2.2.2.2.1 κ.2.2.2.2.2.2.2.2.1 κ.2.2.2.2.2.2.2.2.2.1 κ.2.2.2.2.2.2.2.2.2.2.1 κ.2.2.2.2.2.2.2.2.2.2.2 p q hP.1 hP.2.2.2.1 hP.2.2.2.2 hbb hn ht (by omega) (by omega)) gL_isEngraved_X6_reason rfl rfl ydX6_reason ⟨Nat.le_of_ble_eq_true rfl, Nat.le_of_ble_eq_true rfl⟩ (ci := 6) rfl rfl rfl rfl (Nat.le_of_ble_eq_true rfl) ⟨Nat.le_of_ble_eq_true rfl, Nat.le_of_ble_eq_true rfl⟩ (fun r9 w9 h9 => ?_)
  rw [rReas_o (a := a) (p := p) (q := q) (by omega) (by omega)] at h9
  obtain ⟨κ, rfl, rfl⟩ := h9
  refine V.eq (pc' := 6) (st' := [_]) (ws' := WX A G a o s R bb sn t n κ ++ []) rfl rfl rfl rfl ?_
  refine V.istore_n (q := 7) (lo' := [_, _, _, _, _, _, _, _, _, _, _]) F dL_isEngraved_6 rfl rfl (Nat.le_of_ble_eq_true rfl) rfl rfl ?_
  refine V.aload_n (q := 8) F dL_isEngraved_7 rfl rfl rfl ?_
  refine V.iload_n (q := 9) F dL_isEngraved_8 rfl rfl rfl ?_
  refine V.iload_n (q := 10) F dL_isEngraved_9 rfl rfl rfl ?_
  refine V.iconst (q := 11) F dL_isEngraved_10 rfl ?_
  refine V.callX (q := 14) F 27 rfl nd27 dL_isEngraved_11 rfl (c_X6_plate l G A a κ.1.1 R sn t κ.1.2.1 κ.1.2.2.1 κ.1.2.2.2.1 κ.1.2.2.2.2 κ.2.1.1 κ.2.1.2.1 κ.2.1.2.2 κ.2.2.1.1 κ.2.2.1.2.1 κ.2.2.1.2.2 κ.2.2.2.1.1 κ.2.2.2.1.2.1 κ.2.2.2.1.2.2 o s bb n κ.2.2.2.2.1 κ.2.2.2.2.2.1 κ.2.2.2.2.2.2.1 κ.2.2.2.2.2.2.2.1 κ.2.2.2.2.2.2.2.2.1 κ.2.2.2.2.2.2.2.2.2.1 κ.2.2.2.2.2.2.2.2.2.2.1 κ.2.2.2.2.2.2.2.2.2.2.2 p q 5 hP.1 hP.2.2.2.1 hP.2.2.2.2 hbb hn ht (by omega) (by omega) (by omega)) gL_isEngraved_X6_plate rfl rfl ydX6_plate ⟨Nat.le_of_ble_eq_true rfl, Nat.le_of_ble_eq_true rfl⟩ (ci := 6) rfl rfl rfl rfl (Nat.le_of_ble_eq_true rfl) ⟨Nat.le_of_ble_eq_true rfl, Nat.le_of_ble_eq_true rfl⟩ (fun r9 w9 h9 => ?_)
  rw [rPlate_5 (a := a) (p := p) (q := q) (by omega) (by omega)] at h9
  obtain ⟨κ, rfl, rfl⟩ := h9
  refine V.eq (pc' := 14) (st' := [_]) (ws' := WX A G a o s R bb sn t n κ ++ []) rfl rfl rfl rfl ?_
  refine V.istore (q := 16) (lo' := [_, _, _, _, _, _, _, _, _, _, _]) F dL_isEngraved_14 rfl (Nat.le_of_ble_eq_true rfl) rfl rfl ?_
  refine V.aload_n (q := 17) F dL_isEngraved_16 rfl rfl rfl ?_
  refine V.iload_n (q := 18) F dL_isEngraved_17 rfl rfl rfl ?_
  refine V.iload_n (q := 19) F dL_isEngraved_18 rfl rfl rfl ?_
  refine V.iconst (q := 20) F dL_isEngraved_19 rfl ?_
  refine V.callX (q := 23) F 27 rfl nd27 dL_isEngraved_20 rfl (c_X6_plate l G A a κ.1.1 R sn t κ.1.2.1 κ.1.2.2.1 κ.1.2.2.2.1 κ.1.2.2.2.2 κ.2.1.1 κ.2.1.2.1 κ.2.1.2.2 κ.2.2.1.1 κ.2.2.1.2.1 κ.2.2.1.2.2 κ.2.2.2.1.1 κ.2.2.2.1.2.1 κ.2.2.2.1.2.2 o s bb n κ.2.2.2.2.1 κ.2.2.2.2.2.1 κ.2.2.2.2.2.2.1 κ.2.2.2.2.2.2.2.1 κ.2.2.2.2.2.2.2.2.1 κ.2.2.2.2.2.2.2.2.2.1 κ.2.2.2.2.2.2.2.2.2.2.1 κ.2.2.2.2.2.2.2.2.2.2.2 p q 1 hP.1 hP.2.2.2.1 hP.2.2.2.2 hbb hn ht (by omega) (by omega) (by omega)) gL_isEngraved_X6_plate rfl rfl ydX6_plate ⟨Nat.le_of_ble_eq_true rfl, Nat.le_of_ble_eq_true rfl⟩ (ci := 6) rfl rfl rfl rfl (Nat.le_of_ble_eq_true rfl) ⟨Nat.le_of_ble_eq_true rfl, Nat.le_of_ble_eq_true rfl⟩ (fun r9 w9 h9 => ?_)
  rw [rPlate_1 (a := a) (p := p) (q := q) (by omega) (by omega)] at h9
  obtain ⟨κ, rfl, rfl⟩ := h9
  refine V.eq (pc' := 23) (st' := [_]) (ws' := WX A G a o s R bb sn t n κ ++ []) rfl rfl rfl rfl ?_
  refine V.istore (q := 25) (lo' := [_, _, _, _, _, _, _, _, _, _, _]) F dL_isEngraved_23 rfl (Nat.le_of_ble_eq_true rfl) rfl rfl ?_
  refine V.aload_n (q := 26) F dL_isEngraved_25 rfl rfl rfl ?_
  refine V.iconst (q := 27) F dL_isEngraved_26 rfl ?_
  refine V.callX (q := 30) F 27 rfl nd27 dL_isEngraved_27 rfl (c_X6_count l G A a κ.1.1 R sn t κ.1.2.1 κ.1.2.2.1 κ.1.2.2.2.1 κ.1.2.2.2.2 κ.2.1.1 κ.2.1.2.1 κ.2.1.2.2 κ.2.2.1.1 κ.2.2.1.2.1 κ.2.2.1.2.2 κ.2.2.2.1.1 κ.2.2.2.1.2.1 κ.2.2.2.1.2.2 o s bb n κ.2.2.2.2.1 κ.2.2.2.2.2.1 κ.2.2.2.2.2.2.1 κ.2.2.2.2.2.2.2.1 κ.2.2.2.2.2.2.2.2.1 κ.2.2.2.2.2.2.2.2.2.1 κ.2.2.2.2.2.2.2.2.2.2.1 κ.2.2.2.2.2.2.2.2.2.2.2 4 hP.1 hP.2.2.2.1 hP.2.2.2.2 hbb hn ht (by omega)) gL_isEngraved_X6_count rfl rfl ydX6_count ⟨Nat.le_of_ble_eq_true rfl, Nat.le_of_ble_eq_true rfl⟩ (ci := 6) rfl rfl rfl rfl (Nat.le_of_ble_eq_true rfl) ⟨Nat.le_of_ble_eq_true rfl, Nat.le_of_ble_eq_true rfl⟩ (fun r9 w9 h9 => ?_)
  rw [rCount_4] at h9
  obtain ⟨κ, rfl, rfl⟩ := h9
  refine V.eq (pc' := 30) (st' := [_]) (ws' := WX A G a o s R bb sn t n κ ++ []) rfl rfl rfl rfl ?_
  refine V.istore (q := 32) (lo' := [_, _, _, _, _, _, _, _, _, _, _]) F dL_isEngraved_30 rfl (Nat.le_of_ble_eq_true rfl) rfl rfl ?_
  refine V.iconst (q := 33) F dL_isEngraved_32 rfl ?_
  refine V.istore (q := 35) (lo' := [_, _, _, _, _, _, _, _, _, _, _]) F dL_isEngraved_33 rfl (Nat.le_of_ble_eq_true rfl) rfl rfl ?_
  refine V.iconst (q := 36) F dL_isEngraved_35 rfl ?_
  refine V.istore (q := 38) (lo' := [_, _, _, _, _, _, _, _, _, _, _]) F dL_isEngraved_36 rfl (Nat.le_of_ble_eq_true rfl) rfl rfl ?_
  have L38 : ∀ (nq : Nat) (i df : Int) (κ : Scr) (hi : 0 ≤ i ∧ i ≤ 49) (hdf : df = difS a (p * 4 + q) i), (49 - i).toNat < nq → V X (YL_isEngraved l G) 0 0 38 [some (.ref (A 0)), some (.int (zI p)), some (.int (zI q)), some (.int (zI (obsz a (p * 4 + q)))), some (.int (zI (scrz a (p * 4 + q)))), some (.int (zI (a (26160 + (p * 4 + q))))), some (.int (zI (a 26179))), some (.int (zI df)), some (.int (zI i)), none, none] [] (WX A G a o s R bb sn t n κ ++ []) := by
    intro n38
    induction n38 with
    | zero => intro i df κ hi hdf hm38; exact absurd hm38 (Nat.not_lt_zero _)
    | succ n38 ih38 =>
      intro i df κ hi hdf hm38
      refine V.iload (q := 40) F dL_isEngraved_38 rfl rfl ?_
      refine V.bipush (q := 42) F dL_isEngraved_40 rfl (by decide) ?_
      refine V.icmp_gt (q := 45) (tgt := 134) F dL_isEngraved_42 rfl (by decide) (by omega) (fun k42 => ?_) (fun k42 => ?_)
      · have hdf2 : df = difz a (p * 4 + q) := by rw [hdf, show i = 49 by omega, difS_49]
        refine V.aload_n (q := 135) F dL_isEngraved_134 rfl rfl rfl ?_
        refine V.iload_n (q := 136) F dL_isEngraved_135 rfl rfl rfl ?_
        refine V.iload_n (q := 137) F dL_isEngraved_136 rfl rfl rfl ?_
        refine V.callX (q := 140) F 27 rfl nd27 dL_isEngraved_137 rfl (c_X6_engrave l G A a κ.1.1 R sn t κ.1.2.1 κ.1.2.2.1 κ.1.2.2.2.1 κ.1.2.2.2.2 κ.2.1.1 κ.2.1.2.1 κ.2.1.2.2 κ.2.2.1.1 κ.2.2.1.2.1 κ.2.2.1.2.2 κ.2.2.2.1.1 κ.2.2.2.1.2.1 κ.2.2.2.1.2.2 o s bb n κ.2.2.2.2.1 κ.2.2.2.2.2.1 κ.2.2.2.2.2.2.1 κ.2.2.2.2.2.2.2.1 κ.2.2.2.2.2.2.2.2.1 κ.2.2.2.2.2.2.2.2.2.1 κ.2.2.2.2.2.2.2.2.2.2.1 κ.2.2.2.2.2.2.2.2.2.2.2 p q hP.1 hP.2.2.2.1 hP.2.2.2.2 hbb hn ht (by omega) (by omega)) gL_isEngraved_X6_engrave rfl rfl ydX6_engrave ⟨Nat.le_of_ble_eq_true rfl, Nat.le_of_ble_eq_true rfl⟩ (ci := 6) rfl rfl rfl rfl (Nat.le_of_ble_eq_true rfl) ⟨Nat.le_of_ble_eq_true rfl, Nat.le_of_ble_eq_true rfl⟩ (fun r9 w9 h9 => ?_)
        obtain ⟨κ, rfl, hneg, hpos⟩ := h9
        rcases Int.lt_or_le (rEng a p q) 0 with hs | hs
        · have e9 := hneg hs
          subst e9
          refine V.eq (pc' := 140) (st' := [_]) (ws' := WX A G a o s R bb sn t n κ ++ []) rfl rfl rfl rfl ?_
          have ho1 : obsz a (p * 4 + q) ≠ 0 := by omega
          refine V.istore (q := 142) (lo' := [_, _, _, _, _, _, _, _, _, _, _]) F dL_isEngraved_140 rfl (Nat.le_of_ble_eq_true rfl) rfl rfl ?_
          refine V.iload_n (q := 143) F dL_isEngraved_142 rfl rfl rfl ?_
          refine V.if_le (q := 146) (tgt := 191) F dL_isEngraved_143 rfl (by decide) (by omega) (fun k143 => by exfalso; omega) (fun k143 => ?_)
          refine V.iload (q := 148) F dL_isEngraved_146 rfl rfl ?_
          have J160 : ∀ (x160 : Int) (κ : Scr) (hx160 : x160 = if obsz a (p * 4 + q) = 2 then -5 else -4), V X (YL_isEngraved l G) 0 0 160 [some (.ref (A 0)), some (.int (zI p)), some (.int (zI q)), some (.int (zI (obsz a (p * 4 + q)))), some (.int (zI (scrz a (p * 4 + q)))), some (.int (zI (a (26160 + (p * 4 + q))))), some (.int (zI (a 26179))), some (.int (zI df)), some (.int (zI (rEng a p q))), none, none] [.int (zI x160), .int (zI (rEng a p q))] (WX A G a o s R bb sn t n κ ++ []) := by
            intro x160 κ hx160
            refine V.icmp_ne (q := 163) (tgt := 189) F dL_isEngraved_160 rfl (by decide) (by omega) (fun k160 => by exfalso; omega) (fun k160 => ?_)
            refine V.aload_n (q := 164) F dL_isEngraved_163 rfl rfl rfl ?_
            refine V.iconst (q := 165) F dL_isEngraved_164 rfl ?_
            refine V.callX (q := 168) F 27 rfl nd27 dL_isEngraved_165 rfl (c_X6_count l G A a κ.1.1 R sn t κ.1.2.1 κ.1.2.2.1 κ.1.2.2.2.1 κ.1.2.2.2.2 κ.2.1.1 κ.2.1.2.1 κ.2.1.2.2 κ.2.2.1.1 κ.2.2.1.2.1 κ.2.2.1.2.2 κ.2.2.2.1.1 κ.2.2.2.1.2.1 κ.2.2.2.1.2.2 o s bb n κ.2.2.2.2.1 κ.2.2.2.2.2.1 κ.2.2.2.2.2.2.1 κ.2.2.2.2.2.2.2.1 κ.2.2.2.2.2.2.2.2.1 κ.2.2.2.2.2.2.2.2.2.1 κ.2.2.2.2.2.2.2.2.2.2.1 κ.2.2.2.2.2.2.2.2.2.2.2 4 hP.1 hP.2.2.2.1 hP.2.2.2.2 hbb hn ht (by omega)) gL_isEngraved_X6_count rfl rfl ydX6_count ⟨Nat.le_of_ble_eq_true rfl, Nat.le_of_ble_eq_true rfl⟩ (ci := 6) rfl rfl rfl rfl (Nat.le_of_ble_eq_true rfl) ⟨Nat.le_of_ble_eq_true rfl, Nat.le_of_ble_eq_true rfl⟩ (fun r9 w9 h9 => ?_)
            rw [rCount_4] at h9
            obtain ⟨κ, rfl, rfl⟩ := h9
            refine V.eq (pc' := 168) (st' := [_]) (ws' := WX A G a o s R bb sn t n κ ++ []) rfl rfl rfl rfl ?_
            refine V.iload (q := 170) F dL_isEngraved_168 rfl rfl ?_
            refine V.icmp_ne (q := 173) (tgt := 189) F dL_isEngraved_170 rfl (by decide) (by omega) (fun k170 => by exfalso; omega) (fun k170 => ?_)
            refine V.aload_n (q := 174) F dL_isEngraved_173 rfl rfl rfl ?_
            refine V.iload_n (q := 175) F dL_isEngraved_174 rfl rfl rfl ?_
            refine V.iload_n (q := 176) F dL_isEngraved_175 rfl rfl rfl ?_
            refine V.iconst (q := 177) F dL_isEngraved_176 rfl ?_
            refine V.callX (q := 180) F 27 rfl nd27 dL_isEngraved_177 rfl (c_X6_plate l G A a κ.1.1 R sn t κ.1.2.1 κ.1.2.2.1 κ.1.2.2.2.1 κ.1.2.2.2.2 κ.2.1.1 κ.2.1.2.1 κ.2.1.2.2 κ.2.2.1.1 κ.2.2.1.2.1 κ.2.2.1.2.2 κ.2.2.2.1.1 κ.2.2.2.1.2.1 κ.2.2.2.1.2.2 o s bb n κ.2.2.2.2.1 κ.2.2.2.2.2.1 κ.2.2.2.2.2.2.1 κ.2.2.2.2.2.2.2.1 κ.2.2.2.2.2.2.2.2.1 κ.2.2.2.2.2.2.2.2.2.1 κ.2.2.2.2.2.2.2.2.2.2.1 κ.2.2.2.2.2.2.2.2.2.2.2 p q 1 hP.1 hP.2.2.2.1 hP.2.2.2.2 hbb hn ht (by omega) (by omega) (by omega)) gL_isEngraved_X6_plate rfl rfl ydX6_plate ⟨Nat.le_of_ble_eq_true rfl, Nat.le_of_ble_eq_true rfl⟩ (ci := 6) rfl rfl rfl rfl (Nat.le_of_ble_eq_true rfl) ⟨Nat.le_of_ble_eq_true rfl, Nat.le_of_ble_eq_true rfl⟩ (fun r9 w9 h9 => ?_)
            rw [rPlate_1 (a := a) (p := p) (q := q) (by omega) (by omega)] at h9
            obtain ⟨κ, rfl, rfl⟩ := h9
            refine V.eq (pc' := 180) (st' := [_]) (ws' := WX A G a o s R bb sn t n κ ++ []) rfl rfl rfl rfl ?_
            refine V.iload (q := 182) F dL_isEngraved_180 rfl rfl ?_
            refine V.icmp_ne (q := 185) (tgt := 189) F dL_isEngraved_182 rfl (by decide) (by omega) (fun k182 => by exfalso; omega) (fun k182 => ?_)
            refine V.iconst (q := 186) F dL_isEngraved_185 rfl ?_
            refine V.goto (tgt := 190) F dL_isEngraved_186 (by decide) ?_
            exact V.zret F T (Or.inr rfl) dL_isEngraved_190 ⟨κ, _, _, _, _, rfl, (hP.up (by omega)), List.append_nil _⟩ [(A 0), (A 1), (A 2), (A 3), (A 4), (A 5), (A 6), (A 7), (A 8), (A 9), (A 10), (A 11), (A 12), (A 13), (A 14), (A 15), (A 16), (A 17), (A 18), (A 19), (A 20), (A 21), (A 22), (A 23), (A 24), (A 25), (A 26)] rfl rfl
          refine V.iload_n (q := 149) F dL_isEngraved_148 rfl rfl rfl ?_
          refine V.iconst (q := 150) F dL_isEngraved_149 rfl ?_
          refine V.icmp_ne (q := 153) (tgt := 158) F dL_isEngraved_150 rfl (by decide) (by omega) (fun k150 => ?_) (fun k150 => ?_)
          · refine V.bipush (q := 160) F dL_isEngraved_158 rfl (by decide) ?_
            exact J160 _ _ (by omega)
          · refine V.bipush (q := 155) F dL_isEngraved_153 rfl (by decide) ?_
            refine V.goto (tgt := 160) F dL_isEngraved_155 (by decide) ?_
            exact J160 _ _ (by omega)
        · have e9 := hpos hs
          subst e9
          refine V.eq (pc' := 140) (st' := [_]) (ws' := WX A G (cutA a (p * 4 + q) (shr a (p * 4 + q)) (scrz a (p * 4 + q))) (oN o s) (sN s) (RN a o s R) bb sn t n κ ++ []) rfl rfl rfl rfl ?_
          have hP2 := hP.cut hs
          have ho0 : obsz a (p * 4 + q) = 0 := by omega
          have hel := eng_law hI (n := scrz a (p * 4 + q)) hr (by omega)
          refine V.istore (q := 142) (lo' := [_, _, _, _, _, _, _, _, _, _, _]) F dL_isEngraved_140 rfl (Nat.le_of_ble_eq_true rfl) rfl rfl ?_
          refine V.iload_n (q := 143) F dL_isEngraved_142 rfl rfl rfl ?_
          refine V.if_le (q := 146) (tgt := 191) F dL_isEngraved_143 rfl (by decide) (by omega) (fun k143 => ?_) (fun k143 => by exfalso; omega)
          refine V.iload (q := 193) F dL_isEngraved_191 rfl rfl ?_
          refine V.iload (q := 195) F dL_isEngraved_193 rfl rfl ?_
          refine V.icmp_ne (q := 198) (tgt := 249) F dL_isEngraved_195 rfl (by decide) (by omega) (fun k195 => by exfalso; omega) (fun k195 => ?_)
          refine V.aload_n (q := 199) F dL_isEngraved_198 rfl rfl rfl ?_
          refine V.iload_n (q := 200) F dL_isEngraved_199 rfl rfl rfl ?_
          refine V.iload_n (q := 201) F dL_isEngraved_200 rfl rfl rfl ?_
          refine V.iconst (q := 202) F dL_isEngraved_201 rfl ?_
          refine V.callX (q := 205) F 27 rfl nd27 dL_isEngraved_202 rfl (c_X6_plate l G A (cutA a (p * 4 + q) (shr a (p * 4 + q)) (scrz a (p * 4 + q))) κ.1.1 (RN a o s R) sn t κ.1.2.1 κ.1.2.2.1 κ.1.2.2.2.1 κ.1.2.2.2.2 κ.2.1.1 κ.2.1.2.1 κ.2.1.2.2 κ.2.2.1.1 κ.2.2.1.2.1 κ.2.2.1.2.2 κ.2.2.2.1.1 κ.2.2.2.1.2.1 κ.2.2.2.1.2.2 (oN o s) (sN s) bb n κ.2.2.2.2.1 κ.2.2.2.2.2.1 κ.2.2.2.2.2.2.1 κ.2.2.2.2.2.2.2.1 κ.2.2.2.2.2.2.2.2.1 κ.2.2.2.2.2.2.2.2.2.1 κ.2.2.2.2.2.2.2.2.2.2.1 κ.2.2.2.2.2.2.2.2.2.2.2 p q 4 hP2.1 hP2.2.2.2.1 hP2.2.2.2.2 hbb hn ht (by omega) (by omega) (by omega)) gL_isEngraved_X6_plate rfl rfl ydX6_plate ⟨Nat.le_of_ble_eq_true rfl, Nat.le_of_ble_eq_true rfl⟩ (ci := 6) rfl rfl rfl rfl (Nat.le_of_ble_eq_true rfl) ⟨Nat.le_of_ble_eq_true rfl, Nat.le_of_ble_eq_true rfl⟩ (fun r9 w9 h9 => ?_)
          rw [rPlate_4 (a := (cutA a (p * 4 + q) (shr a (p * 4 + q)) (scrz a (p * 4 + q)))) (p := p) (q := q) (by omega) (by omega)] at h9
          obtain ⟨κ, rfl, rfl⟩ := h9
          refine V.eq (pc' := 205) (st' := [_]) (ws' := WX A G (cutA a (p * 4 + q) (shr a (p * 4 + q)) (scrz a (p * 4 + q))) (oN o s) (sN s) (RN a o s R) bb sn t n κ ++ []) rfl rfl rfl rfl ?_
          refine V.if_ne (q := 208) (tgt := 249) F dL_isEngraved_205 rfl (by decide) (by omega) (fun k205 => by exfalso; omega) (fun k205 => ?_)
          refine V.aload_n (q := 209) F dL_isEngraved_208 rfl rfl rfl ?_
          refine V.iload_n (q := 210) F dL_isEngraved_209 rfl rfl rfl ?_
          refine V.iload_n (q := 211) F dL_isEngraved_210 rfl rfl rfl ?_
          refine V.iconst (q := 212) F dL_isEngraved_211 rfl ?_
          refine V.callX (q := 215) F 27 rfl nd27 dL_isEngraved_212 rfl (c_X6_plate l G A (cutA a (p * 4 + q) (shr a (p * 4 + q)) (scrz a (p * 4 + q))) κ.1.1 (RN a o s R) sn t κ.1.2.1 κ.1.2.2.1 κ.1.2.2.2.1 κ.1.2.2.2.2 κ.2.1.1 κ.2.1.2.1 κ.2.1.2.2 κ.2.2.1.1 κ.2.2.1.2.1 κ.2.2.1.2.2 κ.2.2.2.1.1 κ.2.2.2.1.2.1 κ.2.2.2.1.2.2 (oN o s) (sN s) bb n κ.2.2.2.2.1 κ.2.2.2.2.2.1 κ.2.2.2.2.2.2.1 κ.2.2.2.2.2.2.2.1 κ.2.2.2.2.2.2.2.2.1 κ.2.2.2.2.2.2.2.2.2.1 κ.2.2.2.2.2.2.2.2.2.2.1 κ.2.2.2.2.2.2.2.2.2.2.2 p q 1 hP2.1 hP2.2.2.2.1 hP2.2.2.2.2 hbb hn ht (by omega) (by omega) (by omega)) gL_isEngraved_X6_plate rfl rfl ydX6_plate ⟨Nat.le_of_ble_eq_true rfl, Nat.le_of_ble_eq_true rfl⟩ (ci := 6) rfl rfl rfl rfl (Nat.le_of_ble_eq_true rfl) ⟨Nat.le_of_ble_eq_true rfl, Nat.le_of_ble_eq_true rfl⟩ (fun r9 w9 h9 => ?_)
          rw [rPlate_1 (a := (cutA a (p * 4 + q) (shr a (p * 4 + q)) (scrz a (p * 4 + q)))) (p := p) (q := q) (by omega) (by omega)] at h9
          obtain ⟨κ, rfl, rfl⟩ := h9
          refine V.eq (pc' := 215) (st' := [_]) (ws' := WX A G (cutA a (p * 4 + q) (shr a (p * 4 + q)) (scrz a (p * 4 + q))) (oN o s) (sN s) (RN a o s R) bb sn t n κ ++ []) rfl rfl rfl rfl ?_
          refine V.iload (q := 217) F dL_isEngraved_215 rfl rfl ?_
          refine V.iload (q := 219) F dL_isEngraved_217 rfl rfl ?_
          refine V.iadd (q := 220) F dL_isEngraved_219 rfl ?_
          refine V.icmp_ne (q := 223) (tgt := 249) F dL_isEngraved_220 rfl (by decide) (by omega) (fun k220 => by exfalso; omega) (fun k220 => ?_)
          refine V.aload_n (q := 224) F dL_isEngraved_223 rfl rfl rfl ?_
          refine V.iconst (q := 225) F dL_isEngraved_224 rfl ?_
          refine V.callX (q := 228) F 27 rfl nd27 dL_isEngraved_225 rfl (c_X6_count l G A (cutA a (p * 4 + q) (shr a (p * 4 + q)) (scrz a (p * 4 + q))) κ.1.1 (RN a o s R) sn t κ.1.2.1 κ.1.2.2.1 κ.1.2.2.2.1 κ.1.2.2.2.2 κ.2.1.1 κ.2.1.2.1 κ.2.1.2.2 κ.2.2.1.1 κ.2.2.1.2.1 κ.2.2.1.2.2 κ.2.2.2.1.1 κ.2.2.2.1.2.1 κ.2.2.2.1.2.2 (oN o s) (sN s) bb n κ.2.2.2.2.1 κ.2.2.2.2.2.1 κ.2.2.2.2.2.2.1 κ.2.2.2.2.2.2.2.1 κ.2.2.2.2.2.2.2.2.1 κ.2.2.2.2.2.2.2.2.2.1 κ.2.2.2.2.2.2.2.2.2.2.1 κ.2.2.2.2.2.2.2.2.2.2.2 4 hP2.1 hP2.2.2.2.1 hP2.2.2.2.2 hbb hn ht (by omega)) gL_isEngraved_X6_count rfl rfl ydX6_count ⟨Nat.le_of_ble_eq_true rfl, Nat.le_of_ble_eq_true rfl⟩ (ci := 6) rfl rfl rfl rfl (Nat.le_of_ble_eq_true rfl) ⟨Nat.le_of_ble_eq_true rfl, Nat.le_of_ble_eq_true rfl⟩ (fun r9 w9 h9 => ?_)
          rw [rCount_4] at h9
          obtain ⟨κ, rfl, rfl⟩ := h9
          refine V.eq (pc' := 228) (st' := [_]) (ws' := WX A G (cutA a (p * 4 + q) (shr a (p * 4 + q)) (scrz a (p * 4 + q))) (oN o s) (sN s) (RN a o s R) bb sn t n κ ++ []) rfl rfl rfl rfl ?_
          refine V.iload (q := 230) F dL_isEngraved_228 rfl rfl ?_
          refine V.iconst (q := 231) F dL_isEngraved_230 rfl ?_
          refine V.iadd (q := 232) F dL_isEngraved_231 rfl ?_
          refine V.icmp_ne (q := 235) (tgt := 249) F dL_isEngraved_232 rfl (by decide) (by omega) (fun k232 => by exfalso; omega) (fun k232 => ?_)
          refine V.aload_n (q := 236) F dL_isEngraved_235 rfl rfl rfl ?_
          refine V.iload_n (q := 237) F dL_isEngraved_236 rfl rfl rfl ?_
          refine V.iload_n (q := 238) F dL_isEngraved_237 rfl rfl rfl ?_
          refine V.callX (q := 241) F 27 rfl nd27 dL_isEngraved_238 rfl (c_X6_reason l G A (cutA a (p * 4 + q) (shr a (p * 4 + q)) (scrz a (p * 4 + q))) κ.1.1 (RN a o s R) sn t κ.1.2.1 κ.1.2.2.1 κ.1.2.2.2.1 κ.1.2.2.2.2 κ.2.1.1 κ.2.1.2.1 κ.2.1.2.2 κ.2.2.1.1 κ.2.2.1.2.1 κ.2.2.1.2.2 κ.2.2.2.1.1 κ.2.2.2.1.2.1 κ.2.2.2.1.2.2 (oN o s) (sN s) bb n κ.2.2.2.2.1 κ.2.2.2.2.2.1 κ.2.2.2.2.2.2.1 κ.2.2.2.2.2.2.2.1 κ.2.2.2.2.2.2.2.2.1 κ.2.2.2.2.2.2.2.2.2.1 κ.2.2.2.2.2.2.2.2.2.2.1 κ.2.2.2.2.2.2.2.2.2.2.2 p q hP2.1 hP2.2.2.2.1 hP2.2.2.2.2 hbb hn ht (by omega) (by omega)) gL_isEngraved_X6_reason rfl rfl ydX6_reason ⟨Nat.le_of_ble_eq_true rfl, Nat.le_of_ble_eq_true rfl⟩ (ci := 6) rfl rfl rfl rfl (Nat.le_of_ble_eq_true rfl) ⟨Nat.le_of_ble_eq_true rfl, Nat.le_of_ble_eq_true rfl⟩ (fun r9 w9 h9 => ?_)
          rw [rReas_o (a := (cutA a (p * 4 + q) (shr a (p * 4 + q)) (scrz a (p * 4 + q)))) (p := p) (q := q) (by omega) (by omega)] at h9
          obtain ⟨κ, rfl, rfl⟩ := h9
          refine V.eq (pc' := 241) (st' := [_]) (ws' := WX A G (cutA a (p * 4 + q) (shr a (p * 4 + q)) (scrz a (p * 4 + q))) (oN o s) (sN s) (RN a o s R) bb sn t n κ ++ []) rfl rfl rfl rfl ?_
          refine V.iconst (q := 242) F dL_isEngraved_241 rfl ?_
          refine V.icmp_ne (q := 245) (tgt := 249) F dL_isEngraved_242 rfl (by decide) (by omega) (fun k242 => by exfalso; omega) (fun k242 => ?_)
          refine V.iconst (q := 246) F dL_isEngraved_245 rfl ?_
          refine V.goto (tgt := 250) F dL_isEngraved_246 (by decide) ?_
          exact V.zret F T (Or.inr rfl) dL_isEngraved_250 ⟨κ, _, _, _, _, rfl, hP2, List.append_nil _⟩ [(A 0), (A 1), (A 2), (A 3), (A 4), (A 5), (A 6), (A 7), (A 8), (A 9), (A 10), (A 11), (A 12), (A 13), (A 14), (A 15), (A 16), (A 17), (A 18), (A 19), (A 20), (A 21), (A 22), (A 23), (A 24), (A 25), (A 26)] rfl rfl
      · have hiz := itz_rng hI hr (k := i) (by omega)
        have hdz := duz_rng hI hr (k := i) (by omega)
        have J76 : ∀ (x76 : Int) (κ : Scr) (hx76 : x76 = itz a (p * 4 + q) i), V X (YL_isEngraved l G) 0 0 76 [some (.ref (A 0)), some (.int (zI p)), some (.int (zI q)), some (.int (zI (obsz a (p * 4 + q)))), some (.int (zI (scrz a (p * 4 + q)))), some (.int (zI (a (26160 + (p * 4 + q))))), some (.int (zI (a 26179))), some (.int (zI df)), some (.int (zI i)), none, none] [.int (zI x76)] (WX A G a o s R bb sn t n κ ++ []) := by
          intro x76 κ hx76
          refine V.istore (q := 78) (lo' := [_, _, _, _, _, _, _, _, _, _, _]) F dL_isEngraved_76 rfl (Nat.le_of_ble_eq_true rfl) rfl rfl ?_
          have J109 : ∀ (x109 : Int) (κ : Scr) (hx109 : x109 = duz a (p * 4 + q) i), V X (YL_isEngraved l G) 0 0 109 [some (.ref (A 0)), some (.int (zI p)), some (.int (zI q)), some (.int (zI (obsz a (p * 4 + q)))), some (.int (zI (scrz a (p * 4 + q)))), some (.int (zI (a (26160 + (p * 4 + q))))), some (.int (zI (a 26179))), some (.int (zI df)), some (.int (zI i)), some (.int (zI x76)), none] [.int (zI x109)] (WX A G a o s R bb sn t n κ ++ []) := by
            intro x109 κ hx109
            refine V.istore (q := 111) (lo' := [_, _, _, _, _, _, _, _, _, _, _]) F dL_isEngraved_109 rfl (Nat.le_of_ble_eq_true rfl) rfl rfl ?_
            refine V.iload (q := 113) F dL_isEngraved_111 rfl rfl ?_
            have J125 : ∀ (x125 : Int) (κ : Scr) (hx125 : x125 = if x76 = x109 then 0 else 1), V X (YL_isEngraved l G) 0 0 125 [some (.ref (A 0)), some (.int (zI p)), some (.int (zI q)), some (.int (zI (obsz a (p * 4 + q)))), some (.int (zI (scrz a (p * 4 + q)))), some (.int (zI (a (26160 + (p * 4 + q))))), some (.int (zI (a 26179))), some (.int (zI df)), some (.int (zI i)), some (.int (zI x76)), some (.int (zI x109))] [.int (zI x125), .int (zI df)] (WX A G a o s R bb sn t n κ ++ []) := by
              intro x125 κ hx125
              refine V.iadd (q := 126) F dL_isEngraved_125 rfl ?_
              refine V.istore (q := 128) (lo' := [_, _, _, _, _, _, _, _, _, _, _]) F dL_isEngraved_126 rfl (Nat.le_of_ble_eq_true rfl) rfl rfl ?_
              refine V.iinc (q := 131) (lo' := [_, _, _, _, _, _, _, _, _, _, _]) F dL_isEngraved_128 rfl rfl (Nat.le_of_ble_eq_true rfl) rfl rfl ?_
              refine V.goto (tgt := 38) F dL_isEngraved_131 (by decide) ?_
              refine V.mask [true, true, true, true, true, true, true, true, true, false, false] (lo' := [_, _, _, _, _, _, _, _, _, _, _]) rfl ?_
              exact ih38 (i + 1) _ _ (by omega) (by rw [difS_s _ _ hi.1, ← hdf, hx125, hx76, hx109]) (by omega)
            refine V.iload (q := 115) F dL_isEngraved_113 rfl rfl ?_
            refine V.iload (q := 117) F dL_isEngraved_115 rfl rfl ?_
            refine V.icmp_ne (q := 120) (tgt := 124) F dL_isEngraved_117 rfl (by decide) (by omega) (fun k117 => ?_) (fun k117 => ?_)
            · refine V.iconst (q := 125) F dL_isEngraved_124 rfl ?_
              exact J125 _ _ (by omega)
            · refine V.iconst (q := 121) F dL_isEngraved_120 rfl ?_
              refine V.goto (tgt := 125) F dL_isEngraved_121 (by decide) ?_
              exact J125 _ _ (by omega)
          refine V.iload (q := 80) F dL_isEngraved_78 rfl rfl ?_
          refine V.bipush (q := 82) F dL_isEngraved_80 rfl (by decide) ?_
          refine V.icmp_ne (q := 85) (tgt := 95) F dL_isEngraved_82 rfl (by decide) (by omega) (fun k82 => ?_) (fun k82 => ?_)
          · refine V.aload_n (q := 96) F dL_isEngraved_95 rfl rfl rfl ?_
            refine V.iload_n (q := 97) F dL_isEngraved_96 rfl rfl rfl ?_
            refine V.iload_n (q := 98) F dL_isEngraved_97 rfl rfl rfl ?_
            refine V.iload (q := 100) F dL_isEngraved_98 rfl rfl ?_
            refine V.iconst (q := 101) F dL_isEngraved_100 rfl ?_
            refine V.idiv (q := 102) F dL_isEngraved_101 rfl ⟨by omega, by omega⟩ ?_
            refine V.iload (q := 104) F dL_isEngraved_102 rfl rfl ?_
            refine V.iconst (q := 105) F dL_isEngraved_104 rfl ?_
            refine V.irem (q := 106) F dL_isEngraved_105 rfl ⟨by omega, by omega⟩ ?_
            refine V.callX (q := 109) F 27 rfl nd27 dL_isEngraved_106 rfl (c_X6_share l G A a κ.1.1 R sn t κ.1.2.1 κ.1.2.2.1 κ.1.2.2.2.1 κ.1.2.2.2.2 κ.2.1.1 κ.2.1.2.1 κ.2.1.2.2 κ.2.2.1.1 κ.2.2.1.2.1 κ.2.2.1.2.2 κ.2.2.2.1.1 κ.2.2.2.1.2.1 κ.2.2.2.1.2.2 o s bb n κ.2.2.2.2.1 κ.2.2.2.2.2.1 κ.2.2.2.2.2.2.1 κ.2.2.2.2.2.2.2.1 κ.2.2.2.2.2.2.2.2.1 κ.2.2.2.2.2.2.2.2.2.1 κ.2.2.2.2.2.2.2.2.2.2.1 κ.2.2.2.2.2.2.2.2.2.2.2 p q (i / 3) (i % 3) hP.1 hP.2.2.2.1 hP.2.2.2.2 hbb hn ht (by omega) (by omega) (by omega) (by omega)) gL_isEngraved_X6_share rfl rfl ydX6_share ⟨Nat.le_of_ble_eq_true rfl, Nat.le_of_ble_eq_true rfl⟩ (ci := 6) rfl rfl rfl rfl (Nat.le_of_ble_eq_true rfl) ⟨Nat.le_of_ble_eq_true rfl, Nat.le_of_ble_eq_true rfl⟩ (fun r9 w9 h9 => ?_)
            rw [rShare_i (a := a) (p := p) (q := q) (by omega) (by omega) (i := i) (by omega)] at h9
            obtain ⟨κ, rfl, rfl⟩ := h9
            refine V.eq (pc' := 109) (st' := [_]) (ws' := WX A G a o s R bb sn t n κ ++ []) rfl rfl rfl rfl ?_
            exact J109 _ _ (by first | (rw [show i = 48 by omega, duz_48]) | (rw [duz_k a _ (by omega)]))
          · refine V.aload_n (q := 86) F dL_isEngraved_85 rfl rfl rfl ?_
            refine V.iload_n (q := 87) F dL_isEngraved_86 rfl rfl rfl ?_
            refine V.iload_n (q := 88) F dL_isEngraved_87 rfl rfl rfl ?_
            refine V.iconst (q := 89) F dL_isEngraved_88 rfl ?_
            refine V.callX (q := 92) F 27 rfl nd27 dL_isEngraved_89 rfl (c_X6_rose l G A a κ.1.1 R sn t κ.1.2.1 κ.1.2.2.1 κ.1.2.2.2.1 κ.1.2.2.2.2 κ.2.1.1 κ.2.1.2.1 κ.2.1.2.2 κ.2.2.1.1 κ.2.2.1.2.1 κ.2.2.1.2.2 κ.2.2.2.1.1 κ.2.2.2.1.2.1 κ.2.2.2.1.2.2 o s bb n κ.2.2.2.2.1 κ.2.2.2.2.2.1 κ.2.2.2.2.2.2.1 κ.2.2.2.2.2.2.2.1 κ.2.2.2.2.2.2.2.2.1 κ.2.2.2.2.2.2.2.2.2.1 κ.2.2.2.2.2.2.2.2.2.2.1 κ.2.2.2.2.2.2.2.2.2.2.2 p q 3 hP.1 hP.2.2.2.1 hP.2.2.2.2 hbb hn ht (by omega) (by omega) (by omega)) gL_isEngraved_X6_rose rfl rfl ydX6_rose ⟨Nat.le_of_ble_eq_true rfl, Nat.le_of_ble_eq_true rfl⟩ (ci := 6) rfl rfl rfl rfl (Nat.le_of_ble_eq_true rfl) ⟨Nat.le_of_ble_eq_true rfl, Nat.le_of_ble_eq_true rfl⟩ (fun r9 w9 h9 => ?_)
            rw [rRose_3 (a := a) (p := p) (q := q) (by omega) (by omega)] at h9
            obtain ⟨κ, rfl, rfl⟩ := h9
            refine V.eq (pc' := 92) (st' := [_]) (ws' := WX A G a o s R bb sn t n κ ++ []) rfl rfl rfl rfl ?_
            refine V.goto (tgt := 109) F dL_isEngraved_92 (by decide) ?_
            exact J109 _ _ (by first | (rw [show i = 48 by omega, duz_48]) | (rw [duz_k a _ (by omega)]))
        refine V.iload (q := 47) F dL_isEngraved_45 rfl rfl ?_
        refine V.bipush (q := 49) F dL_isEngraved_47 rfl (by decide) ?_
        refine V.icmp_ne (q := 52) (tgt := 62) F dL_isEngraved_49 rfl (by decide) (by omega) (fun k49 => ?_) (fun k49 => ?_)
        · refine V.aload_n (q := 63) F dL_isEngraved_62 rfl rfl rfl ?_
          refine V.iload_n (q := 64) F dL_isEngraved_63 rfl rfl rfl ?_
          refine V.iload_n (q := 65) F dL_isEngraved_64 rfl rfl rfl ?_
          refine V.iload (q := 67) F dL_isEngraved_65 rfl rfl ?_
          refine V.iconst (q := 68) F dL_isEngraved_67 rfl ?_
          refine V.idiv (q := 69) F dL_isEngraved_68 rfl ⟨by omega, by omega⟩ ?_
          refine V.iload (q := 71) F dL_isEngraved_69 rfl rfl ?_
          refine V.iconst (q := 72) F dL_isEngraved_71 rfl ?_
          refine V.irem (q := 73) F dL_isEngraved_72 rfl ⟨by omega, by omega⟩ ?_
          refine V.callX (q := 76) F 27 rfl nd27 dL_isEngraved_73 rfl (c_X6_petal l G A a κ.1.1 R sn t κ.1.2.1 κ.1.2.2.1 κ.1.2.2.2.1 κ.1.2.2.2.2 κ.2.1.1 κ.2.1.2.1 κ.2.1.2.2 κ.2.2.1.1 κ.2.2.1.2.1 κ.2.2.1.2.2 κ.2.2.2.1.1 κ.2.2.2.1.2.1 κ.2.2.2.1.2.2 o s bb n κ.2.2.2.2.1 κ.2.2.2.2.2.1 κ.2.2.2.2.2.2.1 κ.2.2.2.2.2.2.2.1 κ.2.2.2.2.2.2.2.2.1 κ.2.2.2.2.2.2.2.2.2.1 κ.2.2.2.2.2.2.2.2.2.2.1 κ.2.2.2.2.2.2.2.2.2.2.2 p q (i / 3) (i % 3) hP.1 hP.2.2.2.1 hP.2.2.2.2 hbb hn ht (by omega) (by omega) (by omega) (by omega)) gL_isEngraved_X6_petal rfl rfl ydX6_petal ⟨Nat.le_of_ble_eq_true rfl, Nat.le_of_ble_eq_true rfl⟩ (ci := 6) rfl rfl rfl rfl (Nat.le_of_ble_eq_true rfl) ⟨Nat.le_of_ble_eq_true rfl, Nat.le_of_ble_eq_true rfl⟩ (fun r9 w9 h9 => ?_)
          rw [rPetal_i (a := a) (p := p) (q := q) (by omega) (by omega) (i := i) (by omega)] at h9
          obtain ⟨κ, rfl, rfl⟩ := h9
          refine V.eq (pc' := 76) (st' := [_]) (ws' := WX A G a o s R bb sn t n κ ++ []) rfl rfl rfl rfl ?_
          exact J76 _ _ (by first | (rw [show i = 48 by omega, itz_48]) | (rw [itz_k a _ (by omega)]))
        · refine V.aload_n (q := 53) F dL_isEngraved_52 rfl rfl rfl ?_
          refine V.iload_n (q := 54) F dL_isEngraved_53 rfl rfl rfl ?_
          refine V.iload_n (q := 55) F dL_isEngraved_54 rfl rfl rfl ?_
          refine V.iconst (q := 56) F dL_isEngraved_55 rfl ?_
          refine V.callX (q := 59) F 27 rfl nd27 dL_isEngraved_56 rfl (c_X6_plate l G A a κ.1.1 R sn t κ.1.2.1 κ.1.2.2.1 κ.1.2.2.2.1 κ.1.2.2.2.2 κ.2.1.1 κ.2.1.2.1 κ.2.1.2.2 κ.2.2.1.1 κ.2.2.1.2.1 κ.2.2.1.2.2 κ.2.2.2.1.1 κ.2.2.2.1.2.1 κ.2.2.2.1.2.2 o s bb n κ.2.2.2.2.1 κ.2.2.2.2.2.1 κ.2.2.2.2.2.2.1 κ.2.2.2.2.2.2.2.1 κ.2.2.2.2.2.2.2.2.1 κ.2.2.2.2.2.2.2.2.2.1 κ.2.2.2.2.2.2.2.2.2.2.1 κ.2.2.2.2.2.2.2.2.2.2.2 p q 0 hP.1 hP.2.2.2.1 hP.2.2.2.2 hbb hn ht (by omega) (by omega) (by omega)) gL_isEngraved_X6_plate rfl rfl ydX6_plate ⟨Nat.le_of_ble_eq_true rfl, Nat.le_of_ble_eq_true rfl⟩ (ci := 6) rfl rfl rfl rfl (Nat.le_of_ble_eq_true rfl) ⟨Nat.le_of_ble_eq_true rfl, Nat.le_of_ble_eq_true rfl⟩ (fun r9 w9 h9 => ?_)
          rw [rPlate_0 (a := a) (p := p) (q := q) (by omega) (by omega)] at h9
          obtain ⟨κ, rfl, rfl⟩ := h9
          refine V.eq (pc' := 59) (st' := [_]) (ws' := WX A G a o s R bb sn t n κ ++ []) rfl rfl rfl rfl ?_
          refine V.goto (tgt := 76) F dL_isEngraved_59 (by decide) ?_
          exact J76 _ _ (by first | (rw [show i = 48 by omega, itz_48]) | (rw [itz_k a _ (by omega)]))
  exact L38 _ 0 0 _ (by omega) (sz_self _ _).symm (Nat.lt_succ_self _)

abbrev YL_isTurned (l : Launch) (G : Gx) : Sx := (cL_isTurned, 9, RL, wsL_isTurned, rmD 7, l, G)
theorem ydL_isTurned : ydOk yL_isTurned 5 := by decide +kernel
set_option maxHeartbeats 4000000 in
set_option maxRecDepth 20000 in
theorem c_L_isTurned (l : Launch) (G : Gx) (A : Nat → Nat) (wa : Nat) (a R sn t wf : Int → Int) (o s bb n N p q b : Int) (κ : Scr) (hP : PI N a o s) (hbb : 0 ≤ bb ∧ bb ≤ 1) (hn : 0 ≤ n ∧ n ≤ 80) (ht : ∀ j, 0 ≤ t j ∧ t j < 65536) (hp : 0 ≤ p ∧ p ≤ 3) (hq4 : 0 ≤ q ∧ q ≤ 3) (hb : 1 ≤ b ∧ b ≤ 15) : Ct l G yL_isTurned wsL_isTurned (rmD 7) [.ref (A 0), .int (zI p), .int (zI q), .int (zI b), .ref wa] (WX A G a o s R bb sn t n κ ++ [(wa, aI G 48 wf)]) (DoX A G wa N bb sn t n) := by
  refine Ct.intro (cc := cL_isTurned) (maxL := 9) (ret := (some .boolean)) (lo0 := [some (.ref (A 0)), some (.int (zI p)), some (.int (zI q)), some (.int (zI b)), some (.ref wa), none, none, none, none]) (by decide +kernel) rfl ⟨rfl, rfl⟩ (Nat.le_of_ble_eq_true rfl) rfl ?_
  intro X F T
  change Fx X (YL_isTurned l G) at F
  change V X (YL_isTurned l G) 0 0 0 _ _ _
  have hr : 0 ≤ p * 4 + q ∧ p * 4 + q < 16 := by omega
  have hI := hP.1
  have hw := hI.w hr
  have hml := mean_law hI hr
  have eR : rTurn a p q b = if ¬ ((0 ≤ p ∧ p ≤ 3) ∧ (0 ≤ q ∧ q ≤ 3)) then -1 else if ¬ (1 ≤ b ∧ b ≤ 15) then -2 else if a (25344 + (p * 4 + q)) = 0 then -5 else a (25344 + (p * 4 + q)) := rfl
  refine V.aload_n (q := 1) F dL_isTurned_0 rfl rfl rfl ?_
  refine V.iload_n (q := 2) F dL_isTurned_1 rfl rfl rfl ?_
  refine V.iload_n (q := 3) F dL_isTurned_2 rfl rfl rfl ?_
  refine V.iconst (q := 4) F dL_isTurned_3 rfl ?_
  refine V.callX (q := 7) F 27 rfl nd27 dL_isTurned_4 rfl (c_X6_rose l G A a κ.1.1 R sn t κ.1.2.1 κ.1.2.2.1 κ.1.2.2.2.1 κ.1.2.2.2.2 κ.2.1.1 κ.2.1.2.1 κ.2.1.2.2 κ.2.2.1.1 κ.2.2.1.2.1 κ.2.2.1.2.2 κ.2.2.2.1.1 κ.2.2.2.1.2.1 κ.2.2.2.1.2.2 o s bb n κ.2.2.2.2.1 κ.2.2.2.2.2.1 κ.2.2.2.2.2.2.1 κ.2.2.2.2.2.2.2.1 κ.2.2.2.2.2.2.2.2.1 κ.2.2.2.2.2.2.2.2.2.1 κ.2.2.2.2.2.2.2.2.2.2.1 κ.2.2.2.2.2.2.2.2.2.2.2 p q 1 hP.1 hP.2.2.2.1 hP.2.2.2.2 hbb hn ht (by omega) (by omega) (by omega)) gL_isTurned_X6_rose rfl rfl ydX6_rose ⟨Nat.le_of_ble_eq_true rfl, Nat.le_of_ble_eq_true rfl⟩ (ci := 6) rfl rfl rfl rfl (Nat.le_of_ble_eq_true rfl) ⟨Nat.le_of_ble_eq_true rfl, Nat.le_of_ble_eq_true rfl⟩ (fun r9 w9 h9 => ?_)
  rw [rRose_1 (a := a) (p := p) (q := q) (by omega) (by omega)] at h9
  obtain ⟨κ, rfl, rfl⟩ := h9
  refine V.eq (pc' := 7) (st' := [_]) (ws' := WX A G a o s R bb sn t n κ ++ [(wa, aI G 48 wf)]) rfl rfl rfl rfl ?_
  refine V.istore (q := 9) (lo' := [_, _, _, _, _, _, _, _, _]) F dL_isTurned_7 rfl (Nat.le_of_ble_eq_true rfl) rfl rfl ?_
  refine V.aload_n (q := 10) F dL_isTurned_9 rfl rfl rfl ?_
  refine V.iload_n (q := 11) F dL_isTurned_10 rfl rfl rfl ?_
  refine V.iload_n (q := 12) F dL_isTurned_11 rfl rfl rfl ?_
  refine V.iconst (q := 13) F dL_isTurned_12 rfl ?_
  refine V.callX (q := 16) F 27 rfl nd27 dL_isTurned_13 rfl (c_X6_rose l G A a κ.1.1 R sn t κ.1.2.1 κ.1.2.2.1 κ.1.2.2.2.1 κ.1.2.2.2.2 κ.2.1.1 κ.2.1.2.1 κ.2.1.2.2 κ.2.2.1.1 κ.2.2.1.2.1 κ.2.2.1.2.2 κ.2.2.2.1.1 κ.2.2.2.1.2.1 κ.2.2.2.1.2.2 o s bb n κ.2.2.2.2.1 κ.2.2.2.2.2.1 κ.2.2.2.2.2.2.1 κ.2.2.2.2.2.2.2.1 κ.2.2.2.2.2.2.2.2.1 κ.2.2.2.2.2.2.2.2.2.1 κ.2.2.2.2.2.2.2.2.2.2.1 κ.2.2.2.2.2.2.2.2.2.2.2 p q 5 hP.1 hP.2.2.2.1 hP.2.2.2.2 hbb hn ht (by omega) (by omega) (by omega)) gL_isTurned_X6_rose rfl rfl ydX6_rose ⟨Nat.le_of_ble_eq_true rfl, Nat.le_of_ble_eq_true rfl⟩ (ci := 6) rfl rfl rfl rfl (Nat.le_of_ble_eq_true rfl) ⟨Nat.le_of_ble_eq_true rfl, Nat.le_of_ble_eq_true rfl⟩ (fun r9 w9 h9 => ?_)
  rw [rRose_5 (a := a) (p := p) (q := q) (by omega) (by omega)] at h9
  obtain ⟨κ, rfl, rfl⟩ := h9
  refine V.eq (pc' := 16) (st' := [_]) (ws' := WX A G a o s R bb sn t n κ ++ [(wa, aI G 48 wf)]) rfl rfl rfl rfl ?_
  refine V.istore (q := 18) (lo' := [_, _, _, _, _, _, _, _, _]) F dL_isTurned_16 rfl (Nat.le_of_ble_eq_true rfl) rfl rfl ?_
  refine V.iconst (q := 19) F dL_isTurned_18 rfl ?_
  refine V.istore (q := 21) (lo' := [_, _, _, _, _, _, _, _, _]) F dL_isTurned_19 rfl (Nat.le_of_ble_eq_true rfl) rfl rfl ?_
  have L21 : ∀ (nq : Nat) (i : Int) (wf : Int → Int) (κ : Scr) (hi : 0 ≤ i ∧ i ≤ 48) (hwf : ∀ j, 0 ≤ j → j < i → wf j = pthz a (p * 4 + q) j), (48 - i).toNat < nq → V X (YL_isTurned l G) 0 0 21 [some (.ref (A 0)), some (.int (zI p)), some (.int (zI q)), some (.int (zI b)), some (.ref wa), some (.int (zI (a (25344 + (p * 4 + q))))), some (.int (zI (meanz a (p * 4 + q)))), some (.int (zI i)), none] [] (WX A G a o s R bb sn t n κ ++ [(wa, aI G 48 wf)]) := by
    intro n21
    induction n21 with
    | zero => intro i wf κ hi hwf hm21; exact absurd hm21 (Nat.not_lt_zero _)
    | succ n21 ih21 =>
      intro i wf κ hi hwf hm21
      refine V.iload (q := 23) F dL_isTurned_21 rfl rfl ?_
      refine V.bipush (q := 25) F dL_isTurned_23 rfl (by decide) ?_
      refine V.icmp_ge (q := 28) (tgt := 53) F dL_isTurned_25 rfl (by decide) (by omega) (fun k25 => ?_) (fun k25 => ?_)
      · have hwf2 : ∀ j, 0 ≤ j → j < 48 → wf j = pthz a (p * 4 + q) j := fun j h1 h2 => hwf j h1 (by omega)
        refine V.aload_n (q := 54) F dL_isTurned_53 rfl rfl rfl ?_
        refine V.iload_n (q := 55) F dL_isTurned_54 rfl rfl rfl ?_
        refine V.iload_n (q := 56) F dL_isTurned_55 rfl rfl rfl ?_
        refine V.iload_n (q := 57) F dL_isTurned_56 rfl rfl rfl ?_
        refine V.callX (q := 60) F 27 rfl nd27 dL_isTurned_57 rfl (c_X6_turn l G A a κ.1.1 R sn t κ.1.2.1 κ.1.2.2.1 κ.1.2.2.2.1 κ.1.2.2.2.2 κ.2.1.1 κ.2.1.2.1 κ.2.1.2.2 κ.2.2.1.1 κ.2.2.1.2.1 κ.2.2.1.2.2 κ.2.2.2.1.1 κ.2.2.2.1.2.1 κ.2.2.2.1.2.2 o s bb n κ.2.2.2.2.1 κ.2.2.2.2.2.1 κ.2.2.2.2.2.2.1 κ.2.2.2.2.2.2.2.1 κ.2.2.2.2.2.2.2.2.1 κ.2.2.2.2.2.2.2.2.2.1 κ.2.2.2.2.2.2.2.2.2.2.1 κ.2.2.2.2.2.2.2.2.2.2.2 p q b hP.1 hP.2.2.2.1 hP.2.2.2.2 hbb hn ht (by omega) (by omega) (by omega)) gL_isTurned_X6_turn rfl rfl ydX6_turn ⟨Nat.le_of_ble_eq_true rfl, Nat.le_of_ble_eq_true rfl⟩ (ci := 6) rfl rfl rfl rfl (Nat.le_of_ble_eq_true rfl) ⟨Nat.le_of_ble_eq_true rfl, Nat.le_of_ble_eq_true rfl⟩ (fun r9 w9 h9 => ?_)
        obtain ⟨κ, rfl, hneg, hpos⟩ := h9
        rcases Int.lt_or_le (rTurn a p q b) 0 with hs | hs
        · have e9 := hneg hs
          subst e9
          refine V.eq (pc' := 60) (st' := [_]) (ws' := WX A G a o s R bb sn t n κ ++ [(wa, aI G 48 wf)]) rfl rfl rfl rfl ?_
          refine V.istore (q := 62) (lo' := [_, _, _, _, _, _, _, _, _]) F dL_isTurned_60 rfl (Nat.le_of_ble_eq_true rfl) rfl rfl ?_
          refine V.iload (q := 64) F dL_isTurned_62 rfl rfl ?_
          refine V.if_ne (q := 67) (tgt := 80) F dL_isTurned_64 rfl (by decide) (by omega) (fun k64 => by exfalso; omega) (fun k64 => ?_)
          refine V.iload (q := 69) F dL_isTurned_67 rfl rfl ?_
          refine V.bipush (q := 71) F dL_isTurned_69 rfl (by decide) ?_
          refine V.icmp_ne (q := 74) (tgt := 78) F dL_isTurned_71 rfl (by decide) (by omega) (fun k71 => by exfalso; omega) (fun k71 => ?_)
          refine V.iconst (q := 75) F dL_isTurned_74 rfl ?_
          refine V.goto (tgt := 79) F dL_isTurned_75 (by decide) ?_
          exact V.zret F T (Or.inr rfl) dL_isTurned_79 ⟨κ, _, _, _, _, _, rfl, hP, rfl⟩ [(A 0), (A 1), (A 2), (A 3), (A 4), (A 5), (A 6), (A 7), (A 8), (A 9), (A 10), (A 11), (A 12), (A 13), (A 14), (A 15), (A 16), (A 17), (A 18), (A 19), (A 20), (A 21), (A 22), (A 23), (A 24), (A 25), (A 26), wa] rfl rfl
        · have e9 := hpos hs
          subst e9
          refine V.eq (pc' := 60) (st' := [_]) (ws' := WX A G (turnI a (p * 4 + q) b 16) (oN o s) (sN s) (RN a o s R) bb sn t n κ ++ [(wa, aI G 48 wf)]) rfl rfl rfl rfl ?_
          have hP2 : PI N (turnI a (p * 4 + q) b 16) (oN o s) (sN s) := hP.low (inv_turn hI hs) (fun r9 g1 g2 => turnI_out a (by omega)) (turnI_out a (by omega)) (turnI_out a (by omega))
          have htl := turn_law hI hr (b := b) (by omega)
          refine V.istore (q := 62) (lo' := [_, _, _, _, _, _, _, _, _]) F dL_isTurned_60 rfl (Nat.le_of_ble_eq_true rfl) rfl rfl ?_
          refine V.iload (q := 64) F dL_isTurned_62 rfl rfl ?_
          refine V.if_ne (q := 67) (tgt := 80) F dL_isTurned_64 rfl (by decide) (by omega) (fun k64 => ?_) (fun k64 => by exfalso; omega)
          refine V.iconst (q := 81) F dL_isTurned_80 rfl ?_
          refine V.istore (q := 83) (lo' := [_, _, _, _, _, _, _, _, _]) F dL_isTurned_81 rfl (Nat.le_of_ble_eq_true rfl) rfl rfl ?_
          have L83 : ∀ (nq : Nat) (j : Int) (κ : Scr) (hj : 0 ≤ j ∧ j ≤ 48), (48 - j).toNat < nq → V X (YL_isTurned l G) 0 0 83 [some (.ref (A 0)), some (.int (zI p)), some (.int (zI q)), some (.int (zI b)), some (.ref wa), some (.int (zI (a (25344 + (p * 4 + q))))), some (.int (zI (meanz a (p * 4 + q)))), some (.int (zI (rTurn a p q b))), some (.int (zI j))] [] (WX A G (turnI a (p * 4 + q) b 16) (oN o s) (sN s) (RN a o s R) bb sn t n κ ++ [(wa, aI G 48 wf)]) := by
            intro n83
            induction n83 with
            | zero => intro j κ hj hm83; exact absurd hm83 (Nat.not_lt_zero _)
            | succ n83 ih83 =>
              intro j κ hj hm83
              refine V.iload (q := 85) F dL_isTurned_83 rfl rfl ?_
              refine V.bipush (q := 87) F dL_isTurned_85 rfl (by decide) ?_
              refine V.icmp_ge (q := 90) (tgt := 125) F dL_isTurned_87 rfl (by decide) (by omega) (fun k87 => ?_) (fun k87 => ?_)
              · refine V.iload (q := 127) F dL_isTurned_125 rfl rfl ?_
                refine V.iload (q := 129) F dL_isTurned_127 rfl rfl ?_
                refine V.icmp_ne (q := 132) (tgt := 160) F dL_isTurned_129 rfl (by decide) (by omega) (fun k129 => by exfalso; omega) (fun k129 => ?_)
                refine V.aload_n (q := 133) F dL_isTurned_132 rfl rfl rfl ?_
                refine V.iload_n (q := 134) F dL_isTurned_133 rfl rfl rfl ?_
                refine V.iload_n (q := 135) F dL_isTurned_134 rfl rfl rfl ?_
                refine V.iconst (q := 136) F dL_isTurned_135 rfl ?_
                refine V.callX (q := 139) F 27 rfl nd27 dL_isTurned_136 rfl (c_X6_rose l G A (turnI a (p * 4 + q) b 16) κ.1.1 (RN a o s R) sn t κ.1.2.1 κ.1.2.2.1 κ.1.2.2.2.1 κ.1.2.2.2.2 κ.2.1.1 κ.2.1.2.1 κ.2.1.2.2 κ.2.2.1.1 κ.2.2.1.2.1 κ.2.2.1.2.2 κ.2.2.2.1.1 κ.2.2.2.1.2.1 κ.2.2.2.1.2.2 (oN o s) (sN s) bb n κ.2.2.2.2.1 κ.2.2.2.2.2.1 κ.2.2.2.2.2.2.1 κ.2.2.2.2.2.2.2.1 κ.2.2.2.2.2.2.2.2.1 κ.2.2.2.2.2.2.2.2.2.1 κ.2.2.2.2.2.2.2.2.2.2.1 κ.2.2.2.2.2.2.2.2.2.2.2 p q 1 hP2.1 hP2.2.2.2.1 hP2.2.2.2.2 hbb hn ht (by omega) (by omega) (by omega)) gL_isTurned_X6_rose rfl rfl ydX6_rose ⟨Nat.le_of_ble_eq_true rfl, Nat.le_of_ble_eq_true rfl⟩ (ci := 6) rfl rfl rfl rfl (Nat.le_of_ble_eq_true rfl) ⟨Nat.le_of_ble_eq_true rfl, Nat.le_of_ble_eq_true rfl⟩ (fun r9 w9 h9 => ?_)
                rw [rRose_1 (a := (turnI a (p * 4 + q) b 16)) (p := p) (q := q) (by omega) (by omega)] at h9
                obtain ⟨κ, rfl, rfl⟩ := h9
                refine V.eq (pc' := 139) (st' := [_]) (ws' := WX A G (turnI a (p * 4 + q) b 16) (oN o s) (sN s) (RN a o s R) bb sn t n κ ++ [(wa, aI G 48 wf)]) rfl rfl rfl rfl ?_
                refine V.iload (q := 141) F dL_isTurned_139 rfl rfl ?_
                refine V.icmp_ne (q := 144) (tgt := 160) F dL_isTurned_141 rfl (by decide) (by omega) (fun k141 => by exfalso; omega) (fun k141 => ?_)
                refine V.aload_n (q := 145) F dL_isTurned_144 rfl rfl rfl ?_
                refine V.iload_n (q := 146) F dL_isTurned_145 rfl rfl rfl ?_
                refine V.iload_n (q := 147) F dL_isTurned_146 rfl rfl rfl ?_
                refine V.iconst (q := 148) F dL_isTurned_147 rfl ?_
                refine V.callX (q := 151) F 27 rfl nd27 dL_isTurned_148 rfl (c_X6_rose l G A (turnI a (p * 4 + q) b 16) κ.1.1 (RN a o s R) sn t κ.1.2.1 κ.1.2.2.1 κ.1.2.2.2.1 κ.1.2.2.2.2 κ.2.1.1 κ.2.1.2.1 κ.2.1.2.2 κ.2.2.1.1 κ.2.2.1.2.1 κ.2.2.1.2.2 κ.2.2.2.1.1 κ.2.2.2.1.2.1 κ.2.2.2.1.2.2 (oN o s) (sN s) bb n κ.2.2.2.2.1 κ.2.2.2.2.2.1 κ.2.2.2.2.2.2.1 κ.2.2.2.2.2.2.2.1 κ.2.2.2.2.2.2.2.2.1 κ.2.2.2.2.2.2.2.2.2.1 κ.2.2.2.2.2.2.2.2.2.2.1 κ.2.2.2.2.2.2.2.2.2.2.2 p q 5 hP2.1 hP2.2.2.2.1 hP2.2.2.2.2 hbb hn ht (by omega) (by omega) (by omega)) gL_isTurned_X6_rose rfl rfl ydX6_rose ⟨Nat.le_of_ble_eq_true rfl, Nat.le_of_ble_eq_true rfl⟩ (ci := 6) rfl rfl rfl rfl (Nat.le_of_ble_eq_true rfl) ⟨Nat.le_of_ble_eq_true rfl, Nat.le_of_ble_eq_true rfl⟩ (fun r9 w9 h9 => ?_)
                rw [rRose_5 (a := (turnI a (p * 4 + q) b 16)) (p := p) (q := q) (by omega) (by omega)] at h9
                obtain ⟨κ, rfl, rfl⟩ := h9
                refine V.eq (pc' := 151) (st' := [_]) (ws' := WX A G (turnI a (p * 4 + q) b 16) (oN o s) (sN s) (RN a o s R) bb sn t n κ ++ [(wa, aI G 48 wf)]) rfl rfl rfl rfl ?_
                refine V.iload (q := 153) F dL_isTurned_151 rfl rfl ?_
                refine V.icmp_ne (q := 156) (tgt := 160) F dL_isTurned_153 rfl (by decide) (by omega) (fun k153 => by exfalso; omega) (fun k153 => ?_)
                refine V.iconst (q := 157) F dL_isTurned_156 rfl ?_
                refine V.goto (tgt := 161) F dL_isTurned_157 (by decide) ?_
                exact V.zret F T (Or.inr rfl) dL_isTurned_161 ⟨κ, _, _, _, _, _, rfl, hP2, rfl⟩ [(A 0), (A 1), (A 2), (A 3), (A 4), (A 5), (A 6), (A 7), (A 8), (A 9), (A 10), (A 11), (A 12), (A 13), (A 14), (A 15), (A 16), (A 17), (A 18), (A 19), (A 20), (A 21), (A 22), (A 23), (A 24), (A 25), (A 26), wa] rfl rfl
              · have hpt : phz (turnI a (p * 4 + q) b 16) (p * 4 + q) ((j / 3 + b) % 16) (j % 3) = pthz a (p * 4 + q) j := phz_turn hI hr (by omega) (by omega) (by omega)
                have hwj := hwf2 j (by omega) (by omega)
                have hpg := pthz_rng hI hr (p := j) (by omega)
                refine V.aload_n (q := 91) F dL_isTurned_90 rfl rfl rfl ?_
                refine V.iload_n (q := 92) F dL_isTurned_91 rfl rfl rfl ?_
                refine V.iload_n (q := 93) F dL_isTurned_92 rfl rfl rfl ?_
                refine V.iload (q := 95) F dL_isTurned_93 rfl rfl ?_
                refine V.iconst (q := 96) F dL_isTurned_95 rfl ?_
                refine V.idiv (q := 97) F dL_isTurned_96 rfl ⟨by omega, by omega⟩ ?_
                refine V.iload_n (q := 98) F dL_isTurned_97 rfl rfl rfl ?_
                refine V.iadd (q := 99) F dL_isTurned_98 rfl ?_
                refine V.bipush (q := 101) F dL_isTurned_99 rfl (by decide) ?_
                refine V.irem (q := 102) F dL_isTurned_101 rfl ⟨by omega, by omega⟩ ?_
                refine V.iload (q := 104) F dL_isTurned_102 rfl rfl ?_
                refine V.iconst (q := 105) F dL_isTurned_104 rfl ?_
                refine V.irem (q := 106) F dL_isTurned_105 rfl ⟨by omega, by omega⟩ ?_
                refine V.callX (q := 109) F 27 rfl nd27 dL_isTurned_106 rfl (c_X6_hours l G A (turnI a (p * 4 + q) b 16) κ.1.1 (RN a o s R) sn t κ.1.2.1 κ.1.2.2.1 κ.1.2.2.2.1 κ.1.2.2.2.2 κ.2.1.1 κ.2.1.2.1 κ.2.1.2.2 κ.2.2.1.1 κ.2.2.1.2.1 κ.2.2.1.2.2 κ.2.2.2.1.1 κ.2.2.2.1.2.1 κ.2.2.2.1.2.2 (oN o s) (sN s) bb n κ.2.2.2.2.1 κ.2.2.2.2.2.1 κ.2.2.2.2.2.2.1 κ.2.2.2.2.2.2.2.1 κ.2.2.2.2.2.2.2.2.1 κ.2.2.2.2.2.2.2.2.2.1 κ.2.2.2.2.2.2.2.2.2.2.1 κ.2.2.2.2.2.2.2.2.2.2.2 p q (((j / 3) + b) % 16) (j % 3) hP2.1 hP2.2.2.2.1 hP2.2.2.2.2 hbb hn ht (by omega) (by omega) (by omega) (by omega)) gL_isTurned_X6_hours rfl rfl ydX6_hours ⟨Nat.le_of_ble_eq_true rfl, Nat.le_of_ble_eq_true rfl⟩ (ci := 6) rfl rfl rfl rfl (Nat.le_of_ble_eq_true rfl) ⟨Nat.le_of_ble_eq_true rfl, Nat.le_of_ble_eq_true rfl⟩ (fun r9 w9 h9 => ?_)
                rw [rHours_k (a := (turnI a (p * 4 + q) b 16)) (p := p) (q := q) (by omega) (by omega) (d := ((j / 3) + b) % 16) (k := j % 3) (by omega) (by omega)] at h9
                obtain ⟨κ, rfl, rfl⟩ := h9
                refine V.eq (pc' := 109) (st' := [_]) (ws' := WX A G (turnI a (p * 4 + q) b 16) (oN o s) (sN s) (RN a o s R) bb sn t n κ ++ [(wa, aI G 48 wf)]) rfl rfl rfl rfl ?_
                refine V.aload (q := 111) F dL_isTurned_109 rfl rfl ?_
                refine V.iload (q := 113) F dL_isTurned_111 rfl rfl ?_
                refine V.iald (q := 114) F 27 dL_isTurned_113 rfl rfl (by decide) (by omega) ?_
                refine V.icmp_eq (q := 117) (tgt := 119) F dL_isTurned_114 rfl (by decide) (by omega) (fun k114 => ?_) (fun k114 => by exfalso; omega)
                refine V.iinc (q := 122) (lo' := [_, _, _, _, _, _, _, _, _]) F dL_isTurned_119 rfl rfl (Nat.le_of_ble_eq_true rfl) rfl rfl ?_
                refine V.goto (tgt := 83) F dL_isTurned_122 (by decide) ?_
                exact ih83 (j + 1) _ (by omega) (by omega)
          exact L83 _ 0 _ (by omega) (Nat.lt_succ_self _)
      · refine V.aload (q := 30) F dL_isTurned_28 rfl rfl ?_
        refine V.iload (q := 32) F dL_isTurned_30 rfl rfl ?_
        refine V.aload_n (q := 33) F dL_isTurned_32 rfl rfl rfl ?_
        refine V.iload_n (q := 34) F dL_isTurned_33 rfl rfl rfl ?_
        refine V.iload_n (q := 35) F dL_isTurned_34 rfl rfl rfl ?_
        refine V.iload (q := 37) F dL_isTurned_35 rfl rfl ?_
        refine V.iconst (q := 38) F dL_isTurned_37 rfl ?_
        refine V.idiv (q := 39) F dL_isTurned_38 rfl ⟨by omega, by omega⟩ ?_
        refine V.iload (q := 41) F dL_isTurned_39 rfl rfl ?_
        refine V.iconst (q := 42) F dL_isTurned_41 rfl ?_
        refine V.irem (q := 43) F dL_isTurned_42 rfl ⟨by omega, by omega⟩ ?_
        refine V.callX (q := 46) F 27 rfl nd27 dL_isTurned_43 rfl (c_X6_hours l G A a κ.1.1 R sn t κ.1.2.1 κ.1.2.2.1 κ.1.2.2.2.1 κ.1.2.2.2.2 κ.2.1.1 κ.2.1.2.1 κ.2.1.2.2 κ.2.2.1.1 κ.2.2.1.2.1 κ.2.2.1.2.2 κ.2.2.2.1.1 κ.2.2.2.1.2.1 κ.2.2.2.1.2.2 o s bb n κ.2.2.2.2.1 κ.2.2.2.2.2.1 κ.2.2.2.2.2.2.1 κ.2.2.2.2.2.2.2.1 κ.2.2.2.2.2.2.2.2.1 κ.2.2.2.2.2.2.2.2.2.1 κ.2.2.2.2.2.2.2.2.2.2.1 κ.2.2.2.2.2.2.2.2.2.2.2 p q (i / 3) (i % 3) hP.1 hP.2.2.2.1 hP.2.2.2.2 hbb hn ht (by omega) (by omega) (by omega) (by omega)) gL_isTurned_X6_hours rfl rfl ydX6_hours ⟨Nat.le_of_ble_eq_true rfl, Nat.le_of_ble_eq_true rfl⟩ (ci := 6) rfl rfl rfl rfl (Nat.le_of_ble_eq_true rfl) ⟨Nat.le_of_ble_eq_true rfl, Nat.le_of_ble_eq_true rfl⟩ (fun r9 w9 h9 => ?_)
        rw [rHours_i (a := a) (p := p) (q := q) (by omega) (by omega) (i := i) (by omega)] at h9
        obtain ⟨κ, rfl, rfl⟩ := h9
        refine V.eq (pc' := 46) (st' := [_, _, _]) (ws' := WX A G a o s R bb sn t n κ ++ [(wa, aI G 48 wf)]) rfl rfl rfl rfl ?_
        refine V.iast (q := 47) (ws' := WX A G a o s R bb sn t n κ ++ [(wa, aI G 48 (upz wf i (pthz a (p * 4 + q) i)))]) F 27 dL_isTurned_46 rfl rfl (by decide) (by omega) rfl ?_
        refine V.iinc (q := 50) (lo' := [_, _, _, _, _, _, _, _, _]) F dL_isTurned_47 rfl rfl (Nat.le_of_ble_eq_true rfl) rfl rfl ?_
        refine V.goto (tgt := 21) F dL_isTurned_50 (by decide) ?_
        have hwn : ∀ j, 0 ≤ j → j < i + 1 → upz wf i (pthz a (p * 4 + q) i) j = pthz a (p * 4 + q) j := by
          intro j h1 h2
          by_cases hj : j = i
          · rw [hj, upz_eq]
          · rw [upz_ne _ _ _ hj]; exact hwf j h1 (by omega)
        exact ih21 (i + 1) _ _ (by omega) hwn (by omega)
  exact L21 _ 0 wf _ (by omega) (fun j h1 h2 => absurd h2 (by omega)) (Nat.lt_succ_self _)

abbrev YL_isUnlike (l : Launch) (G : Gx) : Sx := (cL_isUnlike, 9, RL, wsL_isUnlike, rmD 7, l, G)
theorem ydL_isUnlike : ydOk yL_isUnlike 5 := by decide +kernel
set_option maxHeartbeats 4000000 in
set_option maxRecDepth 20000 in
theorem c_L_isUnlike (l : Launch) (G : Gx) (A : Nat → Nat)  (a R sn t : Int → Int) (o s bb n N p u q k : Int) (κ : Scr) (hP : PI N a o s) (hbb : 0 ≤ bb ∧ bb ≤ 1) (hn : 0 ≤ n ∧ n ≤ 80) (ht : ∀ j, 0 ≤ t j ∧ t j < 65536) (hp : 0 ≤ p ∧ p ≤ 3) (hu : 0 ≤ u ∧ u ≤ 3) (hq4 : 0 ≤ q ∧ q ≤ 3) (hk9 : 0 ≤ k ∧ k ≤ 2) : Ct l G yL_isUnlike wsL_isUnlike (rmD 7) [.ref (A 0), .int (zI p), .int (zI u), .int (zI q), .int (zI k)] (WX A G a o s R bb sn t n κ) (RdX A G a o s R bb sn t n 1) := by
  refine Ct.intro (cc := cL_isUnlike) (maxL := 9) (ret := (some .boolean)) (lo0 := [some (.ref (A 0)), some (.int (zI p)), some (.int (zI u)), some (.int (zI q)), some (.int (zI k)), none, none, none, none]) (by decide +kernel) rfl ⟨rfl, rfl⟩ (Nat.le_of_ble_eq_true rfl) rfl ?_
  intro X F T
  change Fx X (YL_isUnlike l G) at F
  change V X (YL_isUnlike l G) 0 0 0 _ _ _
  refine V.eq (pc' := 0) (ws' := WX A G a o s R bb sn t n κ ++ []) rfl rfl rfl (List.append_nil _).symm ?_
  have hr : 0 ≤ p * 4 + q ∧ p * 4 + q < 16 := by omega
  have hI := hP.1
  have hw := hI.w hr
  have hr2 : 0 ≤ u * 4 + q ∧ u * 4 + q < 16 := by omega
  refine V.iconst (q := 1) F dL_isUnlike_0 rfl ?_
  refine V.istore (q := 3) (lo' := [_, _, _, _, _, _, _, _, _]) F dL_isUnlike_1 rfl (Nat.le_of_ble_eq_true rfl) rfl rfl ?_
  refine V.iconst (q := 4) F dL_isUnlike_3 rfl ?_
  refine V.istore (q := 6) (lo' := [_, _, _, _, _, _, _, _, _]) F dL_isUnlike_4 rfl (Nat.le_of_ble_eq_true rfl) rfl rfl ?_
  have L6 : ∀ (nq : Nat) (i S : Int) (κ : Scr) (hi : 0 ≤ i ∧ i ≤ 48) (hS : S = sz (fun j => absz (shr a (p * 4 + q) j - shr a (u * 4 + q) j)) 0 i), (48 - i).toNat < nq → V X (YL_isUnlike l G) 0 0 6 [some (.ref (A 0)), some (.int (zI p)), some (.int (zI u)), some (.int (zI q)), some (.int (zI k)), some (.int (zI S)), some (.int (zI i)), none, none] [] (WX A G a o s R bb sn t n κ ++ []) := by
    intro n6
    induction n6 with
    | zero => intro i S κ hi hS hm6; exact absurd hm6 (Nat.not_lt_zero _)
    | succ n6 ih6 =>
      intro i S κ hi hS hm6
      refine V.iload (q := 8) F dL_isUnlike_6 rfl rfl ?_
      refine V.bipush (q := 10) F dL_isUnlike_8 rfl (by decide) ?_
      refine V.icmp_ge (q := 13) (tgt := 68) F dL_isUnlike_10 rfl (by decide) (by omega) (fun k10 => ?_) (fun k10 => ?_)
      · have hS2 : S = sz (fun j => absz (shr a (p * 4 + q) j - shr a (u * 4 + q) j)) 0 48 := by rw [hS, show i = 48 by omega]
        refine V.bipush (q := 70) F dL_isUnlike_68 rfl (by decide) ?_
        refine V.istore (q := 72) (lo' := [_, _, _, _, _, _, _, _, _]) F dL_isUnlike_70 rfl (Nat.le_of_ble_eq_true rfl) rfl rfl ?_
        refine V.iconst (q := 73) F dL_isUnlike_72 rfl ?_
        refine V.istore (q := 75) (lo' := [_, _, _, _, _, _, _, _, _]) F dL_isUnlike_73 rfl (Nat.le_of_ble_eq_true rfl) rfl rfl ?_
        refine V.iconst (q := 76) F dL_isUnlike_75 rfl ?_
        refine V.istore (q := 78) (lo' := [_, _, _, _, _, _, _, _, _]) F dL_isUnlike_76 rfl (Nat.le_of_ble_eq_true rfl) rfl rfl ?_
        have L78 : ∀ (nq : Nat) (e M B : Int) (κ : Scr) (he : 0 ≤ e ∧ e ≤ 4) (hM : (M, B) = pvz (fun x => clz a (p * 4 + x) k) e.toNat) (hM2 : 0 ≤ M ∧ M ≤ 159984), (4 - e).toNat < nq → V X (YL_isUnlike l G) 0 0 78 [some (.ref (A 0)), some (.int (zI p)), some (.int (zI u)), some (.int (zI q)), some (.int (zI k)), some (.int (zI S)), some (.int (zI B)), some (.int (zI M)), some (.int (zI e))] [] (WX A G a o s R bb sn t n κ ++ []) := by
          intro n78
          induction n78 with
          | zero => intro e M B κ he hM hM2 hm78; exact absurd hm78 (Nat.not_lt_zero _)
          | succ n78 ih78 =>
            intro e M B κ he hM hM2 hm78
            refine V.iload (q := 80) F dL_isUnlike_78 rfl rfl ?_
            refine V.iconst (q := 81) F dL_isUnlike_80 rfl ?_
            refine V.icmp_ge (q := 84) (tgt := 152) F dL_isUnlike_81 rfl (by decide) (by omega) (fun k81 => ?_) (fun k81 => ?_)
            · have eU2 : rUnl a p u q = if p = u then -2 else S := by rw [hS2]; unfold rUnl; rw [if_neg (by omega)]
              have hSr : 0 ≤ S ∧ S ≤ 100 * (48 - 0) := by
                rw [hS2]
                exact sz_le (by omega) (by omega) (fun j h1 h2 => by
                  have g1 := shr_100 hI hr (p := j) ⟨h1, h2⟩
                  have g2 := shr_100 hI hr2 (p := j) ⟨h1, h2⟩
                  unfold absz; omega)
              have eS : rSea a p k = B := by unfold rSea; rw [if_neg (by omega), show (4 : Nat) = e.toNat by omega, ← hM]
              have hBr := pvz_rng (f := fun x => clz a (p * 4 + x) k) (c := 159984) (by omega) e.toNat (fun j h1 h2 => clz_rng hI (by omega) hk9)
              rw [← hM] at hBr
              have hB2 : -5 ≤ B ∧ B < 4 := ⟨hBr.2.2.1, Int.lt_of_lt_of_le hBr.2.2.2 (by omega)⟩
              refine V.aload_n (q := 153) F dL_isUnlike_152 rfl rfl rfl ?_
              refine V.iload_n (q := 154) F dL_isUnlike_153 rfl rfl rfl ?_
              refine V.iload_n (q := 155) F dL_isUnlike_154 rfl rfl rfl ?_
              refine V.iload_n (q := 156) F dL_isUnlike_155 rfl rfl rfl ?_
              refine V.callX (q := 159) F 27 rfl nd27 dL_isUnlike_156 rfl (c_X6_unlike l G A a κ.1.1 R sn t κ.1.2.1 κ.1.2.2.1 κ.1.2.2.2.1 κ.1.2.2.2.2 κ.2.1.1 κ.2.1.2.1 κ.2.1.2.2 κ.2.2.1.1 κ.2.2.1.2.1 κ.2.2.1.2.2 κ.2.2.2.1.1 κ.2.2.2.1.2.1 κ.2.2.2.1.2.2 o s bb n κ.2.2.2.2.1 κ.2.2.2.2.2.1 κ.2.2.2.2.2.2.1 κ.2.2.2.2.2.2.2.1 κ.2.2.2.2.2.2.2.2.1 κ.2.2.2.2.2.2.2.2.2.1 κ.2.2.2.2.2.2.2.2.2.2.1 κ.2.2.2.2.2.2.2.2.2.2.2 p u q hP.1 hP.2.2.2.1 hP.2.2.2.2 hbb hn ht (by omega) (by omega) (by omega)) gL_isUnlike_X6_unlike rfl rfl ydX6_unlike ⟨Nat.le_of_ble_eq_true rfl, Nat.le_of_ble_eq_true rfl⟩ (ci := 6) rfl rfl rfl rfl (Nat.le_of_ble_eq_true rfl) ⟨Nat.le_of_ble_eq_true rfl, Nat.le_of_ble_eq_true rfl⟩ (fun r9 w9 h9 => ?_)
              obtain ⟨κ, rfl, rfl⟩ := h9
              refine V.eq (pc' := 159) (st' := [_]) (ws' := WX A G a o s R bb sn t n κ ++ []) rfl rfl rfl rfl ?_
              have J171 : ∀ (x171 : Int) (κ : Scr) (hx171 : x171 = if p = u then -2 else S), V X (YL_isUnlike l G) 0 0 171 [some (.ref (A 0)), some (.int (zI p)), some (.int (zI u)), some (.int (zI q)), some (.int (zI k)), some (.int (zI S)), some (.int (zI B)), some (.int (zI M)), some (.int (zI e))] [.int (zI x171), .int (zI (rUnl a p u q))] (WX A G a o s R bb sn t n κ ++ []) := by
                intro x171 κ hx171
                refine V.icmp_ne (q := 174) (tgt := 190) F dL_isUnlike_171 rfl (by decide) (by omega) (fun k171 => by exfalso; omega) (fun k171 => ?_)
                refine V.aload_n (q := 175) F dL_isUnlike_174 rfl rfl rfl ?_
                refine V.iload_n (q := 176) F dL_isUnlike_175 rfl rfl rfl ?_
                refine V.iload (q := 178) F dL_isUnlike_176 rfl rfl ?_
                refine V.callX (q := 181) F 27 rfl nd27 dL_isUnlike_178 rfl (c_X6_seasonOf l G A a κ.1.1 R sn t κ.1.2.1 κ.1.2.2.1 κ.1.2.2.2.1 κ.1.2.2.2.2 κ.2.1.1 κ.2.1.2.1 κ.2.1.2.2 κ.2.2.1.1 κ.2.2.1.2.1 κ.2.2.1.2.2 κ.2.2.2.1.1 κ.2.2.2.1.2.1 κ.2.2.2.1.2.2 o s bb n κ.2.2.2.2.1 κ.2.2.2.2.2.1 κ.2.2.2.2.2.2.1 κ.2.2.2.2.2.2.2.1 κ.2.2.2.2.2.2.2.2.1 κ.2.2.2.2.2.2.2.2.2.1 κ.2.2.2.2.2.2.2.2.2.2.1 κ.2.2.2.2.2.2.2.2.2.2.2 p k hP.1 hP.2.2.2.1 hP.2.2.2.2 hbb hn ht (by omega) (by omega)) gL_isUnlike_X6_seasonOf rfl rfl ydX6_seasonOf ⟨Nat.le_of_ble_eq_true rfl, Nat.le_of_ble_eq_true rfl⟩ (ci := 6) rfl rfl rfl rfl (Nat.le_of_ble_eq_true rfl) ⟨Nat.le_of_ble_eq_true rfl, Nat.le_of_ble_eq_true rfl⟩ (fun r9 w9 h9 => ?_)
                obtain ⟨κ, rfl, rfl⟩ := h9
                refine V.eq (pc' := 181) (st' := [_]) (ws' := WX A G a o s R bb sn t n κ ++ []) rfl rfl rfl rfl ?_
                refine V.iload (q := 183) F dL_isUnlike_181 rfl rfl ?_
                refine V.icmp_ne (q := 186) (tgt := 190) F dL_isUnlike_183 rfl (by decide) (by omega) (fun k183 => by exfalso; omega) (fun k183 => ?_)
                refine V.iconst (q := 187) F dL_isUnlike_186 rfl ?_
                refine V.goto (tgt := 191) F dL_isUnlike_187 (by decide) ?_
                exact V.zret F T (Or.inr rfl) dL_isUnlike_191 ⟨κ, rfl, List.append_nil _⟩ [(A 0), (A 1), (A 2), (A 3), (A 4), (A 5), (A 6), (A 7), (A 8), (A 9), (A 10), (A 11), (A 12), (A 13), (A 14), (A 15), (A 16), (A 17), (A 18), (A 19), (A 20), (A 21), (A 22), (A 23), (A 24), (A 25), (A 26)] rfl rfl
              refine V.iload_n (q := 160) F dL_isUnlike_159 rfl rfl rfl ?_
              refine V.iload_n (q := 161) F dL_isUnlike_160 rfl rfl rfl ?_
              refine V.icmp_ne (q := 164) (tgt := 169) F dL_isUnlike_161 rfl (by decide) (by omega) (fun k161 => ?_) (fun k161 => ?_)
              · refine V.iload (q := 171) F dL_isUnlike_169 rfl rfl ?_
                exact J171 _ _ (by omega)
              · refine V.bipush (q := 166) F dL_isUnlike_164 rfl (by decide) ?_
                refine V.goto (tgt := 171) F dL_isUnlike_166 (by decide) ?_
                exact J171 _ _ (by omega)
            · have hcz := clz_rng hI (r := p * 4 + e) (k := k) (by omega) (by omega)
              have J108 : ∀ (x108 : Int) (κ : Scr) (hx108 : x108 = if M < clz a (p * 4 + e) k then e else B), V X (YL_isUnlike l G) 0 0 108 [some (.ref (A 0)), some (.int (zI p)), some (.int (zI u)), some (.int (zI q)), some (.int (zI k)), some (.int (zI S)), some (.int (zI B)), some (.int (zI M)), some (.int (zI e))] [.int (zI x108)] (WX A G a o s R bb sn t n κ ++ []) := by
                intro x108 κ hx108
                refine V.istore (q := 110) (lo' := [_, _, _, _, _, _, _, _, _]) F dL_isUnlike_108 rfl (Nat.le_of_ble_eq_true rfl) rfl rfl ?_
                have J144 : ∀ (x144 : Int) (κ : Scr) (hx144 : x144 = if M < clz a (p * 4 + e) k then clz a (p * 4 + e) k else M), V X (YL_isUnlike l G) 0 0 144 [some (.ref (A 0)), some (.int (zI p)), some (.int (zI u)), some (.int (zI q)), some (.int (zI k)), some (.int (zI S)), some (.int (zI x108)), some (.int (zI M)), some (.int (zI e))] [.int (zI x144)] (WX A G a o s R bb sn t n κ ++ []) := by
                  intro x144 κ hx144
                  refine V.istore (q := 146) (lo' := [_, _, _, _, _, _, _, _, _]) F dL_isUnlike_144 rfl (Nat.le_of_ble_eq_true rfl) rfl rfl ?_
                  refine V.iinc (q := 149) (lo' := [_, _, _, _, _, _, _, _, _]) F dL_isUnlike_146 rfl rfl (Nat.le_of_ble_eq_true rfl) rfl rfl ?_
                  refine V.goto (tgt := 78) F dL_isUnlike_149 (by decide) ?_
                  have hMn : (x144, x108) = pvz (fun x => clz a (p * 4 + x) k) (e + 1).toNat := by
                    rw [pvz_s _ he.1, ← hM, hx144, hx108]
                    by_cases hc : M < clz a (p * 4 + e) k <;> simp [hc]
                  exact ih78 (e + 1) _ _ _ (by omega) hMn (by omega) (by omega)
                refine V.aload_n (q := 111) F dL_isUnlike_110 rfl rfl rfl ?_
                refine V.iload_n (q := 112) F dL_isUnlike_111 rfl rfl rfl ?_
                refine V.iload (q := 114) F dL_isUnlike_112 rfl rfl ?_
                refine V.bipush (q := 116) F dL_isUnlike_114 rfl (by decide) ?_
                refine V.iload (q := 118) F dL_isUnlike_116 rfl rfl ?_
                refine V.iadd (q := 119) F dL_isUnlike_118 rfl ?_
                refine V.callX (q := 122) F 27 rfl nd27 dL_isUnlike_119 rfl (c_X6_rose l G A a κ.1.1 R sn t κ.1.2.1 κ.1.2.2.1 κ.1.2.2.2.1 κ.1.2.2.2.2 κ.2.1.1 κ.2.1.2.1 κ.2.1.2.2 κ.2.2.1.1 κ.2.2.1.2.1 κ.2.2.1.2.2 κ.2.2.2.1.1 κ.2.2.2.1.2.1 κ.2.2.2.1.2.2 o s bb n κ.2.2.2.2.1 κ.2.2.2.2.2.1 κ.2.2.2.2.2.2.1 κ.2.2.2.2.2.2.2.1 κ.2.2.2.2.2.2.2.2.1 κ.2.2.2.2.2.2.2.2.2.1 κ.2.2.2.2.2.2.2.2.2.2.1 κ.2.2.2.2.2.2.2.2.2.2.2 p e (6 + k) hP.1 hP.2.2.2.1 hP.2.2.2.2 hbb hn ht (by omega) (by omega) (by omega)) gL_isUnlike_X6_rose rfl rfl ydX6_rose ⟨Nat.le_of_ble_eq_true rfl, Nat.le_of_ble_eq_true rfl⟩ (ci := 6) rfl rfl rfl rfl (Nat.le_of_ble_eq_true rfl) ⟨Nat.le_of_ble_eq_true rfl, Nat.le_of_ble_eq_true rfl⟩ (fun r9 w9 h9 => ?_)
                rw [rRose_c (a := a) (p := p) (q := e) (by omega) (by omega) (k := k) (by omega)] at h9
                obtain ⟨κ, rfl, rfl⟩ := h9
                refine V.eq (pc' := 122) (st' := [_]) (ws' := WX A G a o s R bb sn t n κ ++ []) rfl rfl rfl rfl ?_
                refine V.iload (q := 124) F dL_isUnlike_122 rfl rfl ?_
                refine V.icmp_le (q := 127) (tgt := 142) F dL_isUnlike_124 rfl (by decide) (by omega) (fun k124 => ?_) (fun k124 => ?_)
                · refine V.iload (q := 144) F dL_isUnlike_142 rfl rfl ?_
                  exact J144 _ _ (by omega)
                · refine V.aload_n (q := 128) F dL_isUnlike_127 rfl rfl rfl ?_
                  refine V.iload_n (q := 129) F dL_isUnlike_128 rfl rfl rfl ?_
                  refine V.iload (q := 131) F dL_isUnlike_129 rfl rfl ?_
                  refine V.bipush (q := 133) F dL_isUnlike_131 rfl (by decide) ?_
                  refine V.iload (q := 135) F dL_isUnlike_133 rfl rfl ?_
                  refine V.iadd (q := 136) F dL_isUnlike_135 rfl ?_
                  refine V.callX (q := 139) F 27 rfl nd27 dL_isUnlike_136 rfl (c_X6_rose l G A a κ.1.1 R sn t κ.1.2.1 κ.1.2.2.1 κ.1.2.2.2.1 κ.1.2.2.2.2 κ.2.1.1 κ.2.1.2.1 κ.2.1.2.2 κ.2.2.1.1 κ.2.2.1.2.1 κ.2.2.1.2.2 κ.2.2.2.1.1 κ.2.2.2.1.2.1 κ.2.2.2.1.2.2 o s bb n κ.2.2.2.2.1 κ.2.2.2.2.2.1 κ.2.2.2.2.2.2.1 κ.2.2.2.2.2.2.2.1 κ.2.2.2.2.2.2.2.2.1 κ.2.2.2.2.2.2.2.2.2.1 κ.2.2.2.2.2.2.2.2.2.2.1 κ.2.2.2.2.2.2.2.2.2.2.2 p e (6 + k) hP.1 hP.2.2.2.1 hP.2.2.2.2 hbb hn ht (by omega) (by omega) (by omega)) gL_isUnlike_X6_rose rfl rfl ydX6_rose ⟨Nat.le_of_ble_eq_true rfl, Nat.le_of_ble_eq_true rfl⟩ (ci := 6) rfl rfl rfl rfl (Nat.le_of_ble_eq_true rfl) ⟨Nat.le_of_ble_eq_true rfl, Nat.le_of_ble_eq_true rfl⟩ (fun r9 w9 h9 => ?_)
                  rw [rRose_c (a := a) (p := p) (q := e) (by omega) (by omega) (k := k) (by omega)] at h9
                  obtain ⟨κ, rfl, rfl⟩ := h9
                  refine V.eq (pc' := 139) (st' := [_]) (ws' := WX A G a o s R bb sn t n κ ++ []) rfl rfl rfl rfl ?_
                  refine V.goto (tgt := 144) F dL_isUnlike_139 (by decide) ?_
                  exact J144 _ _ (by omega)
              refine V.aload_n (q := 85) F dL_isUnlike_84 rfl rfl rfl ?_
              refine V.iload_n (q := 86) F dL_isUnlike_85 rfl rfl rfl ?_
              refine V.iload (q := 88) F dL_isUnlike_86 rfl rfl ?_
              refine V.bipush (q := 90) F dL_isUnlike_88 rfl (by decide) ?_
              refine V.iload (q := 92) F dL_isUnlike_90 rfl rfl ?_
              refine V.iadd (q := 93) F dL_isUnlike_92 rfl ?_
              refine V.callX (q := 96) F 27 rfl nd27 dL_isUnlike_93 rfl (c_X6_rose l G A a κ.1.1 R sn t κ.1.2.1 κ.1.2.2.1 κ.1.2.2.2.1 κ.1.2.2.2.2 κ.2.1.1 κ.2.1.2.1 κ.2.1.2.2 κ.2.2.1.1 κ.2.2.1.2.1 κ.2.2.1.2.2 κ.2.2.2.1.1 κ.2.2.2.1.2.1 κ.2.2.2.1.2.2 o s bb n κ.2.2.2.2.1 κ.2.2.2.2.2.1 κ.2.2.2.2.2.2.1 κ.2.2.2.2.2.2.2.1 κ.2.2.2.2.2.2.2.2.1 κ.2.2.2.2.2.2.2.2.2.1 κ.2.2.2.2.2.2.2.2.2.2.1 κ.2.2.2.2.2.2.2.2.2.2.2 p e (6 + k) hP.1 hP.2.2.2.1 hP.2.2.2.2 hbb hn ht (by omega) (by omega) (by omega)) gL_isUnlike_X6_rose rfl rfl ydX6_rose ⟨Nat.le_of_ble_eq_true rfl, Nat.le_of_ble_eq_true rfl⟩ (ci := 6) rfl rfl rfl rfl (Nat.le_of_ble_eq_true rfl) ⟨Nat.le_of_ble_eq_true rfl, Nat.le_of_ble_eq_true rfl⟩ (fun r9 w9 h9 => ?_)
              rw [rRose_c (a := a) (p := p) (q := e) (by omega) (by omega) (k := k) (by omega)] at h9
              obtain ⟨κ, rfl, rfl⟩ := h9
              refine V.eq (pc' := 96) (st' := [_]) (ws' := WX A G a o s R bb sn t n κ ++ []) rfl rfl rfl rfl ?_
              refine V.iload (q := 98) F dL_isUnlike_96 rfl rfl ?_
              refine V.icmp_le (q := 101) (tgt := 106) F dL_isUnlike_98 rfl (by decide) (by omega) (fun k98 => ?_) (fun k98 => ?_)
              · refine V.iload (q := 108) F dL_isUnlike_106 rfl rfl ?_
                exact J108 _ _ (by omega)
              · refine V.iload (q := 103) F dL_isUnlike_101 rfl rfl ?_
                refine V.goto (tgt := 108) F dL_isUnlike_103 (by decide) ?_
                exact J108 _ _ (by omega)
        exact L78 _ 0 0 (-5) _ (by omega) rfl (by omega) (Nat.lt_succ_self _)
      · have g1 := shr_100 hI hr (p := i) (by omega)
        have g2 := shr_100 hI hr2 (p := i) (by omega)
        refine V.aload_n (q := 14) F dL_isUnlike_13 rfl rfl rfl ?_
        refine V.iload_n (q := 15) F dL_isUnlike_14 rfl rfl rfl ?_
        refine V.iload_n (q := 16) F dL_isUnlike_15 rfl rfl rfl ?_
        refine V.iload (q := 18) F dL_isUnlike_16 rfl rfl ?_
        refine V.iconst (q := 19) F dL_isUnlike_18 rfl ?_
        refine V.idiv (q := 20) F dL_isUnlike_19 rfl ⟨by omega, by omega⟩ ?_
        refine V.iload (q := 22) F dL_isUnlike_20 rfl rfl ?_
        refine V.iconst (q := 23) F dL_isUnlike_22 rfl ?_
        refine V.irem (q := 24) F dL_isUnlike_23 rfl ⟨by omega, by omega⟩ ?_
        refine V.callX (q := 27) F 27 rfl nd27 dL_isUnlike_24 rfl (c_X6_share l G A a κ.1.1 R sn t κ.1.2.1 κ.1.2.2.1 κ.1.2.2.2.1 κ.1.2.2.2.2 κ.2.1.1 κ.2.1.2.1 κ.2.1.2.2 κ.2.2.1.1 κ.2.2.1.2.1 κ.2.2.1.2.2 κ.2.2.2.1.1 κ.2.2.2.1.2.1 κ.2.2.2.1.2.2 o s bb n κ.2.2.2.2.1 κ.2.2.2.2.2.1 κ.2.2.2.2.2.2.1 κ.2.2.2.2.2.2.2.1 κ.2.2.2.2.2.2.2.2.1 κ.2.2.2.2.2.2.2.2.2.1 κ.2.2.2.2.2.2.2.2.2.2.1 κ.2.2.2.2.2.2.2.2.2.2.2 p q (i / 3) (i % 3) hP.1 hP.2.2.2.1 hP.2.2.2.2 hbb hn ht (by omega) (by omega) (by omega) (by omega)) gL_isUnlike_X6_share rfl rfl ydX6_share ⟨Nat.le_of_ble_eq_true rfl, Nat.le_of_ble_eq_true rfl⟩ (ci := 6) rfl rfl rfl rfl (Nat.le_of_ble_eq_true rfl) ⟨Nat.le_of_ble_eq_true rfl, Nat.le_of_ble_eq_true rfl⟩ (fun r9 w9 h9 => ?_)
        rw [rShare_i (a := a) (p := p) (q := q) (by omega) (by omega) (i := i) (by omega)] at h9
        obtain ⟨κ, rfl, rfl⟩ := h9
        refine V.eq (pc' := 27) (st' := [_]) (ws' := WX A G a o s R bb sn t n κ ++ []) rfl rfl rfl rfl ?_
        refine V.aload_n (q := 28) F dL_isUnlike_27 rfl rfl rfl ?_
        refine V.iload_n (q := 29) F dL_isUnlike_28 rfl rfl rfl ?_
        refine V.iload_n (q := 30) F dL_isUnlike_29 rfl rfl rfl ?_
        refine V.iload (q := 32) F dL_isUnlike_30 rfl rfl ?_
        refine V.iconst (q := 33) F dL_isUnlike_32 rfl ?_
        refine V.idiv (q := 34) F dL_isUnlike_33 rfl ⟨by omega, by omega⟩ ?_
        refine V.iload (q := 36) F dL_isUnlike_34 rfl rfl ?_
        refine V.iconst (q := 37) F dL_isUnlike_36 rfl ?_
        refine V.irem (q := 38) F dL_isUnlike_37 rfl ⟨by omega, by omega⟩ ?_
        refine V.callX (q := 41) F 27 rfl nd27 dL_isUnlike_38 rfl (c_X6_share l G A a κ.1.1 R sn t κ.1.2.1 κ.1.2.2.1 κ.1.2.2.2.1 κ.1.2.2.2.2 κ.2.1.1 κ.2.1.2.1 κ.2.1.2.2 κ.2.2.1.1 κ.2.2.1.2.1 κ.2.2.1.2.2 κ.2.2.2.1.1 κ.2.2.2.1.2.1 κ.2.2.2.1.2.2 o s bb n κ.2.2.2.2.1 κ.2.2.2.2.2.1 κ.2.2.2.2.2.2.1 κ.2.2.2.2.2.2.2.1 κ.2.2.2.2.2.2.2.2.1 κ.2.2.2.2.2.2.2.2.2.1 κ.2.2.2.2.2.2.2.2.2.2.1 κ.2.2.2.2.2.2.2.2.2.2.2 u q (i / 3) (i % 3) hP.1 hP.2.2.2.1 hP.2.2.2.2 hbb hn ht (by omega) (by omega) (by omega) (by omega)) gL_isUnlike_X6_share rfl rfl ydX6_share ⟨Nat.le_of_ble_eq_true rfl, Nat.le_of_ble_eq_true rfl⟩ (ci := 6) rfl rfl rfl rfl (Nat.le_of_ble_eq_true rfl) ⟨Nat.le_of_ble_eq_true rfl, Nat.le_of_ble_eq_true rfl⟩ (fun r9 w9 h9 => ?_)
        rw [rShare_i (a := a) (p := u) (q := q) (by omega) (by omega) (i := i) (by omega)] at h9
        obtain ⟨κ, rfl, rfl⟩ := h9
        refine V.eq (pc' := 41) (st' := [_, _]) (ws' := WX A G a o s R bb sn t n κ ++ []) rfl rfl rfl rfl ?_
        refine V.isub (q := 42) F dL_isUnlike_41 rfl ?_
        refine V.istore (q := 44) (lo' := [_, _, _, _, _, _, _, _, _]) F dL_isUnlike_42 rfl (Nat.le_of_ble_eq_true rfl) rfl rfl ?_
        refine V.iload (q := 46) F dL_isUnlike_44 rfl rfl ?_
        have J59 : ∀ (x59 : Int) (κ : Scr) (hx59 : x59 = absz (shr a (p * 4 + q) i - shr a (u * 4 + q) i)), V X (YL_isUnlike l G) 0 0 59 [some (.ref (A 0)), some (.int (zI p)), some (.int (zI u)), some (.int (zI q)), some (.int (zI k)), some (.int (zI S)), some (.int (zI i)), some (.int (zI ((shr a (p * 4 + q) i) - (shr a (u * 4 + q) i)))), none] [.int (zI x59), .int (zI S)] (WX A G a o s R bb sn t n κ ++ []) := by
          intro x59 κ hx59
          refine V.iadd (q := 60) F dL_isUnlike_59 rfl ?_
          refine V.istore (q := 62) (lo' := [_, _, _, _, _, _, _, _, _]) F dL_isUnlike_60 rfl (Nat.le_of_ble_eq_true rfl) rfl rfl ?_
          refine V.iinc (q := 65) (lo' := [_, _, _, _, _, _, _, _, _]) F dL_isUnlike_62 rfl rfl (Nat.le_of_ble_eq_true rfl) rfl rfl ?_
          refine V.goto (tgt := 6) F dL_isUnlike_65 (by decide) ?_
          refine V.mask [true, true, true, true, true, true, true, false, true] (lo' := [_, _, _, _, _, _, _, _, _]) rfl ?_
          exact ih6 (i + 1) _ _ (by omega) (by rw [sz_succ _ hi.1, ← hS, hx59]) (by omega)
        refine V.iload (q := 48) F dL_isUnlike_46 rfl rfl ?_
        refine V.if_ge (q := 51) (tgt := 57) F dL_isUnlike_48 rfl (by decide) (by omega) (fun k48 => ?_) (fun k48 => ?_)
        · refine V.iload (q := 59) F dL_isUnlike_57 rfl rfl ?_
          exact J59 _ _ (by unfold absz; omega)
        · refine V.iload (q := 53) F dL_isUnlike_51 rfl rfl ?_
          refine V.ineg (q := 54) F dL_isUnlike_53 rfl ?_
          refine V.goto (tgt := 59) F dL_isUnlike_54 (by decide) ?_
          exact J59 _ _ (by unfold absz; omega)
  exact L6 _ 0 0 _ (by omega) (sz_self _ _).symm (Nat.lt_succ_self _)

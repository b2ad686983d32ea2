def rRose (a : Int → Int) (p q w : Int) : Int := if ¬ ((0 ≤ p ∧ p ≤ 3) ∧ (0 ≤ q ∧ q ≤ 3)) then -1 else if w = 0 then a (25344 + (p * 4 + q)) + a (25360 + (p * 4 + q)) else if w = 1 then a (25344 + (p * 4 + q)) else if w = 2 then a (25360 + (p * 4 + q)) else if w = 3 then cshz a (p * 4 + q) else if w = 4 then gsz a (p * 4 + q) 99 else if w = 5 then meanz a (p * 4 + q) else if 6 ≤ w ∧ w ≤ 8 then clz a (p * 4 + q) (w - 6) else if w = 9 then prevz a (p * 4 + q) else -2
def rHours (a : Int → Int) (p q d k : Int) : Int := if ¬ (((0 ≤ p ∧ p ≤ 3) ∧ (0 ≤ q ∧ q ≤ 3)) ∧ (0 ≤ d ∧ d ≤ 15)) then -1 else if k = 3 then hbz a (p * 4 + q) d 1 100 else if 0 ≤ k ∧ k ≤ 2 then phz a (p * 4 + q) d k else -1
def rShare (a : Int → Int) (p q d k : Int) : Int := if ((0 ≤ p ∧ p ≤ 3) ∧ (0 ≤ q ∧ q ≤ 3)) ∧ (0 ≤ d ∧ d ≤ 15) ∧ (0 ≤ k ∧ k ≤ 2) then shr a (p * 4 + q) (d * 3 + k) else -1
def dez (a : Int → Int) (r p : Int) : Int := (dlN (srm a r) (shq a r, fun _ => 0) (mis a r).toNat).1 p
def rDealt (a : Int → Int) (p q d k : Int) : Int := if ((0 ≤ p ∧ p ≤ 3) ∧ (0 ≤ q ∧ q ≤ 3)) ∧ (0 ≤ d ∧ d ≤ 15) ∧ (0 ≤ k ∧ k ≤ 2) then dez a (p * 4 + q) (d * 3 + k) else -1
def hoz1 (a : Int → Int) (r d : Int) : Int := hbz a r (d % 16) 1 100
def rQuar (a : Int → Int) (p q k : Int) : Int := if ¬ (((0 ≤ p ∧ p ≤ 3) ∧ (0 ≤ q ∧ q ≤ 3)) ∧ (0 ≤ k ∧ k ≤ 3)) then -1 else hoz1 a (p * 4 + q) (k * 4 - 1) + hoz1 a (p * 4 + q) (k * 4) + hoz1 a (p * 4 + q) (k * 4 + 1) + (hoz1 a (p * 4 + q) (k * 4 - 2) + hoz1 a (p * 4 + q) (k * 4 + 2)) / 2
def rExc (a : Int → Int) (p q d : Int) : Int := if ¬ (((0 ≤ p ∧ p ≤ 3) ∧ (0 ≤ q ∧ q ≤ 3)) ∧ (0 ≤ d ∧ d ≤ 15)) then -1 else if 0 < hoz1 a (p * 4 + q) d - hoz1 a (p * 4 + q) (d + 8) then hoz1 a (p * 4 + q) d - hoz1 a (p * 4 + q) (d + 8) else 0
def rUnl (a : Int → Int) (p u q : Int) : Int := if ¬ (((0 ≤ p ∧ p ≤ 3) ∧ (0 ≤ q ∧ q ≤ 3)) ∧ ((0 ≤ u ∧ u ≤ 3) ∧ (0 ≤ q ∧ q ≤ 3))) then -1 else if p = u then -2 else sz (fun j => absz (shr a (p * 4 + q) j - shr a (u * 4 + q) j)) 0 48
def rSea (a : Int → Int) (p k : Int) : Int := if ¬ ((0 ≤ p ∧ p ≤ 3) ∧ (0 ≤ k ∧ k ≤ 2)) then -1 else (pvz (fun s => clz a (p * 4 + s) k) 4).2
def rPlate (a : Int → Int) (p q w : Int) : Int := if ¬ ((0 ≤ p ∧ p ≤ 3) ∧ (0 ≤ q ∧ q ≤ 3)) then -1 else if w = 0 then a (26144 + (p * 4 + q)) else if w = 1 then a (26160 + (p * 4 + q)) else if w = 2 then cutz a (p * 4 + q) else if w = 3 then longz a (p * 4 + q) else if w = 4 then disz a (p * 4 + q) else if w = 5 then scrz a (p * 4 + q) else -2
def rPetal (a : Int → Int) (p q d k : Int) : Int := if ((0 ≤ p ∧ p ≤ 3) ∧ (0 ≤ q ∧ q ≤ 3)) ∧ (0 ≤ d ∧ d ≤ 15) ∧ (0 ≤ k ∧ k ≤ 2) then a (25376 + (p * 4 + q) * 48 + (d * 3 + k)) else -1
def rReas (a : Int → Int) (p q : Int) : Int := if (0 ≤ p ∧ p ≤ 3) ∧ (0 ≤ q ∧ q ≤ 3) then obsz a (p * 4 + q) else -1
def nxf (a : Int → Int) (r : Int) : Int := if obsz a r = 0 then disz a r else 0
def rNext (a : Int → Int) : Int := (pvz (nxf a) 16).2
def rCount (a : Int → Int) (s n w : Int) : Int := if w = 0 then sumz a 25344 + sumz a 25360 else if w = 1 then sumz a 25360 else if w = 2 then pnad a 16 else if w = 3 then sumz a 26160 else if w = 4 then a 26179 else if w = 5 then a 26180 else if 6 ≤ w ∧ w ≤ 8 then a (26176 + (w - 6)) else if w = 9 then s else if w = 10 then n else -2
theorem clz_rng {a : Int → Int} (h : Inv a) {r k : Int} (hr : 0 ≤ r ∧ r < 16) (hk : 0 ≤ k ∧ k ≤ 2) : 0 ≤ clz a r k ∧ clz a r k ≤ 159984 := by
  have := sz_le (f := fun d => phz a r d k) (a := 0) (b := 16) (c := 9999) (by omega) (by omega) (fun j h1 h2 => by
    have h3 := phz_rng h hr (d := j) (k := k) ⟨h1, h2⟩ hk
    have h4 := h.w hr
    omega)
  exact ⟨this.1, by unfold clz; omega⟩
theorem nxf_rng {a : Int → Int} (h : Inv a) {r : Int} (hr : 0 ≤ r ∧ r < 16) : 0 ≤ nxf a r ∧ nxf a r ≤ 1000000 := by
  have := disz_rng h hr
  unfold nxf
  split <;> omega
theorem hoz1_rng {a : Int → Int} (h : Inv a) {r : Int} (hr : 0 ≤ r ∧ r < 16) (d : Int) : 0 ≤ hoz1 a r d ∧ hoz1 a r d ≤ 9999 := dirH_rng h hr (by omega)
theorem bsi_congr {m m' g g' : Int → Int} (h : ∀ j, 0 ≤ j → j < 48 → m j = m' j ∧ g j = g' j) : ∀ i : Nat, i ≤ 48 → bsi m g i = bsi m' g' i
  | 0, _ => rfl
  | i + 1, hi => by
    have ih := bsi_congr h i (by omega)
    have h1 := h (i : Int) (by omega) (by omega)
    have hr := bsi_rng m' g' i
    rw [bsi, bsi, ih, h1.1, h1.2]
    by_cases hb : bsi m' g' i < 0
    · have e1 : (g' (i : Int) = 0 ∧ (bsi m' g' i < 0 ∨ m (bsi m' g' i) < m' (i : Int))) ↔ (g' (i : Int) = 0 ∧ (bsi m' g' i < 0 ∨ m' (bsi m' g' i) < m' (i : Int))) := by
        constructor <;> exact fun z => ⟨z.1, Or.inl hb⟩
      simp only [e1]
    · rw [(h (bsi m' g' i) (by omega) (by omega)).1]
theorem dlN_congr {m m' : Int → Int} {s s' : (Int → Int) × (Int → Int)} (h : ∀ j, 0 ≤ j → j < 48 → m j = m' j) (hs : ∀ j, 0 ≤ j → j < 48 → s.1 j = s'.1 j ∧ s.2 j = s'.2 j) : ∀ n : Nat, ∀ j, 0 ≤ j → j < 48 → (dlN m s n).1 j = (dlN m' s' n).1 j ∧ (dlN m s n).2 j = (dlN m' s' n).2 j
  | 0 => hs
  | n + 1 => by
    intro j h1 h2
    have ih := dlN_congr h hs n
    have eb : bsi m (dlN m s n).2 48 = bsi m' (dlN m' s' n).2 48 := bsi_congr (fun j h1 h2 => ⟨h j h1 h2, (ih j h1 h2).2⟩) 48 (Nat.le_refl _)
    have hr := bsi_rng m' (dlN m' s' n).2 48
    rw [dlN, dlN, dlS, dlS, eb]
    by_cases hb : 0 ≤ bsi m' (dlN m' s' n).2 48
    · rw [if_pos hb, if_pos hb]
      have e1 := (ih _ hb (by omega)).1
      simp only [upz]
      by_cases hj : j = bsi m' (dlN m' s' n).2 48
      · rw [if_pos hj, if_pos hj, if_pos hj, if_pos hj, e1]; exact ⟨rfl, rfl⟩
      · rw [if_neg hj, if_neg hj, if_neg hj, if_neg hj]; exact ih j h1 h2
    · rw [if_neg hb, if_neg hb]; exact ih j h1 h2

abbrev YX6_rose (l : Launch) (G : Gx) : Sx := (cX6_rose, 5, RX6, wsX6_rose, rmD 4, l, G)
theorem ydX6_rose : ydOk yX6_rose 3 := by decide +kernel
theorem inX6_rose_X6 : ∀ w ∈ wsX60, w ∈ wsX6_rose := fun _ h => List.mem_cons_of_mem _ (List.mem_append_left _ (List.mem_append_right _ h))
set_option maxHeartbeats 1000000 in
set_option maxRecDepth 20000 in
theorem c_X6_rose (l : Launch) (G : Gx) (A : Nat → Nat) (a tt R sn t rs ds ss hs f1 m1 g1 f2 m2 g2 f3 m3 g3 : Int → Int) (o s bb n E P mi1 mi2 mi3 df dq sc p q w : Int) (hI : Inv a) (ho : 0 ≤ o ∧ o < 4) (hq : 0 ≤ s ∧ s ≤ 4) (hbb : 0 ≤ bb ∧ bb ≤ 1) (hn : 0 ≤ n ∧ n ≤ 80) (ht : ∀ j, 0 ≤ t j ∧ t j < 65536) (hrp : -2147483648 ≤ p ∧ p < 2147483648) (hrq : -2147483648 ≤ q ∧ q < 2147483648) (hrw : -2147483648 ≤ w ∧ w < 2147483648) : Ct l G yX6_rose wsX6_rose (rmD 4) [.ref (A 0), .int (zI p), .int (zI q), .int (zI w)] [((A 0), .inr (6, [.ref (A 1), .ref (A 4), .ref (A 6), .int (zI bb), .ref (A 9), .ref (A 7), .ref (A 14), .ref (A 18), .ref (A 22)])), ((A 1), .inr (0, [.ref (A 2), .ref (A 3)])), ((A 2), aI G 26181 a), ((A 3), aI G 1584 tt), ((A 4), .inr (2, [.ref (A 5), .int (zI o), .int (zI s)])), ((A 5), aI G 104724 R), ((A 6), aI G 26181 sn), ((A 7), .inr (5, [.ref (A 8), .int (zI n)])), ((A 8), aC G 80 t), ((A 9), .inr (3, [.ref (A 7), .ref (A 10), .ref (A 11), .ref (A 12), .ref (A 13), .int (zI E), .int (zI P)])), ((A 10), aI G 16 rs), ((A 11), aI G 16 ds), ((A 12), aI G 16 ss), ((A 13), aI G 16 hs), ((A 14), .inr (4, [.ref (A 15), .ref (A 16), .ref (A 17), .int (zI mi1)])), ((A 15), aI G 48 f1), ((A 16), aI G 48 m1), ((A 17), aZ G 48 g1), ((A 18), .inr (4, [.ref (A 19), .ref (A 20), .ref (A 21), .int (zI mi2)])), ((A 19), aI G 48 f2), ((A 20), aI G 48 m2), ((A 21), aZ G 48 g2), ((A 22), .inr (1, [.ref (A 23), .int (zI df), .int (zI dq), .int (zI sc)])), ((A 23), .inr (4, [.ref (A 24), .ref (A 25), .ref (A 26), .int (zI mi3)])), ((A 24), aI G 48 f3), ((A 25), aI G 48 m3), ((A 26), aZ G 48 g3)] (RdX A G a o s R bb sn t n (rRose a p q w)) := by
  refine Ct.intro (cc := cX6_rose) (maxL := 5) (ret := (some .int)) (lo0 := [some (.ref (A 0)), some (.int (zI p)), some (.int (zI q)), some (.int (zI w)), none]) (by decide +kernel) rfl ⟨rfl, rfl⟩ (Nat.le_of_ble_eq_true rfl) rfl ?_
  intro X F T
  change Fx X (YX6_rose l G) at F
  change V X (YX6_rose l G) 0 0 0 _ _ _
  refine V.iload_n (q := 1) F dX6_rose_0 rfl rfl rfl ?_
  refine V.iload_n (q := 2) F dX6_rose_1 rfl rfl rfl ?_
  refine V.callS (q := 5) F [] dX6_rose_2 rfl (c_X6_isRose l G  _ _ (by omega) (by omega)) gX6_rose_X6_isRose rfl ydX6_isRose ⟨Nat.le_of_ble_eq_true rfl, Nat.le_of_ble_eq_true rfl⟩ rfl rfl (Nat.le_of_ble_eq_true rfl) rfl rfl ⟨Nat.zero_le _, Nat.zero_le _⟩ (kkf (st' := [_]) (ws' := [_, _, _, _, _, _, _, _, _, _, _, _, _, _, _, _, _, _, _, _, _, _, _, _, _, _, _]) rfl rfl ?_)
  refine V.if_ne (q := 8) (tgt := 10) F dX6_rose_5 rfl (by decide) (by omega) (fun k5 => ?_) (fun k5 => ?_)
  · refine V.iload_n (q := 11) F dX6_rose_10 rfl rfl rfl ?_
    refine V.iload_n (q := 12) F dX6_rose_11 rfl rfl rfl ?_
    refine V.callS (q := 15) F [] dX6_rose_12 rfl (c_X6_roseOf l G  _ _ ) gX6_rose_X6_roseOf rfl ydX6_roseOf ⟨Nat.le_of_ble_eq_true rfl, Nat.le_of_ble_eq_true rfl⟩ rfl rfl (Nat.le_of_ble_eq_true rfl) rfl rfl ⟨Nat.zero_le _, Nat.zero_le _⟩ (kkf (st' := [_]) (ws' := [_, _, _, _, _, _, _, _, _, _, _, _, _, _, _, _, _, _, _, _, _, _, _, _, _, _, _]) rfl rfl ?_)
    refine V.istore (q := 17) (lo' := [_, _, _, _, _]) F dX6_rose_15 rfl (Nat.le_of_ble_eq_true rfl) rfl rfl ?_
    have hr : 0 ≤ p * 4 + q ∧ p * 4 + q < 16 := by omega
    have hw := hI.w hr
    have hset := hI.s
    refine V.iload_n (q := 18) F dX6_rose_17 rfl rfl rfl ?_
    rcases (show w = 0 ∨ w = 1 ∨ w = 2 ∨ w = 3 ∨ w = 4 ∨ w = 5 ∨ w = 6 ∨ w = 7 ∨ w = 8 ∨ w = 9 ∨ (w < 0 ∨ 9 < w) by omega) with rfl | rfl | rfl | rfl | rfl | rfl | rfl | rfl | rfl | rfl | hsw
    · refine V.tswIn (tgt := 72) F dX6_rose_18 (by decide) (by decide) (by decide) rfl (by decide) ?_
      refine V.aload_n (q := 73) F dX6_rose_72 rfl rfl rfl ?_
      refine V.get (q := 76) F 0 0 dX6_rose_73 rfl rfl rfl inX6_rose_X6 (by decide) (List.mem_of_getElem? (i := 1) rfl) rfl ?_
      refine V.iload (q := 78) F dX6_rose_76 rfl rfl ?_
      refine V.callV (q := 81) F [1, 2] 1 dX6_rose_78 rfl (c_X0_allHours l G (A 1) (A 2) (A 3) _ _ (by omega)) gX6_rose_X0_allHours rfl rfl ydX0_allHours ⟨Nat.le_of_ble_eq_true rfl, Nat.le_of_ble_eq_true rfl⟩ (ci := 0) rfl rfl rfl rfl (Nat.le_of_ble_eq_true rfl) rfl rfl ⟨Nat.zero_le _, Nat.zero_le _⟩ (kkf (st' := [_]) (ws' := [_, _, _, _, _, _, _, _, _, _, _, _, _, _, _, _, _, _, _, _, _, _, _, _, _, _, _]) rfl rfl ?_)
      exact V.iret F T dX6_rose_81 ⟨⟨(_, _, _, _, _), (_, _, _), (_, _, _), (_, _, _), (_, _, _, _, _, _, _, _)⟩, (iEq (by unfold rRose; first | omega | (simp; done) | (simp; omega))), rfl⟩ [(A 0), (A 1), (A 2), (A 3), (A 4), (A 5), (A 6), (A 7), (A 8), (A 9), (A 10), (A 11), (A 12), (A 13), (A 14), (A 15), (A 16), (A 17), (A 18), (A 19), (A 20), (A 21), (A 22), (A 23), (A 24), (A 25), (A 26)] rfl rfl
    · refine V.tswIn (tgt := 82) F dX6_rose_18 (by decide) (by decide) (by decide) rfl (by decide) ?_
      refine V.aload_n (q := 83) F dX6_rose_82 rfl rfl rfl ?_
      refine V.get (q := 86) F 0 0 dX6_rose_83 rfl rfl rfl inX6_rose_X6 (by decide) (List.mem_of_getElem? (i := 1) rfl) rfl ?_
      refine V.iload (q := 88) F dX6_rose_86 rfl rfl ?_
      refine V.callV (q := 91) F [1, 2] 1 dX6_rose_88 rfl (c_X0_windyHours l G (A 1) (A 2) (A 3) _ _ (by omega)) gX6_rose_X0_windyHours rfl rfl ydX0_windyHours ⟨Nat.le_of_ble_eq_true rfl, Nat.le_of_ble_eq_true rfl⟩ (ci := 0) rfl rfl rfl rfl (Nat.le_of_ble_eq_true rfl) rfl rfl ⟨Nat.zero_le _, Nat.zero_le _⟩ (kkf (st' := [_]) (ws' := [_, _, _, _, _, _, _, _, _, _, _, _, _, _, _, _, _, _, _, _, _, _, _, _, _, _, _]) rfl rfl ?_)
      exact V.iret F T dX6_rose_91 ⟨⟨(_, _, _, _, _), (_, _, _), (_, _, _), (_, _, _), (_, _, _, _, _, _, _, _)⟩, (iEq (by unfold rRose; first | omega | (simp; done) | (simp; omega))), rfl⟩ [(A 0), (A 1), (A 2), (A 3), (A 4), (A 5), (A 6), (A 7), (A 8), (A 9), (A 10), (A 11), (A 12), (A 13), (A 14), (A 15), (A 16), (A 17), (A 18), (A 19), (A 20), (A 21), (A 22), (A 23), (A 24), (A 25), (A 26)] rfl rfl
    · refine V.tswIn (tgt := 92) F dX6_rose_18 (by decide) (by decide) (by decide) rfl (by decide) ?_
      refine V.aload_n (q := 93) F dX6_rose_92 rfl rfl rfl ?_
      refine V.get (q := 96) F 0 0 dX6_rose_93 rfl rfl rfl inX6_rose_X6 (by decide) (List.mem_of_getElem? (i := 1) rfl) rfl ?_
      refine V.iload (q := 98) F dX6_rose_96 rfl rfl ?_
      refine V.callV (q := 101) F [1, 2] 1 dX6_rose_98 rfl (c_X0_calmHours l G (A 1) (A 2) (A 3) _ _ (by omega)) gX6_rose_X0_calmHours rfl rfl ydX0_calmHours ⟨Nat.le_of_ble_eq_true rfl, Nat.le_of_ble_eq_true rfl⟩ (ci := 0) rfl rfl rfl rfl (Nat.le_of_ble_eq_true rfl) rfl rfl ⟨Nat.zero_le _, Nat.zero_le _⟩ (kkf (st' := [_]) (ws' := [_, _, _, _, _, _, _, _, _, _, _, _, _, _, _, _, _, _, _, _, _, _, _, _, _, _, _]) rfl rfl ?_)
      exact V.iret F T dX6_rose_101 ⟨⟨(_, _, _, _, _), (_, _, _), (_, _, _), (_, _, _), (_, _, _, _, _, _, _, _)⟩, (iEq (by unfold rRose; first | omega | (simp; done) | (simp; omega))), rfl⟩ [(A 0), (A 1), (A 2), (A 3), (A 4), (A 5), (A 6), (A 7), (A 8), (A 9), (A 10), (A 11), (A 12), (A 13), (A 14), (A 15), (A 16), (A 17), (A 18), (A 19), (A 20), (A 21), (A 22), (A 23), (A 24), (A 25), (A 26)] rfl rfl
    · refine V.tswIn (tgt := 102) F dX6_rose_18 (by decide) (by decide) (by decide) rfl (by decide) ?_
      refine V.aload_n (q := 103) F dX6_rose_102 rfl rfl rfl ?_
      refine V.get (q := 106) F 0 0 dX6_rose_103 rfl rfl rfl inX6_rose_X6 (by decide) (List.mem_of_getElem? (i := 1) rfl) rfl ?_
      refine V.iload (q := 108) F dX6_rose_106 rfl rfl ?_
      refine V.callV (q := 111) F [1, 2] 1 dX6_rose_108 rfl (c_X0_calmShare l G (A 1) (A 2) (A 3) _ _ (by omega) hw) gX6_rose_X0_calmShare rfl rfl ydX0_calmShare ⟨Nat.le_of_ble_eq_true rfl, Nat.le_of_ble_eq_true rfl⟩ (ci := 0) rfl rfl rfl rfl (Nat.le_of_ble_eq_true rfl) rfl rfl ⟨Nat.zero_le _, Nat.zero_le _⟩ (kkf (st' := [_]) (ws' := [_, _, _, _, _, _, _, _, _, _, _, _, _, _, _, _, _, _, _, _, _, _, _, _, _, _, _]) rfl rfl ?_)
      exact V.iret F T dX6_rose_111 ⟨⟨(_, _, _, _, _), (_, _, _), (_, _, _), (_, _, _), (_, _, _, _, _, _, _, _)⟩, (iEq (by unfold rRose; first | omega | (simp; done) | (simp; omega))), rfl⟩ [(A 0), (A 1), (A 2), (A 3), (A 4), (A 5), (A 6), (A 7), (A 8), (A 9), (A 10), (A 11), (A 12), (A 13), (A 14), (A 15), (A 16), (A 17), (A 18), (A 19), (A 20), (A 21), (A 22), (A 23), (A 24), (A 25), (A 26)] rfl rfl
    · refine V.tswIn (tgt := 112) F dX6_rose_18 (by decide) (by decide) (by decide) rfl (by decide) ?_
      refine V.aload_n (q := 113) F dX6_rose_112 rfl rfl rfl ?_
      refine V.iload (q := 115) F dX6_rose_113 rfl rfl ?_
      refine V.callV (q := 118) F [0, 1, 2] 0 dX6_rose_115 rfl (c_X6_greatestSpeed l G (A 0) (A 1) (A 2) (A 3) (A 4) (A 6) (A 7) (A 9) (A 14) (A 18) (A 22) _ _ _ (by omega) hI) gX6_rose_X6_greatestSpeed rfl rfl ydX6_greatestSpeed ⟨Nat.le_of_ble_eq_true rfl, Nat.le_of_ble_eq_true rfl⟩ (ci := 6) rfl rfl rfl rfl (Nat.le_of_ble_eq_true rfl) rfl rfl ⟨Nat.zero_le _, Nat.zero_le _⟩ (kkf (st' := [_]) (ws' := [_, _, _, _, _, _, _, _, _, _, _, _, _, _, _, _, _, _, _, _, _, _, _, _, _, _, _]) rfl rfl ?_)
      exact V.iret F T dX6_rose_118 ⟨⟨(_, _, _, _, _), (_, _, _), (_, _, _), (_, _, _), (_, _, _, _, _, _, _, _)⟩, (iEq (by unfold rRose; first | omega | (simp; done) | (simp; omega))), rfl⟩ [(A 0), (A 1), (A 2), (A 3), (A 4), (A 5), (A 6), (A 7), (A 8), (A 9), (A 10), (A 11), (A 12), (A 13), (A 14), (A 15), (A 16), (A 17), (A 18), (A 19), (A 20), (A 21), (A 22), (A 23), (A 24), (A 25), (A 26)] rfl rfl
    · refine V.tswIn (tgt := 119) F dX6_rose_18 (by decide) (by decide) (by decide) rfl (by decide) ?_
      refine V.aload_n (q := 120) F dX6_rose_119 rfl rfl rfl ?_
      refine V.iload (q := 122) F dX6_rose_120 rfl rfl ?_
      refine V.callV (q := 125) F [0, 1, 2] 0 dX6_rose_122 rfl (c_X6_meanSpeed l G (A 0) (A 1) (A 2) (A 3) (A 4) (A 6) (A 7) (A 9) (A 14) (A 18) (A 22) _ _ _ (by omega) hI) gX6_rose_X6_meanSpeed rfl rfl ydX6_meanSpeed ⟨Nat.le_of_ble_eq_true rfl, Nat.le_of_ble_eq_true rfl⟩ (ci := 6) rfl rfl rfl rfl (Nat.le_of_ble_eq_true rfl) rfl rfl ⟨Nat.zero_le _, Nat.zero_le _⟩ (kkf (st' := [_]) (ws' := [_, _, _, _, _, _, _, _, _, _, _, _, _, _, _, _, _, _, _, _, _, _, _, _, _, _, _]) rfl rfl ?_)
      exact V.iret F T dX6_rose_125 ⟨⟨(_, _, _, _, _), (_, _, _), (_, _, _), (_, _, _), (_, _, _, _, _, _, _, _)⟩, (iEq (by unfold rRose; first | omega | (simp; done) | (simp; omega))), rfl⟩ [(A 0), (A 1), (A 2), (A 3), (A 4), (A 5), (A 6), (A 7), (A 8), (A 9), (A 10), (A 11), (A 12), (A 13), (A 14), (A 15), (A 16), (A 17), (A 18), (A 19), (A 20), (A 21), (A 22), (A 23), (A 24), (A 25), (A 26)] rfl rfl
    · refine V.tswIn (tgt := 126) F dX6_rose_18 (by decide) (by decide) (by decide) rfl (by decide) ?_
      refine V.aload_n (q := 127) F dX6_rose_126 rfl rfl rfl ?_
      refine V.get (q := 130) F 0 0 dX6_rose_127 rfl rfl rfl inX6_rose_X6 (by decide) (List.mem_of_getElem? (i := 1) rfl) rfl ?_
      refine V.iload (q := 132) F dX6_rose_130 rfl rfl ?_
      refine V.iload_n (q := 133) F dX6_rose_132 rfl rfl rfl ?_
      refine V.bipush (q := 135) F dX6_rose_133 rfl (by decide) ?_
      refine V.isub (q := 136) F dX6_rose_135 rfl ?_
      refine V.callV (q := 139) F [1, 2] 1 dX6_rose_136 rfl (c_X0_classHours l G (A 1) (A 2) (A 3) _ _ _ (by omega) (by omega) hset) gX6_rose_X0_classHours rfl rfl ydX0_classHours ⟨Nat.le_of_ble_eq_true rfl, Nat.le_of_ble_eq_true rfl⟩ (ci := 0) rfl rfl rfl rfl (Nat.le_of_ble_eq_true rfl) rfl rfl ⟨Nat.zero_le _, Nat.zero_le _⟩ (kkf (st' := [_]) (ws' := [_, _, _, _, _, _, _, _, _, _, _, _, _, _, _, _, _, _, _, _, _, _, _, _, _, _, _]) rfl rfl ?_)
      exact V.iret F T dX6_rose_139 ⟨⟨(_, _, _, _, _), (_, _, _), (_, _, _), (_, _, _), (_, _, _, _, _, _, _, _)⟩, (iEq (by unfold rRose; first | omega | (simp; done) | (simp; omega))), rfl⟩ [(A 0), (A 1), (A 2), (A 3), (A 4), (A 5), (A 6), (A 7), (A 8), (A 9), (A 10), (A 11), (A 12), (A 13), (A 14), (A 15), (A 16), (A 17), (A 18), (A 19), (A 20), (A 21), (A 22), (A 23), (A 24), (A 25), (A 26)] rfl rfl
    · refine V.tswIn (tgt := 126) F dX6_rose_18 (by decide) (by decide) (by decide) rfl (by decide) ?_
      refine V.aload_n (q := 127) F dX6_rose_126 rfl rfl rfl ?_
      refine V.get (q := 130) F 0 0 dX6_rose_127 rfl rfl rfl inX6_rose_X6 (by decide) (List.mem_of_getElem? (i := 1) rfl) rfl ?_
      refine V.iload (q := 132) F dX6_rose_130 rfl rfl ?_
      refine V.iload_n (q := 133) F dX6_rose_132 rfl rfl rfl ?_
      refine V.bipush (q := 135) F dX6_rose_133 rfl (by decide) ?_
      refine V.isub (q := 136) F dX6_rose_135 rfl ?_
      refine V.callV (q := 139) F [1, 2] 1 dX6_rose_136 rfl (c_X0_classHours l G (A 1) (A 2) (A 3) _ _ _ (by omega) (by omega) hset) gX6_rose_X0_classHours rfl rfl ydX0_classHours ⟨Nat.le_of_ble_eq_true rfl, Nat.le_of_ble_eq_true rfl⟩ (ci := 0) rfl rfl rfl rfl (Nat.le_of_ble_eq_true rfl) rfl rfl ⟨Nat.zero_le _, Nat.zero_le _⟩ (kkf (st' := [_]) (ws' := [_, _, _, _, _, _, _, _, _, _, _, _, _, _, _, _, _, _, _, _, _, _, _, _, _, _, _]) rfl rfl ?_)
      exact V.iret F T dX6_rose_139 ⟨⟨(_, _, _, _, _), (_, _, _), (_, _, _), (_, _, _), (_, _, _, _, _, _, _, _)⟩, (iEq (by unfold rRose; first | omega | (simp; done) | (simp; omega))), rfl⟩ [(A 0), (A 1), (A 2), (A 3), (A 4), (A 5), (A 6), (A 7), (A 8), (A 9), (A 10), (A 11), (A 12), (A 13), (A 14), (A 15), (A 16), (A 17), (A 18), (A 19), (A 20), (A 21), (A 22), (A 23), (A 24), (A 25), (A 26)] rfl rfl
    · refine V.tswIn (tgt := 126) F dX6_rose_18 (by decide) (by decide) (by decide) rfl (by decide) ?_
      refine V.aload_n (q := 127) F dX6_rose_126 rfl rfl rfl ?_
      refine V.get (q := 130) F 0 0 dX6_rose_127 rfl rfl rfl inX6_rose_X6 (by decide) (List.mem_of_getElem? (i := 1) rfl) rfl ?_
      refine V.iload (q := 132) F dX6_rose_130 rfl rfl ?_
      refine V.iload_n (q := 133) F dX6_rose_132 rfl rfl rfl ?_
      refine V.bipush (q := 135) F dX6_rose_133 rfl (by decide) ?_
      refine V.isub (q := 136) F dX6_rose_135 rfl ?_
      refine V.callV (q := 139) F [1, 2] 1 dX6_rose_136 rfl (c_X0_classHours l G (A 1) (A 2) (A 3) _ _ _ (by omega) (by omega) hset) gX6_rose_X0_classHours rfl rfl ydX0_classHours ⟨Nat.le_of_ble_eq_true rfl, Nat.le_of_ble_eq_true rfl⟩ (ci := 0) rfl rfl rfl rfl (Nat.le_of_ble_eq_true rfl) rfl rfl ⟨Nat.zero_le _, Nat.zero_le _⟩ (kkf (st' := [_]) (ws' := [_, _, _, _, _, _, _, _, _, _, _, _, _, _, _, _, _, _, _, _, _, _, _, _, _, _, _]) rfl rfl ?_)
      exact V.iret F T dX6_rose_139 ⟨⟨(_, _, _, _, _), (_, _, _), (_, _, _), (_, _, _), (_, _, _, _, _, _, _, _)⟩, (iEq (by unfold rRose; first | omega | (simp; done) | (simp; omega))), rfl⟩ [(A 0), (A 1), (A 2), (A 3), (A 4), (A 5), (A 6), (A 7), (A 8), (A 9), (A 10), (A 11), (A 12), (A 13), (A 14), (A 15), (A 16), (A 17), (A 18), (A 19), (A 20), (A 21), (A 22), (A 23), (A 24), (A 25), (A 26)] rfl rfl
    · refine V.tswIn (tgt := 140) F dX6_rose_18 (by decide) (by decide) (by decide) rfl (by decide) ?_
      refine V.aload_n (q := 141) F dX6_rose_140 rfl rfl rfl ?_
      refine V.iload (q := 143) F dX6_rose_141 rfl rfl ?_
      refine V.callV (q := 146) F [0, 1, 2] 0 dX6_rose_143 rfl (c_X6_prevailingDirection l G (A 0) (A 1) (A 2) (A 3) (A 4) (A 6) (A 7) (A 9) (A 14) (A 18) (A 22) _ _ _ (by omega) hI) gX6_rose_X6_prevailingDirection rfl rfl ydX6_prevailingDirection ⟨Nat.le_of_ble_eq_true rfl, Nat.le_of_ble_eq_true rfl⟩ (ci := 6) rfl rfl rfl rfl (Nat.le_of_ble_eq_true rfl) rfl rfl ⟨Nat.zero_le _, Nat.zero_le _⟩ (kkf (st' := [_]) (ws' := [_, _, _, _, _, _, _, _, _, _, _, _, _, _, _, _, _, _, _, _, _, _, _, _, _, _, _]) rfl rfl ?_)
      exact V.iret F T dX6_rose_146 ⟨⟨(_, _, _, _, _), (_, _, _), (_, _, _), (_, _, _), (_, _, _, _, _, _, _, _)⟩, (iEq (by unfold rRose; first | omega | (simp; done) | (simp; omega))), rfl⟩ [(A 0), (A 1), (A 2), (A 3), (A 4), (A 5), (A 6), (A 7), (A 8), (A 9), (A 10), (A 11), (A 12), (A 13), (A 14), (A 15), (A 16), (A 17), (A 18), (A 19), (A 20), (A 21), (A 22), (A 23), (A 24), (A 25), (A 26)] rfl rfl
    · refine V.tswOut (tgt := 147) F dX6_rose_18 (by omega) hsw (by decide) ?_
      refine V.bipush (q := 149) F dX6_rose_147 rfl (by decide) ?_
      exact V.iret F T dX6_rose_149 ⟨⟨(_, _, _, _, _), (_, _, _), (_, _, _), (_, _, _), (_, _, _, _, _, _, _, _)⟩, (iEq (by unfold rRose; first | omega | (simp; done) | (simp; omega))), rfl⟩ [(A 0), (A 1), (A 2), (A 3), (A 4), (A 5), (A 6), (A 7), (A 8), (A 9), (A 10), (A 11), (A 12), (A 13), (A 14), (A 15), (A 16), (A 17), (A 18), (A 19), (A 20), (A 21), (A 22), (A 23), (A 24), (A 25), (A 26)] rfl rfl
  · refine V.iconst (q := 9) F dX6_rose_8 rfl ?_
    exact V.iret F T dX6_rose_9 ⟨⟨(_, _, _, _, _), (_, _, _), (_, _, _), (_, _, _), (_, _, _, _, _, _, _, _)⟩, (iEq (by unfold rRose; first | omega | (simp; done) | (simp; omega))), rfl⟩ [(A 0), (A 1), (A 2), (A 3), (A 4), (A 5), (A 6), (A 7), (A 8), (A 9), (A 10), (A 11), (A 12), (A 13), (A 14), (A 15), (A 16), (A 17), (A 18), (A 19), (A 20), (A 21), (A 22), (A 23), (A 24), (A 25), (A 26)] rfl rfl

abbrev YX6_hours (l : Launch) (G : Gx) : Sx := (cX6_hours, 6, RX6, wsX6_hours, rmD 2, l, G)
theorem ydX6_hours : ydOk yX6_hours 4 := by decide +kernel
theorem inX6_hours_X6 : ∀ w ∈ wsX60, w ∈ wsX6_hours := fun _ h => List.mem_cons_of_mem _ (List.mem_append_left _ (List.mem_append_right _ h))
set_option maxHeartbeats 1000000 in
set_option maxRecDepth 20000 in
theorem c_X6_hours (l : Launch) (G : Gx) (A : Nat → Nat) (a tt R sn t rs ds ss hs f1 m1 g1 f2 m2 g2 f3 m3 g3 : Int → Int) (o s bb n E P mi1 mi2 mi3 df dq sc p q d k : Int) (hI : Inv a) (ho : 0 ≤ o ∧ o < 4) (hq : 0 ≤ s ∧ s ≤ 4) (hbb : 0 ≤ bb ∧ bb ≤ 1) (hn : 0 ≤ n ∧ n ≤ 80) (ht : ∀ j, 0 ≤ t j ∧ t j < 65536) (hrp : -2147483648 ≤ p ∧ p < 2147483648) (hrq : -2147483648 ≤ q ∧ q < 2147483648) (hrd : -2147483648 ≤ d ∧ d < 2147483648) (hrk : -2147483648 ≤ k ∧ k < 2147483648) : Ct l G yX6_hours wsX6_hours (rmD 2) [.ref (A 0), .int (zI p), .int (zI q), .int (zI d), .int (zI k)] [((A 0), .inr (6, [.ref (A 1), .ref (A 4), .ref (A 6), .int (zI bb), .ref (A 9), .ref (A 7), .ref (A 14), .ref (A 18), .ref (A 22)])), ((A 1), .inr (0, [.ref (A 2), .ref (A 3)])), ((A 2), aI G 26181 a), ((A 3), aI G 1584 tt), ((A 4), .inr (2, [.ref (A 5), .int (zI o), .int (zI s)])), ((A 5), aI G 104724 R), ((A 6), aI G 26181 sn), ((A 7), .inr (5, [.ref (A 8), .int (zI n)])), ((A 8), aC G 80 t), ((A 9), .inr (3, [.ref (A 7), .ref (A 10), .ref (A 11), .ref (A 12), .ref (A 13), .int (zI E), .int (zI P)])), ((A 10), aI G 16 rs), ((A 11), aI G 16 ds), ((A 12), aI G 16 ss), ((A 13), aI G 16 hs), ((A 14), .inr (4, [.ref (A 15), .ref (A 16), .ref (A 17), .int (zI mi1)])), ((A 15), aI G 48 f1), ((A 16), aI G 48 m1), ((A 17), aZ G 48 g1), ((A 18), .inr (4, [.ref (A 19), .ref (A 20), .ref (A 21), .int (zI mi2)])), ((A 19), aI G 48 f2), ((A 20), aI G 48 m2), ((A 21), aZ G 48 g2), ((A 22), .inr (1, [.ref (A 23), .int (zI df), .int (zI dq), .int (zI sc)])), ((A 23), .inr (4, [.ref (A 24), .ref (A 25), .ref (A 26), .int (zI mi3)])), ((A 24), aI G 48 f3), ((A 25), aI G 48 m3), ((A 26), aZ G 48 g3)] (RdX A G a o s R bb sn t n (rHours a p q d k)) := by
  refine Ct.intro (cc := cX6_hours) (maxL := 6) (ret := (some .int)) (lo0 := [some (.ref (A 0)), some (.int (zI p)), some (.int (zI q)), some (.int (zI d)), some (.int (zI k)), none]) (by decide +kernel) rfl ⟨rfl, rfl⟩ (Nat.le_of_ble_eq_true rfl) rfl ?_
  intro X F T
  change Fx X (YX6_hours l G) at F
  change V X (YX6_hours l G) 0 0 0 _ _ _
  refine V.iload_n (q := 1) F dX6_hours_0 rfl rfl rfl ?_
  refine V.iload_n (q := 2) F dX6_hours_1 rfl rfl rfl ?_
  refine V.callS (q := 5) F [] dX6_hours_2 rfl (c_X6_isRose l G  _ _ (by omega) (by omega)) gX6_hours_X6_isRose rfl ydX6_isRose ⟨Nat.le_of_ble_eq_true rfl, Nat.le_of_ble_eq_true rfl⟩ rfl rfl (Nat.le_of_ble_eq_true rfl) rfl rfl ⟨Nat.zero_le _, Nat.zero_le _⟩ (kkf (st' := [_]) (ws' := [_, _, _, _, _, _, _, _, _, _, _, _, _, _, _, _, _, _, _, _, _, _, _, _, _, _, _]) rfl rfl ?_)
  refine V.if_eq (q := 8) (tgt := 15) F dX6_hours_5 rfl (by decide) (by omega) (fun k5 => ?_) (fun k5 => ?_)
  · refine V.iconst (q := 16) F dX6_hours_15 rfl ?_
    exact V.iret F T dX6_hours_16 ⟨⟨(_, _, _, _, _), (_, _, _), (_, _, _), (_, _, _), (_, _, _, _, _, _, _, _)⟩, (iEq (by unfold rHours; omega)), rfl⟩ [(A 0), (A 1), (A 2), (A 3), (A 4), (A 5), (A 6), (A 7), (A 8), (A 9), (A 10), (A 11), (A 12), (A 13), (A 14), (A 15), (A 16), (A 17), (A 18), (A 19), (A 20), (A 21), (A 22), (A 23), (A 24), (A 25), (A 26)] rfl rfl
  · refine V.iload_n (q := 9) F dX6_hours_8 rfl rfl rfl ?_
    refine V.callS (q := 12) F [] dX6_hours_9 rfl (c_X6_isDirection l G  _ (by omega)) gX6_hours_X6_isDirection rfl ydX6_isDirection ⟨Nat.le_of_ble_eq_true rfl, Nat.le_of_ble_eq_true rfl⟩ rfl rfl (Nat.le_of_ble_eq_true rfl) rfl rfl ⟨Nat.zero_le _, Nat.zero_le _⟩ (kkf (st' := [_]) (ws' := [_, _, _, _, _, _, _, _, _, _, _, _, _, _, _, _, _, _, _, _, _, _, _, _, _, _, _]) rfl rfl ?_)
    refine V.if_ne (q := 15) (tgt := 17) F dX6_hours_12 rfl (by decide) (by omega) (fun k12 => ?_) (fun k12 => ?_)
    · refine V.iload_n (q := 18) F dX6_hours_17 rfl rfl rfl ?_
      refine V.iload_n (q := 19) F dX6_hours_18 rfl rfl rfl ?_
      refine V.callS (q := 22) F [] dX6_hours_19 rfl (c_X6_roseOf l G  _ _ ) gX6_hours_X6_roseOf rfl ydX6_roseOf ⟨Nat.le_of_ble_eq_true rfl, Nat.le_of_ble_eq_true rfl⟩ rfl rfl (Nat.le_of_ble_eq_true rfl) rfl rfl ⟨Nat.zero_le _, Nat.zero_le _⟩ (kkf (st' := [_]) (ws' := [_, _, _, _, _, _, _, _, _, _, _, _, _, _, _, _, _, _, _, _, _, _, _, _, _, _, _]) rfl rfl ?_)
      refine V.istore (q := 24) (lo' := [_, _, _, _, _, _]) F dX6_hours_22 rfl (Nat.le_of_ble_eq_true rfl) rfl rfl ?_
      have hr : 0 ≤ p * 4 + q ∧ p * 4 + q < 16 := by omega
      have hw := hI.w hr
      have hset := hI.s
      refine V.iload (q := 26) F dX6_hours_24 rfl rfl ?_
      refine V.iconst (q := 27) F dX6_hours_26 rfl ?_
      refine V.icmp_ne (q := 30) (tgt := 41) F dX6_hours_27 rfl (by decide) (by omega) (fun k27 => ?_) (fun k27 => ?_)
      · refine V.iload (q := 43) F dX6_hours_41 rfl rfl ?_
        refine V.callS (q := 46) F [] dX6_hours_43 rfl (c_X6_isClass l G  _ (by omega)) gX6_hours_X6_isClass rfl ydX6_isClass ⟨Nat.le_of_ble_eq_true rfl, Nat.le_of_ble_eq_true rfl⟩ rfl rfl (Nat.le_of_ble_eq_true rfl) rfl rfl ⟨Nat.zero_le _, Nat.zero_le _⟩ (kkf (st' := [_]) (ws' := [_, _, _, _, _, _, _, _, _, _, _, _, _, _, _, _, _, _, _, _, _, _, _, _, _, _, _]) rfl rfl ?_)
        refine V.if_eq (q := 49) (tgt := 64) F dX6_hours_46 rfl (by decide) (by omega) (fun k46 => ?_) (fun k46 => ?_)
        · refine V.iconst (q := 65) F dX6_hours_64 rfl ?_
          exact V.iret F T dX6_hours_65 ⟨⟨(_, _, _, _, _), (_, _, _), (_, _, _), (_, _, _), (_, _, _, _, _, _, _, _)⟩, (iEq (by unfold rHours; omega)), rfl⟩ [(A 0), (A 1), (A 2), (A 3), (A 4), (A 5), (A 6), (A 7), (A 8), (A 9), (A 10), (A 11), (A 12), (A 13), (A 14), (A 15), (A 16), (A 17), (A 18), (A 19), (A 20), (A 21), (A 22), (A 23), (A 24), (A 25), (A 26)] rfl rfl
        · refine V.aload_n (q := 50) F dX6_hours_49 rfl rfl rfl ?_
          refine V.get (q := 53) F 0 0 dX6_hours_50 rfl rfl rfl inX6_hours_X6 (by decide) (List.mem_of_getElem? (i := 1) rfl) rfl ?_
          refine V.iload (q := 55) F dX6_hours_53 rfl rfl ?_
          refine V.iload_n (q := 56) F dX6_hours_55 rfl rfl rfl ?_
          refine V.iload (q := 58) F dX6_hours_56 rfl rfl ?_
          refine V.callV (q := 61) F [1, 2] 1 dX6_hours_58 rfl (c_X0_partHours l G (A 1) (A 2) (A 3) _ _ _ _ (by omega) (by omega) (by omega) hset) gX6_hours_X0_partHours rfl rfl ydX0_partHours ⟨Nat.le_of_ble_eq_true rfl, Nat.le_of_ble_eq_true rfl⟩ (ci := 0) rfl rfl rfl rfl (Nat.le_of_ble_eq_true rfl) rfl rfl ⟨Nat.zero_le _, Nat.zero_le _⟩ (kkf (st' := [_]) (ws' := [_, _, _, _, _, _, _, _, _, _, _, _, _, _, _, _, _, _, _, _, _, _, _, _, _, _, _]) rfl rfl ?_)
          refine V.goto (tgt := 65) F dX6_hours_61 (by decide) ?_
          exact V.iret F T dX6_hours_65 ⟨⟨(_, _, _, _, _), (_, _, _), (_, _, _), (_, _, _), (_, _, _, _, _, _, _, _)⟩, (iEq (by unfold rHours; omega)), rfl⟩ [(A 0), (A 1), (A 2), (A 3), (A 4), (A 5), (A 6), (A 7), (A 8), (A 9), (A 10), (A 11), (A 12), (A 13), (A 14), (A 15), (A 16), (A 17), (A 18), (A 19), (A 20), (A 21), (A 22), (A 23), (A 24), (A 25), (A 26)] rfl rfl
      · refine V.aload_n (q := 31) F dX6_hours_30 rfl rfl rfl ?_
        refine V.get (q := 34) F 0 0 dX6_hours_31 rfl rfl rfl inX6_hours_X6 (by decide) (List.mem_of_getElem? (i := 1) rfl) rfl ?_
        refine V.iload (q := 36) F dX6_hours_34 rfl rfl ?_
        refine V.iload_n (q := 37) F dX6_hours_36 rfl rfl rfl ?_
        refine V.callV (q := 40) F [1, 2] 1 dX6_hours_37 rfl (c_X0_directionHours l G (A 1) (A 2) (A 3) _ _ _ (by omega) (by omega)) gX6_hours_X0_directionHours rfl rfl ydX0_directionHours ⟨Nat.le_of_ble_eq_true rfl, Nat.le_of_ble_eq_true rfl⟩ (ci := 0) rfl rfl rfl rfl (Nat.le_of_ble_eq_true rfl) rfl rfl ⟨Nat.zero_le _, Nat.zero_le _⟩ (kkf (st' := [_]) (ws' := [_, _, _, _, _, _, _, _, _, _, _, _, _, _, _, _, _, _, _, _, _, _, _, _, _, _, _]) rfl rfl ?_)
        exact V.iret F T dX6_hours_40 ⟨⟨(_, _, _, _, _), (_, _, _), (_, _, _), (_, _, _), (_, _, _, _, _, _, _, _)⟩, (iEq (by unfold rHours; omega)), rfl⟩ [(A 0), (A 1), (A 2), (A 3), (A 4), (A 5), (A 6), (A 7), (A 8), (A 9), (A 10), (A 11), (A 12), (A 13), (A 14), (A 15), (A 16), (A 17), (A 18), (A 19), (A 20), (A 21), (A 22), (A 23), (A 24), (A 25), (A 26)] rfl rfl
    · refine V.iconst (q := 16) F dX6_hours_15 rfl ?_
      exact V.iret F T dX6_hours_16 ⟨⟨(_, _, _, _, _), (_, _, _), (_, _, _), (_, _, _), (_, _, _, _, _, _, _, _)⟩, (iEq (by unfold rHours; omega)), rfl⟩ [(A 0), (A 1), (A 2), (A 3), (A 4), (A 5), (A 6), (A 7), (A 8), (A 9), (A 10), (A 11), (A 12), (A 13), (A 14), (A 15), (A 16), (A 17), (A 18), (A 19), (A 20), (A 21), (A 22), (A 23), (A 24), (A 25), (A 26)] rfl rfl

abbrev YX6_share (l : Launch) (G : Gx) : Sx := (cX6_share, 5, RX6, wsX6_share, rmD 4, l, G)
theorem ydX6_share : ydOk yX6_share 4 := by decide +kernel
theorem inX6_share_X4 : ∀ w ∈ wsX40, w ∈ wsX6_share := fun _ h => List.mem_cons_of_mem _ (List.mem_append_left _ (List.mem_append_right _ h))
theorem inX6_share_X6 : ∀ w ∈ wsX60, w ∈ wsX6_share := fun _ h => List.mem_cons_of_mem _ (List.mem_append_left _ (List.mem_append_left _ (List.mem_append_right _ h)))
set_option maxHeartbeats 1000000 in
set_option maxRecDepth 20000 in
theorem c_X6_share (l : Launch) (G : Gx) (A : Nat → Nat) (a tt R sn t rs ds ss hs f1 m1 g1 f2 m2 g2 f3 m3 g3 : Int → Int) (o s bb n E P mi1 mi2 mi3 df dq sc p q d k : Int) (hI : Inv a) (ho : 0 ≤ o ∧ o < 4) (hq : 0 ≤ s ∧ s ≤ 4) (hbb : 0 ≤ bb ∧ bb ≤ 1) (hn : 0 ≤ n ∧ n ≤ 80) (ht : ∀ j, 0 ≤ t j ∧ t j < 65536) (hrp : -2147483648 ≤ p ∧ p < 2147483648) (hrq : -2147483648 ≤ q ∧ q < 2147483648) (hrd : -2147483648 ≤ d ∧ d < 2147483648) (hrk : -2147483648 ≤ k ∧ k < 2147483648) : Ct l G yX6_share wsX6_share (rmD 4) [.ref (A 0), .int (zI p), .int (zI q), .int (zI d), .int (zI k)] [((A 0), .inr (6, [.ref (A 1), .ref (A 4), .ref (A 6), .int (zI bb), .ref (A 9), .ref (A 7), .ref (A 14), .ref (A 18), .ref (A 22)])), ((A 1), .inr (0, [.ref (A 2), .ref (A 3)])), ((A 2), aI G 26181 a), ((A 3), aI G 1584 tt), ((A 4), .inr (2, [.ref (A 5), .int (zI o), .int (zI s)])), ((A 5), aI G 104724 R), ((A 6), aI G 26181 sn), ((A 7), .inr (5, [.ref (A 8), .int (zI n)])), ((A 8), aC G 80 t), ((A 9), .inr (3, [.ref (A 7), .ref (A 10), .ref (A 11), .ref (A 12), .ref (A 13), .int (zI E), .int (zI P)])), ((A 10), aI G 16 rs), ((A 11), aI G 16 ds), ((A 12), aI G 16 ss), ((A 13), aI G 16 hs), ((A 14), .inr (4, [.ref (A 15), .ref (A 16), .ref (A 17), .int (zI mi1)])), ((A 15), aI G 48 f1), ((A 16), aI G 48 m1), ((A 17), aZ G 48 g1), ((A 18), .inr (4, [.ref (A 19), .ref (A 20), .ref (A 21), .int (zI mi2)])), ((A 19), aI G 48 f2), ((A 20), aI G 48 m2), ((A 21), aZ G 48 g2), ((A 22), .inr (1, [.ref (A 23), .int (zI df), .int (zI dq), .int (zI sc)])), ((A 23), .inr (4, [.ref (A 24), .ref (A 25), .ref (A 26), .int (zI mi3)])), ((A 24), aI G 48 f3), ((A 25), aI G 48 m3), ((A 26), aZ G 48 g3)] (RdX A G a o s R bb sn t n (rShare a p q d k)) := by
  refine Ct.intro (cc := cX6_share) (maxL := 5) (ret := (some .int)) (lo0 := [some (.ref (A 0)), some (.int (zI p)), some (.int (zI q)), some (.int (zI d)), some (.int (zI k))]) (by decide +kernel) rfl ⟨rfl, rfl⟩ (Nat.le_of_ble_eq_true rfl) rfl ?_
  intro X F T
  change Fx X (YX6_share l G) at F
  change V X (YX6_share l G) 0 0 0 _ _ _
  refine V.iload_n (q := 1) F dX6_share_0 rfl rfl rfl ?_
  refine V.iload_n (q := 2) F dX6_share_1 rfl rfl rfl ?_
  refine V.iload_n (q := 3) F dX6_share_2 rfl rfl rfl ?_
  refine V.iload (q := 5) F dX6_share_3 rfl rfl ?_
  refine V.callS (q := 8) F [] dX6_share_5 rfl (c_X6_isPart l G  _ _ _ _ (by omega) (by omega) (by omega) (by omega)) gX6_share_X6_isPart rfl ydX6_isPart ⟨Nat.le_of_ble_eq_true rfl, Nat.le_of_ble_eq_true rfl⟩ rfl rfl (Nat.le_of_ble_eq_true rfl) rfl rfl ⟨Nat.zero_le _, Nat.zero_le _⟩ (kkf (st' := [_]) (ws' := [_, _, _, _, _, _, _, _, _, _, _, _, _, _, _, _, _, _, _, _, _, _, _, _, _, _, _]) rfl rfl ?_)
  refine V.if_ne (q := 11) (tgt := 13) F dX6_share_8 rfl (by decide) (by omega) (fun k8 => ?_) (fun k8 => ?_)
  · have hr : 0 ≤ p * 4 + q ∧ p * 4 + q < 16 := by omega
    have hw := hI.w hr
    refine V.aload_n (q := 14) F dX6_share_13 rfl rfl rfl ?_
    refine V.get (q := 17) F 0 6 dX6_share_14 rfl rfl rfl inX6_share_X6 (by decide) (List.mem_of_getElem? (i := 1) rfl) rfl ?_
    refine V.aload_n (q := 18) F dX6_share_17 rfl rfl rfl ?_
    refine V.get (q := 21) F 0 0 dX6_share_18 rfl rfl rfl inX6_share_X6 (by decide) (List.mem_of_getElem? (i := 2) rfl) rfl ?_
    refine V.iload_n (q := 22) F dX6_share_21 rfl rfl rfl ?_
    refine V.iload_n (q := 23) F dX6_share_22 rfl rfl rfl ?_
    refine V.callS (q := 26) F [] dX6_share_23 rfl (c_X6_roseOf l G  _ _ ) gX6_share_X6_roseOf rfl ydX6_roseOf ⟨Nat.le_of_ble_eq_true rfl, Nat.le_of_ble_eq_true rfl⟩ rfl rfl (Nat.le_of_ble_eq_true rfl) rfl rfl ⟨Nat.zero_le _, Nat.zero_le _⟩ (kkf (st' := [_, _, _]) (ws' := [_, _, _, _, _, _, _, _, _, _, _, _, _, _, _, _, _, _, _, _, _, _, _, _, _, _, _]) rfl rfl ?_)
    refine V.callV (q := 29) F [14, 15, 16, 1, 2] 14 dX6_share_26 rfl (c_X4_fillByRank l G (A 14) (A 15) (A 16) (A 17) (A 1) (A 2) (A 3) _ _ _ _ _ (by omega) hI) gX6_share_X4_fillByRank rfl rfl ydX4_fillByRank ⟨Nat.le_of_ble_eq_true rfl, Nat.le_of_ble_eq_true rfl⟩ (ci := 4) rfl rfl rfl rfl (Nat.le_of_ble_eq_true rfl) rfl rfl ⟨Nat.zero_le _, Nat.zero_le _⟩ (kkf (st' := []) (ws' := [_, _, _, _, _, _, _, _, _, _, _, _, _, _, _, _, _, _, _, _, _, _, _, _, _, _, _]) rfl rfl ?_)
    refine V.aload_n (q := 30) F dX6_share_29 rfl rfl rfl ?_
    refine V.get (q := 33) F 0 6 dX6_share_30 rfl rfl rfl inX6_share_X6 (by decide) (List.mem_of_getElem? (i := 1) rfl) rfl ?_
    refine V.get (q := 36) F 14 0 dX6_share_33 rfl rfl rfl inX6_share_X4 (by decide) (List.mem_of_getElem? (i := 3) rfl) rfl ?_
    refine V.iload_n (q := 37) F dX6_share_36 rfl rfl rfl ?_
    refine V.iload (q := 39) F dX6_share_37 rfl rfl ?_
    refine V.callS (q := 42) F [] dX6_share_39 rfl (c_X6_partOf l G  _ _ ) gX6_share_X6_partOf rfl ydX6_partOf ⟨Nat.le_of_ble_eq_true rfl, Nat.le_of_ble_eq_true rfl⟩ rfl rfl (Nat.le_of_ble_eq_true rfl) rfl rfl ⟨Nat.zero_le _, Nat.zero_le _⟩ (kkf (st' := [_, _]) (ws' := [_, _, _, _, _, _, _, _, _, _, _, _, _, _, _, _, _, _, _, _, _, _, _, _, _, _, _]) rfl rfl ?_)
    skip
    refine V.iald (q := 43) F 15 dX6_share_42 rfl rfl (by decide) (by omega) ?_
    rw [fil_in (shr a (p * 4 + q)) f1 (show 0 ≤ d * 3 + k by omega) (show d * 3 + k < 48 by omega)]
    exact V.iret F T dX6_share_43 ⟨⟨(_, _, _, _, _), (_, _, _), (_, _, _), (_, _, _), (_, _, _, _, _, _, _, _)⟩, (iEq (by unfold rShare; omega)), rfl⟩ [(A 0), (A 1), (A 2), (A 3), (A 4), (A 5), (A 6), (A 7), (A 8), (A 9), (A 10), (A 11), (A 12), (A 13), (A 14), (A 15), (A 16), (A 17), (A 18), (A 19), (A 20), (A 21), (A 22), (A 23), (A 24), (A 25), (A 26)] rfl rfl
  · refine V.iconst (q := 12) F dX6_share_11 rfl ?_
    exact V.iret F T dX6_share_12 ⟨⟨(_, _, _, _, _), (_, _, _), (_, _, _), (_, _, _), (_, _, _, _, _, _, _, _)⟩, (iEq (by unfold rShare; omega)), rfl⟩ [(A 0), (A 1), (A 2), (A 3), (A 4), (A 5), (A 6), (A 7), (A 8), (A 9), (A 10), (A 11), (A 12), (A 13), (A 14), (A 15), (A 16), (A 17), (A 18), (A 19), (A 20), (A 21), (A 22), (A 23), (A 24), (A 25), (A 26)] rfl rfl

abbrev YX6_dealt (l : Launch) (G : Gx) : Sx := (cX6_dealt, 5, RX6, wsX6_dealt, rmD 4, l, G)
theorem ydX6_dealt : ydOk yX6_dealt 4 := by decide +kernel
theorem inX6_dealt_X4 : ∀ w ∈ wsX40, w ∈ wsX6_dealt := fun _ h => List.mem_cons_of_mem _ (List.mem_append_left _ (List.mem_append_right _ h))
theorem inX6_dealt_X6 : ∀ w ∈ wsX60, w ∈ wsX6_dealt := fun _ h => List.mem_cons_of_mem _ (List.mem_append_left _ (List.mem_append_left _ (List.mem_append_right _ h)))
set_option maxHeartbeats 1000000 in
set_option maxRecDepth 20000 in
theorem c_X6_dealt (l : Launch) (G : Gx) (A : Nat → Nat) (a tt R sn t rs ds ss hs f1 m1 g1 f2 m2 g2 f3 m3 g3 : Int → Int) (o s bb n E P mi1 mi2 mi3 df dq sc p q d k : Int) (hI : Inv a) (ho : 0 ≤ o ∧ o < 4) (hq : 0 ≤ s ∧ s ≤ 4) (hbb : 0 ≤ bb ∧ bb ≤ 1) (hn : 0 ≤ n ∧ n ≤ 80) (ht : ∀ j, 0 ≤ t j ∧ t j < 65536) (hrp : -2147483648 ≤ p ∧ p < 2147483648) (hrq : -2147483648 ≤ q ∧ q < 2147483648) (hrd : -2147483648 ≤ d ∧ d < 2147483648) (hrk : -2147483648 ≤ k ∧ k < 2147483648) : Ct l G yX6_dealt wsX6_dealt (rmD 4) [.ref (A 0), .int (zI p), .int (zI q), .int (zI d), .int (zI k)] [((A 0), .inr (6, [.ref (A 1), .ref (A 4), .ref (A 6), .int (zI bb), .ref (A 9), .ref (A 7), .ref (A 14), .ref (A 18), .ref (A 22)])), ((A 1), .inr (0, [.ref (A 2), .ref (A 3)])), ((A 2), aI G 26181 a), ((A 3), aI G 1584 tt), ((A 4), .inr (2, [.ref (A 5), .int (zI o), .int (zI s)])), ((A 5), aI G 104724 R), ((A 6), aI G 26181 sn), ((A 7), .inr (5, [.ref (A 8), .int (zI n)])), ((A 8), aC G 80 t), ((A 9), .inr (3, [.ref (A 7), .ref (A 10), .ref (A 11), .ref (A 12), .ref (A 13), .int (zI E), .int (zI P)])), ((A 10), aI G 16 rs), ((A 11), aI G 16 ds), ((A 12), aI G 16 ss), ((A 13), aI G 16 hs), ((A 14), .inr (4, [.ref (A 15), .ref (A 16), .ref (A 17), .int (zI mi1)])), ((A 15), aI G 48 f1), ((A 16), aI G 48 m1), ((A 17), aZ G 48 g1), ((A 18), .inr (4, [.ref (A 19), .ref (A 20), .ref (A 21), .int (zI mi2)])), ((A 19), aI G 48 f2), ((A 20), aI G 48 m2), ((A 21), aZ G 48 g2), ((A 22), .inr (1, [.ref (A 23), .int (zI df), .int (zI dq), .int (zI sc)])), ((A 23), .inr (4, [.ref (A 24), .ref (A 25), .ref (A 26), .int (zI mi3)])), ((A 24), aI G 48 f3), ((A 25), aI G 48 m3), ((A 26), aZ G 48 g3)] (RdX A G a o s R bb sn t n (rDealt a p q d k)) := by
  refine Ct.intro (cc := cX6_dealt) (maxL := 5) (ret := (some .int)) (lo0 := [some (.ref (A 0)), some (.int (zI p)), some (.int (zI q)), some (.int (zI d)), some (.int (zI k))]) (by decide +kernel) rfl ⟨rfl, rfl⟩ (Nat.le_of_ble_eq_true rfl) rfl ?_
  intro X F T
  change Fx X (YX6_dealt l G) at F
  change V X (YX6_dealt l G) 0 0 0 _ _ _
  refine V.iload_n (q := 1) F dX6_dealt_0 rfl rfl rfl ?_
  refine V.iload_n (q := 2) F dX6_dealt_1 rfl rfl rfl ?_
  refine V.iload_n (q := 3) F dX6_dealt_2 rfl rfl rfl ?_
  refine V.iload (q := 5) F dX6_dealt_3 rfl rfl ?_
  refine V.callS (q := 8) F [] dX6_dealt_5 rfl (c_X6_isPart l G  _ _ _ _ (by omega) (by omega) (by omega) (by omega)) gX6_dealt_X6_isPart rfl ydX6_isPart ⟨Nat.le_of_ble_eq_true rfl, Nat.le_of_ble_eq_true rfl⟩ rfl rfl (Nat.le_of_ble_eq_true rfl) rfl rfl ⟨Nat.zero_le _, Nat.zero_le _⟩ (kkf (st' := [_]) (ws' := [_, _, _, _, _, _, _, _, _, _, _, _, _, _, _, _, _, _, _, _, _, _, _, _, _, _, _]) rfl rfl ?_)
  refine V.if_ne (q := 11) (tgt := 13) F dX6_dealt_8 rfl (by decide) (by omega) (fun k8 => ?_) (fun k8 => ?_)
  · have hr : 0 ≤ p * 4 + q ∧ p * 4 + q < 16 := by omega
    have hw := hI.w hr
    refine V.aload_n (q := 14) F dX6_dealt_13 rfl rfl rfl ?_
    refine V.get (q := 17) F 0 6 dX6_dealt_14 rfl rfl rfl inX6_dealt_X6 (by decide) (List.mem_of_getElem? (i := 1) rfl) rfl ?_
    refine V.aload_n (q := 18) F dX6_dealt_17 rfl rfl rfl ?_
    refine V.get (q := 21) F 0 0 dX6_dealt_18 rfl rfl rfl inX6_dealt_X6 (by decide) (List.mem_of_getElem? (i := 2) rfl) rfl ?_
    refine V.iload_n (q := 22) F dX6_dealt_21 rfl rfl rfl ?_
    refine V.iload_n (q := 23) F dX6_dealt_22 rfl rfl rfl ?_
    refine V.callS (q := 26) F [] dX6_dealt_23 rfl (c_X6_roseOf l G  _ _ ) gX6_dealt_X6_roseOf rfl ydX6_roseOf ⟨Nat.le_of_ble_eq_true rfl, Nat.le_of_ble_eq_true rfl⟩ rfl rfl (Nat.le_of_ble_eq_true rfl) rfl rfl ⟨Nat.zero_le _, Nat.zero_le _⟩ (kkf (st' := [_, _, _]) (ws' := [_, _, _, _, _, _, _, _, _, _, _, _, _, _, _, _, _, _, _, _, _, _, _, _, _, _, _]) rfl rfl ?_)
    refine V.callV (q := 29) F [14, 15, 16, 17, 1, 2] 14 dX6_dealt_26 rfl (c_X4_fillByDealing l G (A 14) (A 15) (A 16) (A 17) (A 1) (A 2) (A 3) _ _ _ _ _ _ (by omega) hI) gX6_dealt_X4_fillByDealing rfl rfl ydX4_fillByDealing ⟨Nat.le_of_ble_eq_true rfl, Nat.le_of_ble_eq_true rfl⟩ (ci := 4) rfl rfl rfl rfl (Nat.le_of_ble_eq_true rfl) rfl rfl ⟨Nat.zero_le _, Nat.zero_le _⟩ (kkf (st' := []) (ws' := [_, _, _, _, _, _, _, _, _, _, _, _, _, _, _, _, _, _, _, _, _, _, _, _, _, _, _]) rfl rfl ?_)
    refine V.aload_n (q := 30) F dX6_dealt_29 rfl rfl rfl ?_
    refine V.get (q := 33) F 0 6 dX6_dealt_30 rfl rfl rfl inX6_dealt_X6 (by decide) (List.mem_of_getElem? (i := 1) rfl) rfl ?_
    refine V.get (q := 36) F 14 0 dX6_dealt_33 rfl rfl rfl inX6_dealt_X4 (by decide) (List.mem_of_getElem? (i := 3) rfl) rfl ?_
    refine V.iload_n (q := 37) F dX6_dealt_36 rfl rfl rfl ?_
    refine V.iload (q := 39) F dX6_dealt_37 rfl rfl ?_
    refine V.callS (q := 42) F [] dX6_dealt_39 rfl (c_X6_partOf l G  _ _ ) gX6_dealt_X6_partOf rfl ydX6_partOf ⟨Nat.le_of_ble_eq_true rfl, Nat.le_of_ble_eq_true rfl⟩ rfl rfl (Nat.le_of_ble_eq_true rfl) rfl rfl ⟨Nat.zero_le _, Nat.zero_le _⟩ (kkf (st' := [_, _]) (ws' := [_, _, _, _, _, _, _, _, _, _, _, _, _, _, _, _, _, _, _, _, _, _, _, _, _, _, _]) rfl rfl ?_)
    refine V.iald (q := 43) F 15 dX6_dealt_42 rfl rfl (by decide) (by omega) ?_
    rw [(dlN_congr (m' := srm a (p * 4 + q)) (s' := (shq a (p * 4 + q), fun _ => 0)) (fun j h1 h2 => fil_in _ _ h1 h2) (fun j h1 h2 => ⟨fil_in _ _ h1 h2, (show fil (fun _ => 0) g1 48 j = 0 from fil_in _ _ h1 h2)⟩) (mis a (p * 4 + q)).toNat (d * 3 + k) (by omega) (by omega)).1]
    have hde : (dlN (srm a (p * 4 + q)) (shq a (p * 4 + q), fun _ => 0) (mis a (p * 4 + q)).toNat).1 (d * 3 + k) = dez a (p * 4 + q) (d * 3 + k) := rfl
    rw [hde]
    exact V.iret F T dX6_dealt_43 ⟨⟨(_, _, _, _, _), (_, _, _), (_, _, _), (_, _, _), (_, _, _, _, _, _, _, _)⟩, (iEq (by unfold rDealt; omega)), rfl⟩ [(A 0), (A 1), (A 2), (A 3), (A 4), (A 5), (A 6), (A 7), (A 8), (A 9), (A 10), (A 11), (A 12), (A 13), (A 14), (A 15), (A 16), (A 17), (A 18), (A 19), (A 20), (A 21), (A 22), (A 23), (A 24), (A 25), (A 26)] rfl rfl
  · refine V.iconst (q := 12) F dX6_dealt_11 rfl ?_
    exact V.iret F T dX6_dealt_12 ⟨⟨(_, _, _, _, _), (_, _, _), (_, _, _), (_, _, _), (_, _, _, _, _, _, _, _)⟩, (iEq (by unfold rDealt; omega)), rfl⟩ [(A 0), (A 1), (A 2), (A 3), (A 4), (A 5), (A 6), (A 7), (A 8), (A 9), (A 10), (A 11), (A 12), (A 13), (A 14), (A 15), (A 16), (A 17), (A 18), (A 19), (A 20), (A 21), (A 22), (A 23), (A 24), (A 25), (A 26)] rfl rfl

abbrev YX6_quarter (l : Launch) (G : Gx) : Sx := (cX6_quarter, 8, RX6, wsX6_quarter, rmD 3, l, G)
theorem ydX6_quarter : ydOk yX6_quarter 3 := by decide +kernel
set_option maxHeartbeats 1000000 in
set_option maxRecDepth 20000 in
theorem c_X6_quarter (l : Launch) (G : Gx) (A : Nat → Nat) (a tt R sn t rs ds ss hs f1 m1 g1 f2 m2 g2 f3 m3 g3 : Int → Int) (o s bb n E P mi1 mi2 mi3 df dq sc p q k : Int) (hI : Inv a) (ho : 0 ≤ o ∧ o < 4) (hq : 0 ≤ s ∧ s ≤ 4) (hbb : 0 ≤ bb ∧ bb ≤ 1) (hn : 0 ≤ n ∧ n ≤ 80) (ht : ∀ j, 0 ≤ t j ∧ t j < 65536) (hrp : -2147483648 ≤ p ∧ p < 2147483648) (hrq : -2147483648 ≤ q ∧ q < 2147483648) (hrk : -2147483648 ≤ k ∧ k < 2147483648) : Ct l G yX6_quarter wsX6_quarter (rmD 3) [.ref (A 0), .int (zI p), .int (zI q), .int (zI k)] [((A 0), .inr (6, [.ref (A 1), .ref (A 4), .ref (A 6), .int (zI bb), .ref (A 9), .ref (A 7), .ref (A 14), .ref (A 18), .ref (A 22)])), ((A 1), .inr (0, [.ref (A 2), .ref (A 3)])), ((A 2), aI G 26181 a), ((A 3), aI G 1584 tt), ((A 4), .inr (2, [.ref (A 5), .int (zI o), .int (zI s)])), ((A 5), aI G 104724 R), ((A 6), aI G 26181 sn), ((A 7), .inr (5, [.ref (A 8), .int (zI n)])), ((A 8), aC G 80 t), ((A 9), .inr (3, [.ref (A 7), .ref (A 10), .ref (A 11), .ref (A 12), .ref (A 13), .int (zI E), .int (zI P)])), ((A 10), aI G 16 rs), ((A 11), aI G 16 ds), ((A 12), aI G 16 ss), ((A 13), aI G 16 hs), ((A 14), .inr (4, [.ref (A 15), .ref (A 16), .ref (A 17), .int (zI mi1)])), ((A 15), aI G 48 f1), ((A 16), aI G 48 m1), ((A 17), aZ G 48 g1), ((A 18), .inr (4, [.ref (A 19), .ref (A 20), .ref (A 21), .int (zI mi2)])), ((A 19), aI G 48 f2), ((A 20), aI G 48 m2), ((A 21), aZ G 48 g2), ((A 22), .inr (1, [.ref (A 23), .int (zI df), .int (zI dq), .int (zI sc)])), ((A 23), .inr (4, [.ref (A 24), .ref (A 25), .ref (A 26), .int (zI mi3)])), ((A 24), aI G 48 f3), ((A 25), aI G 48 m3), ((A 26), aZ G 48 g3)] (RdX A G a o s R bb sn t n (rQuar a p q k)) := by
  refine Ct.intro (cc := cX6_quarter) (maxL := 8) (ret := (some .int)) (lo0 := [some (.ref (A 0)), some (.int (zI p)), some (.int (zI q)), some (.int (zI k)), none, none, none, none]) (by decide +kernel) rfl ⟨rfl, rfl⟩ (Nat.le_of_ble_eq_true rfl) rfl ?_
  intro X F T
  change Fx X (YX6_quarter l G) at F
  change V X (YX6_quarter l G) 0 0 0 _ _ _
  refine V.iload_n (q := 1) F dX6_quarter_0 rfl rfl rfl ?_
  refine V.iload_n (q := 2) F dX6_quarter_1 rfl rfl rfl ?_
  refine V.callS (q := 5) F [] dX6_quarter_2 rfl (c_X6_isRose l G  _ _ (by omega) (by omega)) gX6_quarter_X6_isRose rfl ydX6_isRose ⟨Nat.le_of_ble_eq_true rfl, Nat.le_of_ble_eq_true rfl⟩ rfl rfl (Nat.le_of_ble_eq_true rfl) rfl rfl ⟨Nat.zero_le _, Nat.zero_le _⟩ (kkf (st' := [_]) (ws' := [_, _, _, _, _, _, _, _, _, _, _, _, _, _, _, _, _, _, _, _, _, _, _, _, _, _, _]) rfl rfl ?_)
  refine V.if_eq (q := 8) (tgt := 17) F dX6_quarter_5 rfl (by decide) (by omega) (fun k5 => ?_) (fun k5 => ?_)
  · refine V.iconst (q := 18) F dX6_quarter_17 rfl ?_
    exact V.iret F T dX6_quarter_18 ⟨⟨(_, _, _, _, _), (_, _, _), (_, _, _), (_, _, _), (_, _, _, _, _, _, _, _)⟩, (iEq (by unfold rQuar; omega)), rfl⟩ [(A 0), (A 1), (A 2), (A 3), (A 4), (A 5), (A 6), (A 7), (A 8), (A 9), (A 10), (A 11), (A 12), (A 13), (A 14), (A 15), (A 16), (A 17), (A 18), (A 19), (A 20), (A 21), (A 22), (A 23), (A 24), (A 25), (A 26)] rfl rfl
  · refine V.iload_n (q := 9) F dX6_quarter_8 rfl rfl rfl ?_
    refine V.iconst (q := 10) F dX6_quarter_9 rfl ?_
    refine V.iconst (q := 11) F dX6_quarter_10 rfl ?_
    refine V.callS (q := 14) F [] dX6_quarter_11 rfl (c_X6_isBetween l G  _ _ _ (by omega) (by omega) (by omega)) gX6_quarter_X6_isBetween rfl ydX6_isBetween ⟨Nat.le_of_ble_eq_true rfl, Nat.le_of_ble_eq_true rfl⟩ rfl rfl (Nat.le_of_ble_eq_true rfl) rfl rfl ⟨Nat.zero_le _, Nat.zero_le _⟩ (kkf (st' := [_]) (ws' := [_, _, _, _, _, _, _, _, _, _, _, _, _, _, _, _, _, _, _, _, _, _, _, _, _, _, _]) rfl rfl ?_)
    refine V.if_ne (q := 17) (tgt := 19) F dX6_quarter_14 rfl (by decide) (by omega) (fun k14 => ?_) (fun k14 => ?_)
    · refine V.iload_n (q := 20) F dX6_quarter_19 rfl rfl rfl ?_
      refine V.iload_n (q := 21) F dX6_quarter_20 rfl rfl rfl ?_
      refine V.callS (q := 24) F [] dX6_quarter_21 rfl (c_X6_roseOf l G  _ _ ) gX6_quarter_X6_roseOf rfl ydX6_roseOf ⟨Nat.le_of_ble_eq_true rfl, Nat.le_of_ble_eq_true rfl⟩ rfl rfl (Nat.le_of_ble_eq_true rfl) rfl rfl ⟨Nat.zero_le _, Nat.zero_le _⟩ (kkf (st' := [_]) (ws' := [_, _, _, _, _, _, _, _, _, _, _, _, _, _, _, _, _, _, _, _, _, _, _, _, _, _, _]) rfl rfl ?_)
      refine V.istore (q := 26) (lo' := [_, _, _, _, _, _, _, _]) F dX6_quarter_24 rfl (Nat.le_of_ble_eq_true rfl) rfl rfl ?_
      have hr : 0 ≤ p * 4 + q ∧ p * 4 + q < 16 := by omega
      have hw := hI.w hr
      have hh := fun d => hoz1_rng hI hr d
      have g1 := hh (k * 4 - 1)
      have g2 := hh (k * 4)
      have g3 := hh (k * 4 + 1)
      have g4 := hh (k * 4 - 2)
      have g5 := hh (k * 4 + 2)
      have ef : ∀ d, hbz a (p * 4 + q) (d % 16) 1 100 = hoz1 a (p * 4 + q) d := fun d => rfl
      refine V.iload_n (q := 27) F dX6_quarter_26 rfl rfl rfl ?_
      refine V.iconst (q := 28) F dX6_quarter_27 rfl ?_
      refine V.imul (q := 29) F dX6_quarter_28 rfl ?_
      refine V.istore (q := 31) (lo' := [_, _, _, _, _, _, _, _]) F dX6_quarter_29 rfl (Nat.le_of_ble_eq_true rfl) rfl rfl ?_
      refine V.aload_n (q := 32) F dX6_quarter_31 rfl rfl rfl ?_
      refine V.iload (q := 34) F dX6_quarter_32 rfl rfl ?_
      refine V.iload (q := 36) F dX6_quarter_34 rfl rfl ?_
      refine V.iconst (q := 37) F dX6_quarter_36 rfl ?_
      refine V.isub (q := 38) F dX6_quarter_37 rfl ?_
      refine V.callV (q := 41) F [0, 1, 2] 0 dX6_quarter_38 rfl (c_X6_hoursFrom l G (A 0) (A 1) (A 2) (A 3) (A 4) (A 6) (A 7) (A 9) (A 14) (A 18) (A 22) _ _ _ _ (by omega) (by omega)) gX6_quarter_X6_hoursFrom rfl rfl ydX6_hoursFrom ⟨Nat.le_of_ble_eq_true rfl, Nat.le_of_ble_eq_true rfl⟩ (ci := 6) rfl rfl rfl rfl (Nat.le_of_ble_eq_true rfl) rfl rfl ⟨Nat.zero_le _, Nat.zero_le _⟩ (kkf (st' := [_]) (ws' := [_, _, _, _, _, _, _, _, _, _, _, _, _, _, _, _, _, _, _, _, _, _, _, _, _, _, _]) rfl rfl ?_)
      refine V.aload_n (q := 42) F dX6_quarter_41 rfl rfl rfl ?_
      refine V.iload (q := 44) F dX6_quarter_42 rfl rfl ?_
      refine V.iload (q := 46) F dX6_quarter_44 rfl rfl ?_
      refine V.callV (q := 49) F [0, 1, 2] 0 dX6_quarter_46 rfl (c_X6_hoursFrom l G (A 0) (A 1) (A 2) (A 3) (A 4) (A 6) (A 7) (A 9) (A 14) (A 18) (A 22) _ _ _ _ (by omega) (by omega)) gX6_quarter_X6_hoursFrom rfl rfl ydX6_hoursFrom ⟨Nat.le_of_ble_eq_true rfl, Nat.le_of_ble_eq_true rfl⟩ (ci := 6) rfl rfl rfl rfl (Nat.le_of_ble_eq_true rfl) rfl rfl ⟨Nat.zero_le _, Nat.zero_le _⟩ (kkf (st' := [_, _]) (ws' := [_, _, _, _, _, _, _, _, _, _, _, _, _, _, _, _, _, _, _, _, _, _, _, _, _, _, _]) rfl rfl ?_)
      refine V.iadd (q := 50) F dX6_quarter_49 rfl ?_
      refine V.aload_n (q := 51) F dX6_quarter_50 rfl rfl rfl ?_
      refine V.iload (q := 53) F dX6_quarter_51 rfl rfl ?_
      refine V.iload (q := 55) F dX6_quarter_53 rfl rfl ?_
      refine V.iconst (q := 56) F dX6_quarter_55 rfl ?_
      refine V.iadd (q := 57) F dX6_quarter_56 rfl ?_
      refine V.callV (q := 60) F [0, 1, 2] 0 dX6_quarter_57 rfl (c_X6_hoursFrom l G (A 0) (A 1) (A 2) (A 3) (A 4) (A 6) (A 7) (A 9) (A 14) (A 18) (A 22) _ _ _ _ (by omega) (by omega)) gX6_quarter_X6_hoursFrom rfl rfl ydX6_hoursFrom ⟨Nat.le_of_ble_eq_true rfl, Nat.le_of_ble_eq_true rfl⟩ (ci := 6) rfl rfl rfl rfl (Nat.le_of_ble_eq_true rfl) rfl rfl ⟨Nat.zero_le _, Nat.zero_le _⟩ (kkf (st' := [_, _]) (ws' := [_, _, _, _, _, _, _, _, _, _, _, _, _, _, _, _, _, _, _, _, _, _, _, _, _, _, _]) rfl rfl ?_)
      refine V.iadd (q := 61) F dX6_quarter_60 rfl ?_
      refine V.istore (q := 63) (lo' := [_, _, _, _, _, _, _, _]) F dX6_quarter_61 rfl (Nat.le_of_ble_eq_true rfl) rfl rfl ?_
      refine V.aload_n (q := 64) F dX6_quarter_63 rfl rfl rfl ?_
      refine V.iload (q := 66) F dX6_quarter_64 rfl rfl ?_
      refine V.iload (q := 68) F dX6_quarter_66 rfl rfl ?_
      refine V.iconst (q := 69) F dX6_quarter_68 rfl ?_
      refine V.isub (q := 70) F dX6_quarter_69 rfl ?_
      refine V.callV (q := 73) F [0, 1, 2] 0 dX6_quarter_70 rfl (c_X6_hoursFrom l G (A 0) (A 1) (A 2) (A 3) (A 4) (A 6) (A 7) (A 9) (A 14) (A 18) (A 22) _ _ _ _ (by omega) (by omega)) gX6_quarter_X6_hoursFrom rfl rfl ydX6_hoursFrom ⟨Nat.le_of_ble_eq_true rfl, Nat.le_of_ble_eq_true rfl⟩ (ci := 6) rfl rfl rfl rfl (Nat.le_of_ble_eq_true rfl) rfl rfl ⟨Nat.zero_le _, Nat.zero_le _⟩ (kkf (st' := [_]) (ws' := [_, _, _, _, _, _, _, _, _, _, _, _, _, _, _, _, _, _, _, _, _, _, _, _, _, _, _]) rfl rfl ?_)
      refine V.aload_n (q := 74) F dX6_quarter_73 rfl rfl rfl ?_
      refine V.iload (q := 76) F dX6_quarter_74 rfl rfl ?_
      refine V.iload (q := 78) F dX6_quarter_76 rfl rfl ?_
      refine V.iconst (q := 79) F dX6_quarter_78 rfl ?_
      refine V.iadd (q := 80) F dX6_quarter_79 rfl ?_
      refine V.callV (q := 83) F [0, 1, 2] 0 dX6_quarter_80 rfl (c_X6_hoursFrom l G (A 0) (A 1) (A 2) (A 3) (A 4) (A 6) (A 7) (A 9) (A 14) (A 18) (A 22) _ _ _ _ (by omega) (by omega)) gX6_quarter_X6_hoursFrom rfl rfl ydX6_hoursFrom ⟨Nat.le_of_ble_eq_true rfl, Nat.le_of_ble_eq_true rfl⟩ (ci := 6) rfl rfl rfl rfl (Nat.le_of_ble_eq_true rfl) rfl rfl ⟨Nat.zero_le _, Nat.zero_le _⟩ (kkf (st' := [_, _]) (ws' := [_, _, _, _, _, _, _, _, _, _, _, _, _, _, _, _, _, _, _, _, _, _, _, _, _, _, _]) rfl rfl ?_)
      refine V.iadd (q := 84) F dX6_quarter_83 rfl ?_
      refine V.istore (q := 86) (lo' := [_, _, _, _, _, _, _, _]) F dX6_quarter_84 rfl (Nat.le_of_ble_eq_true rfl) rfl rfl ?_
      refine V.iload (q := 88) F dX6_quarter_86 rfl rfl ?_
      refine V.iload (q := 90) F dX6_quarter_88 rfl rfl ?_
      refine V.iconst (q := 91) F dX6_quarter_90 rfl ?_
      simp only [ef]
      refine V.idiv (q := 92) F dX6_quarter_91 rfl (by omega) ?_
      refine V.iadd (q := 93) F dX6_quarter_92 rfl ?_
      exact V.iret F T dX6_quarter_93 ⟨⟨(_, _, _, _, _), (_, _, _), (_, _, _), (_, _, _), (_, _, _, _, _, _, _, _)⟩, (iEq (by unfold rQuar; omega)), rfl⟩ [(A 0), (A 1), (A 2), (A 3), (A 4), (A 5), (A 6), (A 7), (A 8), (A 9), (A 10), (A 11), (A 12), (A 13), (A 14), (A 15), (A 16), (A 17), (A 18), (A 19), (A 20), (A 21), (A 22), (A 23), (A 24), (A 25), (A 26)] rfl rfl
    · refine V.iconst (q := 18) F dX6_quarter_17 rfl ?_
      exact V.iret F T dX6_quarter_18 ⟨⟨(_, _, _, _, _), (_, _, _), (_, _, _), (_, _, _), (_, _, _, _, _, _, _, _)⟩, (iEq (by unfold rQuar; omega)), rfl⟩ [(A 0), (A 1), (A 2), (A 3), (A 4), (A 5), (A 6), (A 7), (A 8), (A 9), (A 10), (A 11), (A 12), (A 13), (A 14), (A 15), (A 16), (A 17), (A 18), (A 19), (A 20), (A 21), (A 22), (A 23), (A 24), (A 25), (A 26)] rfl rfl

abbrev YX6_excess (l : Launch) (G : Gx) : Sx := (cX6_excess, 6, RX6, wsX6_excess, rmD 3, l, G)
theorem ydX6_excess : ydOk yX6_excess 3 := by decide +kernel
set_option maxHeartbeats 1000000 in
set_option maxRecDepth 20000 in
theorem c_X6_excess (l : Launch) (G : Gx) (A : Nat → Nat) (a tt R sn t rs ds ss hs f1 m1 g1 f2 m2 g2 f3 m3 g3 : Int → Int) (o s bb n E P mi1 mi2 mi3 df dq sc p q d : Int) (hI : Inv a) (ho : 0 ≤ o ∧ o < 4) (hq : 0 ≤ s ∧ s ≤ 4) (hbb : 0 ≤ bb ∧ bb ≤ 1) (hn : 0 ≤ n ∧ n ≤ 80) (ht : ∀ j, 0 ≤ t j ∧ t j < 65536) (hrp : -2147483648 ≤ p ∧ p < 2147483648) (hrq : -2147483648 ≤ q ∧ q < 2147483648) (hrd : -2147483648 ≤ d ∧ d < 2147483648) : Ct l G yX6_excess wsX6_excess (rmD 3) [.ref (A 0), .int (zI p), .int (zI q), .int (zI d)] [((A 0), .inr (6, [.ref (A 1), .ref (A 4), .ref (A 6), .int (zI bb), .ref (A 9), .ref (A 7), .ref (A 14), .ref (A 18), .ref (A 22)])), ((A 1), .inr (0, [.ref (A 2), .ref (A 3)])), ((A 2), aI G 26181 a), ((A 3), aI G 1584 tt), ((A 4), .inr (2, [.ref (A 5), .int (zI o), .int (zI s)])), ((A 5), aI G 104724 R), ((A 6), aI G 26181 sn), ((A 7), .inr (5, [.ref (A 8), .int (zI n)])), ((A 8), aC G 80 t), ((A 9), .inr (3, [.ref (A 7), .ref (A 10), .ref (A 11), .ref (A 12), .ref (A 13), .int (zI E), .int (zI P)])), ((A 10), aI G 16 rs), ((A 11), aI G 16 ds), ((A 12), aI G 16 ss), ((A 13), aI G 16 hs), ((A 14), .inr (4, [.ref (A 15), .ref (A 16), .ref (A 17), .int (zI mi1)])), ((A 15), aI G 48 f1), ((A 16), aI G 48 m1), ((A 17), aZ G 48 g1), ((A 18), .inr (4, [.ref (A 19), .ref (A 20), .ref (A 21), .int (zI mi2)])), ((A 19), aI G 48 f2), ((A 20), aI G 48 m2), ((A 21), aZ G 48 g2), ((A 22), .inr (1, [.ref (A 23), .int (zI df), .int (zI dq), .int (zI sc)])), ((A 23), .inr (4, [.ref (A 24), .ref (A 25), .ref (A 26), .int (zI mi3)])), ((A 24), aI G 48 f3), ((A 25), aI G 48 m3), ((A 26), aZ G 48 g3)] (RdX A G a o s R bb sn t n (rExc a p q d)) := by
  refine Ct.intro (cc := cX6_excess) (maxL := 6) (ret := (some .int)) (lo0 := [some (.ref (A 0)), some (.int (zI p)), some (.int (zI q)), some (.int (zI d)), none, none]) (by decide +kernel) rfl ⟨rfl, rfl⟩ (Nat.le_of_ble_eq_true rfl) rfl ?_
  intro X F T
  change Fx X (YX6_excess l G) at F
  change V X (YX6_excess l G) 0 0 0 _ _ _
  refine V.iload_n (q := 1) F dX6_excess_0 rfl rfl rfl ?_
  refine V.iload_n (q := 2) F dX6_excess_1 rfl rfl rfl ?_
  refine V.callS (q := 5) F [] dX6_excess_2 rfl (c_X6_isRose l G  _ _ (by omega) (by omega)) gX6_excess_X6_isRose rfl ydX6_isRose ⟨Nat.le_of_ble_eq_true rfl, Nat.le_of_ble_eq_true rfl⟩ rfl rfl (Nat.le_of_ble_eq_true rfl) rfl rfl ⟨Nat.zero_le _, Nat.zero_le _⟩ (kkf (st' := [_]) (ws' := [_, _, _, _, _, _, _, _, _, _, _, _, _, _, _, _, _, _, _, _, _, _, _, _, _, _, _]) rfl rfl ?_)
  refine V.if_eq (q := 8) (tgt := 15) F dX6_excess_5 rfl (by decide) (by omega) (fun k5 => ?_) (fun k5 => ?_)
  · refine V.iconst (q := 16) F dX6_excess_15 rfl ?_
    exact V.iret F T dX6_excess_16 ⟨⟨(_, _, _, _, _), (_, _, _), (_, _, _), (_, _, _), (_, _, _, _, _, _, _, _)⟩, (iEq (by unfold rExc; omega)), rfl⟩ [(A 0), (A 1), (A 2), (A 3), (A 4), (A 5), (A 6), (A 7), (A 8), (A 9), (A 10), (A 11), (A 12), (A 13), (A 14), (A 15), (A 16), (A 17), (A 18), (A 19), (A 20), (A 21), (A 22), (A 23), (A 24), (A 25), (A 26)] rfl rfl
  · refine V.iload_n (q := 9) F dX6_excess_8 rfl rfl rfl ?_
    refine V.callS (q := 12) F [] dX6_excess_9 rfl (c_X6_isDirection l G  _ (by omega)) gX6_excess_X6_isDirection rfl ydX6_isDirection ⟨Nat.le_of_ble_eq_true rfl, Nat.le_of_ble_eq_true rfl⟩ rfl rfl (Nat.le_of_ble_eq_true rfl) rfl rfl ⟨Nat.zero_le _, Nat.zero_le _⟩ (kkf (st' := [_]) (ws' := [_, _, _, _, _, _, _, _, _, _, _, _, _, _, _, _, _, _, _, _, _, _, _, _, _, _, _]) rfl rfl ?_)
    refine V.if_ne (q := 15) (tgt := 17) F dX6_excess_12 rfl (by decide) (by omega) (fun k12 => ?_) (fun k12 => ?_)
    · refine V.iload_n (q := 18) F dX6_excess_17 rfl rfl rfl ?_
      refine V.iload_n (q := 19) F dX6_excess_18 rfl rfl rfl ?_
      refine V.callS (q := 22) F [] dX6_excess_19 rfl (c_X6_roseOf l G  _ _ ) gX6_excess_X6_roseOf rfl ydX6_roseOf ⟨Nat.le_of_ble_eq_true rfl, Nat.le_of_ble_eq_true rfl⟩ rfl rfl (Nat.le_of_ble_eq_true rfl) rfl rfl ⟨Nat.zero_le _, Nat.zero_le _⟩ (kkf (st' := [_]) (ws' := [_, _, _, _, _, _, _, _, _, _, _, _, _, _, _, _, _, _, _, _, _, _, _, _, _, _, _]) rfl rfl ?_)
      refine V.istore (q := 24) (lo' := [_, _, _, _, _, _]) F dX6_excess_22 rfl (Nat.le_of_ble_eq_true rfl) rfl rfl ?_
      have hr : 0 ≤ p * 4 + q ∧ p * 4 + q < 16 := by omega
      have hw := hI.w hr
      have hh := fun d => hoz1_rng hI hr d
      have g1 := hh d
      have g2 := hh (d + 8)
      have ef : ∀ d, hbz a (p * 4 + q) (d % 16) 1 100 = hoz1 a (p * 4 + q) d := fun d => rfl
      refine V.iload_n (q := 25) F dX6_excess_24 rfl rfl rfl ?_
      refine V.bipush (q := 27) F dX6_excess_25 rfl (by decide) ?_
      refine V.iadd (q := 28) F dX6_excess_27 rfl ?_
      refine V.istore (q := 30) (lo' := [_, _, _, _, _, _]) F dX6_excess_28 rfl (Nat.le_of_ble_eq_true rfl) rfl rfl ?_
      refine V.iconst (q := 31) F dX6_excess_30 rfl ?_
      refine V.aload_n (q := 32) F dX6_excess_31 rfl rfl rfl ?_
      refine V.iload (q := 34) F dX6_excess_32 rfl rfl ?_
      refine V.iload_n (q := 35) F dX6_excess_34 rfl rfl rfl ?_
      refine V.callV (q := 38) F [0, 1, 2] 0 dX6_excess_35 rfl (c_X6_hoursFrom l G (A 0) (A 1) (A 2) (A 3) (A 4) (A 6) (A 7) (A 9) (A 14) (A 18) (A 22) _ _ _ _ (by omega) (by omega)) gX6_excess_X6_hoursFrom rfl rfl ydX6_hoursFrom ⟨Nat.le_of_ble_eq_true rfl, Nat.le_of_ble_eq_true rfl⟩ (ci := 6) rfl rfl rfl rfl (Nat.le_of_ble_eq_true rfl) rfl rfl ⟨Nat.zero_le _, Nat.zero_le _⟩ (kkf (st' := [_, _]) (ws' := [_, _, _, _, _, _, _, _, _, _, _, _, _, _, _, _, _, _, _, _, _, _, _, _, _, _, _]) rfl rfl ?_)
      refine V.aload_n (q := 39) F dX6_excess_38 rfl rfl rfl ?_
      refine V.iload (q := 41) F dX6_excess_39 rfl rfl ?_
      refine V.iload (q := 43) F dX6_excess_41 rfl rfl ?_
      refine V.callV (q := 46) F [0, 1, 2] 0 dX6_excess_43 rfl (c_X6_hoursFrom l G (A 0) (A 1) (A 2) (A 3) (A 4) (A 6) (A 7) (A 9) (A 14) (A 18) (A 22) _ _ _ _ (by omega) (by omega)) gX6_excess_X6_hoursFrom rfl rfl ydX6_hoursFrom ⟨Nat.le_of_ble_eq_true rfl, Nat.le_of_ble_eq_true rfl⟩ (ci := 6) rfl rfl rfl rfl (Nat.le_of_ble_eq_true rfl) rfl rfl ⟨Nat.zero_le _, Nat.zero_le _⟩ (kkf (st' := [_, _, _]) (ws' := [_, _, _, _, _, _, _, _, _, _, _, _, _, _, _, _, _, _, _, _, _, _, _, _, _, _, _]) rfl rfl ?_)
      refine V.isub (q := 47) F dX6_excess_46 rfl ?_
      simp only [ef]
      refine V.mmax (q := 50) F dX6_excess_47 rfl (List.mem_of_getElem? (i := 1) rfl) (List.mem_of_getElem? (i := 2) rfl) (List.mem_of_getElem? (i := 3) rfl) (List.mem_of_getElem? (i := 4) rfl) (Nat.le_of_ble_eq_true rfl) (Nat.le_of_ble_eq_true rfl) ⟨Nat.zero_le _, Nat.zero_le _⟩ (by omega) ?_
      exact V.iret F T dX6_excess_50 ⟨⟨(_, _, _, _, _), (_, _, _), (_, _, _), (_, _, _), (_, _, _, _, _, _, _, _)⟩, (iEq (by unfold rExc; omega)), rfl⟩ [(A 0), (A 1), (A 2), (A 3), (A 4), (A 5), (A 6), (A 7), (A 8), (A 9), (A 10), (A 11), (A 12), (A 13), (A 14), (A 15), (A 16), (A 17), (A 18), (A 19), (A 20), (A 21), (A 22), (A 23), (A 24), (A 25), (A 26)] rfl rfl
    · refine V.iconst (q := 16) F dX6_excess_15 rfl ?_
      exact V.iret F T dX6_excess_16 ⟨⟨(_, _, _, _, _), (_, _, _), (_, _, _), (_, _, _), (_, _, _, _, _, _, _, _)⟩, (iEq (by unfold rExc; omega)), rfl⟩ [(A 0), (A 1), (A 2), (A 3), (A 4), (A 5), (A 6), (A 7), (A 8), (A 9), (A 10), (A 11), (A 12), (A 13), (A 14), (A 15), (A 16), (A 17), (A 18), (A 19), (A 20), (A 21), (A 22), (A 23), (A 24), (A 25), (A 26)] rfl rfl

abbrev YX6_unlike (l : Launch) (G : Gx) : Sx := (cX6_unlike, 6, RX6, wsX6_unlike, rmD 4, l, G)
theorem ydX6_unlike : ydOk yX6_unlike 3 := by decide +kernel
theorem inX6_unlike_X4 : ∀ w ∈ wsX40, w ∈ wsX6_unlike := fun _ h => List.mem_cons_of_mem _ (List.mem_append_left _ (List.mem_append_right _ h))
theorem inX6_unlike_X6 : ∀ w ∈ wsX60, w ∈ wsX6_unlike := fun _ h => List.mem_cons_of_mem _ (List.mem_append_left _ (List.mem_append_left _ (List.mem_append_right _ h)))
set_option maxHeartbeats 1000000 in
set_option maxRecDepth 20000 in
theorem c_X6_unlike (l : Launch) (G : Gx) (A : Nat → Nat) (a tt R sn t rs ds ss hs f1 m1 g1 f2 m2 g2 f3 m3 g3 : Int → Int) (o s bb n E P mi1 mi2 mi3 df dq sc p u q : Int) (hI : Inv a) (ho : 0 ≤ o ∧ o < 4) (hq : 0 ≤ s ∧ s ≤ 4) (hbb : 0 ≤ bb ∧ bb ≤ 1) (hn : 0 ≤ n ∧ n ≤ 80) (ht : ∀ j, 0 ≤ t j ∧ t j < 65536) (hrp : -2147483648 ≤ p ∧ p < 2147483648) (hru : -2147483648 ≤ u ∧ u < 2147483648) (hrq : -2147483648 ≤ q ∧ q < 2147483648) : Ct l G yX6_unlike wsX6_unlike (rmD 4) [.ref (A 0), .int (zI p), .int (zI u), .int (zI q)] [((A 0), .inr (6, [.ref (A 1), .ref (A 4), .ref (A 6), .int (zI bb), .ref (A 9), .ref (A 7), .ref (A 14), .ref (A 18), .ref (A 22)])), ((A 1), .inr (0, [.ref (A 2), .ref (A 3)])), ((A 2), aI G 26181 a), ((A 3), aI G 1584 tt), ((A 4), .inr (2, [.ref (A 5), .int (zI o), .int (zI s)])), ((A 5), aI G 104724 R), ((A 6), aI G 26181 sn), ((A 7), .inr (5, [.ref (A 8), .int (zI n)])), ((A 8), aC G 80 t), ((A 9), .inr (3, [.ref (A 7), .ref (A 10), .ref (A 11), .ref (A 12), .ref (A 13), .int (zI E), .int (zI P)])), ((A 10), aI G 16 rs), ((A 11), aI G 16 ds), ((A 12), aI G 16 ss), ((A 13), aI G 16 hs), ((A 14), .inr (4, [.ref (A 15), .ref (A 16), .ref (A 17), .int (zI mi1)])), ((A 15), aI G 48 f1), ((A 16), aI G 48 m1), ((A 17), aZ G 48 g1), ((A 18), .inr (4, [.ref (A 19), .ref (A 20), .ref (A 21), .int (zI mi2)])), ((A 19), aI G 48 f2), ((A 20), aI G 48 m2), ((A 21), aZ G 48 g2), ((A 22), .inr (1, [.ref (A 23), .int (zI df), .int (zI dq), .int (zI sc)])), ((A 23), .inr (4, [.ref (A 24), .ref (A 25), .ref (A 26), .int (zI mi3)])), ((A 24), aI G 48 f3), ((A 25), aI G 48 m3), ((A 26), aZ G 48 g3)] (RdX A G a o s R bb sn t n (rUnl a p u q)) := by
  refine Ct.intro (cc := cX6_unlike) (maxL := 6) (ret := (some .int)) (lo0 := [some (.ref (A 0)), some (.int (zI p)), some (.int (zI u)), some (.int (zI q)), none, none]) (by decide +kernel) rfl ⟨rfl, rfl⟩ (Nat.le_of_ble_eq_true rfl) rfl ?_
  intro X F T
  change Fx X (YX6_unlike l G) at F
  change V X (YX6_unlike l G) 0 0 0 _ _ _
  refine V.iload_n (q := 1) F dX6_unlike_0 rfl rfl rfl ?_
  refine V.iload_n (q := 2) F dX6_unlike_1 rfl rfl rfl ?_
  refine V.callS (q := 5) F [] dX6_unlike_2 rfl (c_X6_isRose l G  _ _ (by omega) (by omega)) gX6_unlike_X6_isRose rfl ydX6_isRose ⟨Nat.le_of_ble_eq_true rfl, Nat.le_of_ble_eq_true rfl⟩ rfl rfl (Nat.le_of_ble_eq_true rfl) rfl rfl ⟨Nat.zero_le _, Nat.zero_le _⟩ (kkf (st' := [_]) (ws' := [_, _, _, _, _, _, _, _, _, _, _, _, _, _, _, _, _, _, _, _, _, _, _, _, _, _, _]) rfl rfl ?_)
  refine V.if_eq (q := 8) (tgt := 16) F dX6_unlike_5 rfl (by decide) (by omega) (fun k5 => ?_) (fun k5 => ?_)
  · refine V.iconst (q := 17) F dX6_unlike_16 rfl ?_
    exact V.iret F T dX6_unlike_17 ⟨⟨(_, _, _, _, _), (_, _, _), (_, _, _), (_, _, _), (_, _, _, _, _, _, _, _)⟩, (iEq (by unfold rUnl; omega)), rfl⟩ [(A 0), (A 1), (A 2), (A 3), (A 4), (A 5), (A 6), (A 7), (A 8), (A 9), (A 10), (A 11), (A 12), (A 13), (A 14), (A 15), (A 16), (A 17), (A 18), (A 19), (A 20), (A 21), (A 22), (A 23), (A 24), (A 25), (A 26)] rfl rfl
  · refine V.iload_n (q := 9) F dX6_unlike_8 rfl rfl rfl ?_
    refine V.iload_n (q := 10) F dX6_unlike_9 rfl rfl rfl ?_
    refine V.callS (q := 13) F [] dX6_unlike_10 rfl (c_X6_isRose l G  _ _ (by omega) (by omega)) gX6_unlike_X6_isRose rfl ydX6_isRose ⟨Nat.le_of_ble_eq_true rfl, Nat.le_of_ble_eq_true rfl⟩ rfl rfl (Nat.le_of_ble_eq_true rfl) rfl rfl ⟨Nat.zero_le _, Nat.zero_le _⟩ (kkf (st' := [_]) (ws' := [_, _, _, _, _, _, _, _, _, _, _, _, _, _, _, _, _, _, _, _, _, _, _, _, _, _, _]) rfl rfl ?_)
    refine V.if_ne (q := 16) (tgt := 18) F dX6_unlike_13 rfl (by decide) (by omega) (fun k13 => ?_) (fun k13 => ?_)
    · refine V.iload_n (q := 19) F dX6_unlike_18 rfl rfl rfl ?_
      refine V.iload_n (q := 20) F dX6_unlike_19 rfl rfl rfl ?_
      refine V.icmp_ne (q := 23) (tgt := 26) F dX6_unlike_20 rfl (by decide) (by omega) (fun k20 => ?_) (fun k20 => ?_)
      · have hr : 0 ≤ p * 4 + q ∧ p * 4 + q < 16 := by omega
        have hr2 : 0 ≤ u * 4 + q ∧ u * 4 + q < 16 := by omega
        refine V.aload_n (q := 27) F dX6_unlike_26 rfl rfl rfl ?_
        refine V.get (q := 30) F 0 6 dX6_unlike_27 rfl rfl rfl inX6_unlike_X6 (by decide) (List.mem_of_getElem? (i := 1) rfl) rfl ?_
        refine V.aload_n (q := 31) F dX6_unlike_30 rfl rfl rfl ?_
        refine V.get (q := 34) F 0 0 dX6_unlike_31 rfl rfl rfl inX6_unlike_X6 (by decide) (List.mem_of_getElem? (i := 2) rfl) rfl ?_
        refine V.iload_n (q := 35) F dX6_unlike_34 rfl rfl rfl ?_
        refine V.iload_n (q := 36) F dX6_unlike_35 rfl rfl rfl ?_
        refine V.callS (q := 39) F [] dX6_unlike_36 rfl (c_X6_roseOf l G  _ _ ) gX6_unlike_X6_roseOf rfl ydX6_roseOf ⟨Nat.le_of_ble_eq_true rfl, Nat.le_of_ble_eq_true rfl⟩ rfl rfl (Nat.le_of_ble_eq_true rfl) rfl rfl ⟨Nat.zero_le _, Nat.zero_le _⟩ (kkf (st' := [_, _, _]) (ws' := [_, _, _, _, _, _, _, _, _, _, _, _, _, _, _, _, _, _, _, _, _, _, _, _, _, _, _]) rfl rfl ?_)
        refine V.callV (q := 42) F [14, 15, 16, 1, 2] 14 dX6_unlike_39 rfl (c_X4_fillByRank l G (A 14) (A 15) (A 16) (A 17) (A 1) (A 2) (A 3) _ _ _ _ _ (by omega) hI) gX6_unlike_X4_fillByRank rfl rfl ydX4_fillByRank ⟨Nat.le_of_ble_eq_true rfl, Nat.le_of_ble_eq_true rfl⟩ (ci := 4) rfl rfl rfl rfl (Nat.le_of_ble_eq_true rfl) rfl rfl ⟨Nat.zero_le _, Nat.zero_le _⟩ (kkf (st' := []) (ws' := [_, _, _, _, _, _, _, _, _, _, _, _, _, _, _, _, _, _, _, _, _, _, _, _, _, _, _]) rfl rfl ?_)
        refine V.aload_n (q := 43) F dX6_unlike_42 rfl rfl rfl ?_
        refine V.get (q := 46) F 0 7 dX6_unlike_43 rfl rfl rfl inX6_unlike_X6 (by decide) (List.mem_of_getElem? (i := 3) rfl) rfl ?_
        refine V.aload_n (q := 47) F dX6_unlike_46 rfl rfl rfl ?_
        refine V.get (q := 50) F 0 0 dX6_unlike_47 rfl rfl rfl inX6_unlike_X6 (by decide) (List.mem_of_getElem? (i := 2) rfl) rfl ?_
        refine V.iload_n (q := 51) F dX6_unlike_50 rfl rfl rfl ?_
        refine V.iload_n (q := 52) F dX6_unlike_51 rfl rfl rfl ?_
        refine V.callS (q := 55) F [] dX6_unlike_52 rfl (c_X6_roseOf l G  _ _ ) gX6_unlike_X6_roseOf rfl ydX6_roseOf ⟨Nat.le_of_ble_eq_true rfl, Nat.le_of_ble_eq_true rfl⟩ rfl rfl (Nat.le_of_ble_eq_true rfl) rfl rfl ⟨Nat.zero_le _, Nat.zero_le _⟩ (kkf (st' := [_, _, _]) (ws' := [_, _, _, _, _, _, _, _, _, _, _, _, _, _, _, _, _, _, _, _, _, _, _, _, _, _, _]) rfl rfl ?_)
        refine V.callV (q := 58) F [18, 19, 20, 1, 2] 18 dX6_unlike_55 rfl (c_X4_fillByRank l G (A 18) (A 19) (A 20) (A 21) (A 1) (A 2) (A 3) _ _ _ _ _ (by omega) hI) gX6_unlike_X4_fillByRank rfl rfl ydX4_fillByRank ⟨Nat.le_of_ble_eq_true rfl, Nat.le_of_ble_eq_true rfl⟩ (ci := 4) rfl rfl rfl rfl (Nat.le_of_ble_eq_true rfl) rfl rfl ⟨Nat.zero_le _, Nat.zero_le _⟩ (kkf (st' := []) (ws' := [_, _, _, _, _, _, _, _, _, _, _, _, _, _, _, _, _, _, _, _, _, _, _, _, _, _, _]) rfl rfl ?_)
        refine V.iconst (q := 59) F dX6_unlike_58 rfl ?_
        refine V.istore (q := 61) (lo' := [_, _, _, _, _, _]) F dX6_unlike_59 rfl (Nat.le_of_ble_eq_true rfl) rfl rfl ?_
        refine V.iconst (q := 62) F dX6_unlike_61 rfl ?_
        refine V.istore (q := 64) (lo' := [_, _, _, _, _, _]) F dX6_unlike_62 rfl (Nat.le_of_ble_eq_true rfl) rfl rfl ?_
        have L64 : ∀ (nq : Nat) (i S : Int) (hi : 0 ≤ i ∧ i ≤ 48) (hS : S = sz (fun j => absz (shr a (p * 4 + q) j - shr a (u * 4 + q) j)) 0 i), (48 - i).toNat < nq → V X (YX6_unlike l G) 0 0 64 [some (.ref (A 0)), some (.int (zI p)), some (.int (zI u)), some (.int (zI q)), some (.int (zI S)), some (.int (zI i))] [] [((A 0), .inr (6, [.ref (A 1), .ref (A 4), .ref (A 6), .int (zI bb), .ref (A 9), .ref (A 7), .ref (A 14), .ref (A 18), .ref (A 22)])), ((A 1), .inr (0, [.ref (A 2), .ref (A 3)])), ((A 2), aI G 26181 a), ((A 3), aI G 1584 tt), ((A 4), .inr (2, [.ref (A 5), .int (zI o), .int (zI s)])), ((A 5), aI G 104724 R), ((A 6), aI G 26181 sn), ((A 7), .inr (5, [.ref (A 8), .int (zI n)])), ((A 8), aC G 80 t), ((A 9), .inr (3, [.ref (A 7), .ref (A 10), .ref (A 11), .ref (A 12), .ref (A 13), .int (zI E), .int (zI P)])), ((A 10), aI G 16 rs), ((A 11), aI G 16 ds), ((A 12), aI G 16 ss), ((A 13), aI G 16 hs), ((A 14), .inr (4, [.ref (A 15), .ref (A 16), .ref (A 17), .int (zI (mis a (p * 4 + q)))])), ((A 15), aI G 48 (fil (shr a (p * 4 + q)) f1 48)), ((A 16), aI G 48 (fil (srm a (p * 4 + q)) m1 48)), ((A 17), aZ G 48 g1), ((A 18), .inr (4, [.ref (A 19), .ref (A 20), .ref (A 21), .int (zI (mis a (u * 4 + q)))])), ((A 19), aI G 48 (fil (shr a (u * 4 + q)) f2 48)), ((A 20), aI G 48 (fil (srm a (u * 4 + q)) m2 48)), ((A 21), aZ G 48 g2), ((A 22), .inr (1, [.ref (A 23), .int (zI df), .int (zI dq), .int (zI sc)])), ((A 23), .inr (4, [.ref (A 24), .ref (A 25), .ref (A 26), .int (zI mi3)])), ((A 24), aI G 48 f3), ((A 25), aI G 48 m3), ((A 26), aZ G 48 g3)] := by
          intro n64
          induction n64 with
          | zero => intro i S hi hS hm64; exact absurd hm64 (Nat.not_lt_zero _)
          | succ n64 ih64 =>
            intro i S hi hS hm64
            refine V.iload (q := 66) F dX6_unlike_64 rfl rfl ?_
            refine V.bipush (q := 68) F dX6_unlike_66 rfl (by decide) ?_
            refine V.icmp_ge (q := 71) (tgt := 106) F dX6_unlike_68 rfl (by decide) (by omega) (fun k68 => ?_) (fun k68 => ?_)
            · have he : i = 48 := by omega
              subst he
              refine V.iload (q := 108) F dX6_unlike_106 rfl rfl ?_
              exact V.iret F T dX6_unlike_108 ⟨⟨(_, _, _, _, _), (_, _, _), (_, _, _), (_, _, _), (_, _, _, _, _, _, _, _)⟩, (iEq (by unfold rUnl; rw [if_neg (by omega), if_neg (by omega), hS])), rfl⟩ [(A 0), (A 1), (A 2), (A 3), (A 4), (A 5), (A 6), (A 7), (A 8), (A 9), (A 10), (A 11), (A 12), (A 13), (A 14), (A 15), (A 16), (A 17), (A 18), (A 19), (A 20), (A 21), (A 22), (A 23), (A 24), (A 25), (A 26)] rfl rfl
            · refine V.iload (q := 73) F dX6_unlike_71 rfl rfl ?_
              refine V.aload_n (q := 74) F dX6_unlike_73 rfl rfl rfl ?_
              refine V.get (q := 77) F 0 6 dX6_unlike_74 rfl rfl rfl inX6_unlike_X6 (by decide) (List.mem_of_getElem? (i := 1) rfl) rfl ?_
              refine V.get (q := 80) F 14 0 dX6_unlike_77 rfl rfl rfl inX6_unlike_X4 (by decide) (List.mem_of_getElem? (i := 4) rfl) rfl ?_
              refine V.iload (q := 82) F dX6_unlike_80 rfl rfl ?_
              refine V.iald (q := 83) F 15 dX6_unlike_82 rfl rfl (by decide) (by omega) ?_
              refine V.aload_n (q := 84) F dX6_unlike_83 rfl rfl rfl ?_
              refine V.get (q := 87) F 0 7 dX6_unlike_84 rfl rfl rfl inX6_unlike_X6 (by decide) (List.mem_of_getElem? (i := 3) rfl) rfl ?_
              refine V.get (q := 90) F 18 0 dX6_unlike_87 rfl rfl rfl inX6_unlike_X4 (by decide) (List.mem_of_getElem? (i := 4) rfl) rfl ?_
              refine V.iload (q := 92) F dX6_unlike_90 rfl rfl ?_
              refine V.iald (q := 93) F 19 dX6_unlike_92 rfl rfl (by decide) (by omega) ?_
              rw [fil_in (shr a (p * 4 + q)) f1 (show 0 ≤ i by omega) (show i < 48 by omega), fil_in (shr a (u * 4 + q)) f2 (show 0 ≤ i by omega) (show i < 48 by omega)]
              have g1 := shr_rng hI hr (p := i) (by omega)
              have g2 := shr_rng hI hr2 (p := i) (by omega)
              refine V.isub (q := 94) F dX6_unlike_93 rfl ?_
              refine V.mabs (q := 97) F dX6_unlike_94 rfl (List.mem_of_getElem? (i := 5) rfl) (List.mem_of_getElem? (i := 6) rfl) (List.mem_of_getElem? (i := 7) rfl) (List.mem_of_getElem? (i := 8) rfl) (Nat.le_of_ble_eq_true rfl) (Nat.le_of_ble_eq_true rfl) ⟨Nat.zero_le _, Nat.zero_le _⟩ (by omega) ?_
              refine V.iadd (q := 98) F dX6_unlike_97 rfl ?_
              refine V.istore (q := 100) (lo' := [_, _, _, _, _, _]) F dX6_unlike_98 rfl (Nat.le_of_ble_eq_true rfl) rfl rfl ?_
              refine V.iinc (q := 103) (lo' := [_, _, _, _, _, _]) F dX6_unlike_100 rfl rfl (Nat.le_of_ble_eq_true rfl) rfl rfl ?_
              refine V.goto (tgt := 64) F dX6_unlike_103 (by decide) ?_
              exact ih64 (i + 1) _ (by omega) (by rw [sz_succ _ hi.1, ← hS]; rfl) (by omega)
        exact L64 _ 0 0 (by omega) (sz_self _ _).symm (Nat.lt_succ_self _)
      · refine V.bipush (q := 25) F dX6_unlike_23 rfl (by decide) ?_
        exact V.iret F T dX6_unlike_25 ⟨⟨(_, _, _, _, _), (_, _, _), (_, _, _), (_, _, _), (_, _, _, _, _, _, _, _)⟩, (iEq (by unfold rUnl; omega)), rfl⟩ [(A 0), (A 1), (A 2), (A 3), (A 4), (A 5), (A 6), (A 7), (A 8), (A 9), (A 10), (A 11), (A 12), (A 13), (A 14), (A 15), (A 16), (A 17), (A 18), (A 19), (A 20), (A 21), (A 22), (A 23), (A 24), (A 25), (A 26)] rfl rfl
    · refine V.iconst (q := 17) F dX6_unlike_16 rfl ?_
      exact V.iret F T dX6_unlike_17 ⟨⟨(_, _, _, _, _), (_, _, _), (_, _, _), (_, _, _), (_, _, _, _, _, _, _, _)⟩, (iEq (by unfold rUnl; omega)), rfl⟩ [(A 0), (A 1), (A 2), (A 3), (A 4), (A 5), (A 6), (A 7), (A 8), (A 9), (A 10), (A 11), (A 12), (A 13), (A 14), (A 15), (A 16), (A 17), (A 18), (A 19), (A 20), (A 21), (A 22), (A 23), (A 24), (A 25), (A 26)] rfl rfl

abbrev YX6_seasonOf (l : Launch) (G : Gx) : Sx := (cX6_seasonOf, 7, RX6, wsX6_seasonOf, rmD 3, l, G)
theorem ydX6_seasonOf : ydOk yX6_seasonOf 2 := by decide +kernel
theorem inX6_seasonOf_X6 : ∀ w ∈ wsX60, w ∈ wsX6_seasonOf := fun _ h => List.mem_cons_of_mem _ (List.mem_append_left _ (List.mem_append_right _ h))
set_option maxHeartbeats 1000000 in
set_option maxRecDepth 20000 in
theorem c_X6_seasonOf (l : Launch) (G : Gx) (A : Nat → Nat) (a tt R sn t rs ds ss hs f1 m1 g1 f2 m2 g2 f3 m3 g3 : Int → Int) (o s bb n E P mi1 mi2 mi3 df dq sc p k : Int) (hI : Inv a) (ho : 0 ≤ o ∧ o < 4) (hq : 0 ≤ s ∧ s ≤ 4) (hbb : 0 ≤ bb ∧ bb ≤ 1) (hn : 0 ≤ n ∧ n ≤ 80) (ht : ∀ j, 0 ≤ t j ∧ t j < 65536) (hrp : -2147483648 ≤ p ∧ p < 2147483648) (hrk : -2147483648 ≤ k ∧ k < 2147483648) : Ct l G yX6_seasonOf wsX6_seasonOf (rmD 3) [.ref (A 0), .int (zI p), .int (zI k)] [((A 0), .inr (6, [.ref (A 1), .ref (A 4), .ref (A 6), .int (zI bb), .ref (A 9), .ref (A 7), .ref (A 14), .ref (A 18), .ref (A 22)])), ((A 1), .inr (0, [.ref (A 2), .ref (A 3)])), ((A 2), aI G 26181 a), ((A 3), aI G 1584 tt), ((A 4), .inr (2, [.ref (A 5), .int (zI o), .int (zI s)])), ((A 5), aI G 104724 R), ((A 6), aI G 26181 sn), ((A 7), .inr (5, [.ref (A 8), .int (zI n)])), ((A 8), aC G 80 t), ((A 9), .inr (3, [.ref (A 7), .ref (A 10), .ref (A 11), .ref (A 12), .ref (A 13), .int (zI E), .int (zI P)])), ((A 10), aI G 16 rs), ((A 11), aI G 16 ds), ((A 12), aI G 16 ss), ((A 13), aI G 16 hs), ((A 14), .inr (4, [.ref (A 15), .ref (A 16), .ref (A 17), .int (zI mi1)])), ((A 15), aI G 48 f1), ((A 16), aI G 48 m1), ((A 17), aZ G 48 g1), ((A 18), .inr (4, [.ref (A 19), .ref (A 20), .ref (A 21), .int (zI mi2)])), ((A 19), aI G 48 f2), ((A 20), aI G 48 m2), ((A 21), aZ G 48 g2), ((A 22), .inr (1, [.ref (A 23), .int (zI df), .int (zI dq), .int (zI sc)])), ((A 23), .inr (4, [.ref (A 24), .ref (A 25), .ref (A 26), .int (zI mi3)])), ((A 24), aI G 48 f3), ((A 25), aI G 48 m3), ((A 26), aZ G 48 g3)] (RdX A G a o s R bb sn t n (rSea a p k)) := by
  refine Ct.intro (cc := cX6_seasonOf) (maxL := 7) (ret := (some .int)) (lo0 := [some (.ref (A 0)), some (.int (zI p)), some (.int (zI k)), none, none, none, none]) (by decide +kernel) rfl ⟨rfl, rfl⟩ (Nat.le_of_ble_eq_true rfl) rfl ?_
  intro X F T
  change Fx X (YX6_seasonOf l G) at F
  change V X (YX6_seasonOf l G) 0 0 0 _ _ _
  refine V.iload_n (q := 1) F dX6_seasonOf_0 rfl rfl rfl ?_
  refine V.iconst (q := 2) F dX6_seasonOf_1 rfl ?_
  refine V.iconst (q := 3) F dX6_seasonOf_2 rfl ?_
  refine V.callS (q := 6) F [] dX6_seasonOf_3 rfl (c_X6_isBetween l G  _ _ _ (by omega) (by omega) (by omega)) gX6_seasonOf_X6_isBetween rfl ydX6_isBetween ⟨Nat.le_of_ble_eq_true rfl, Nat.le_of_ble_eq_true rfl⟩ rfl rfl (Nat.le_of_ble_eq_true rfl) rfl rfl ⟨Nat.zero_le _, Nat.zero_le _⟩ (kkf (st' := [_]) (ws' := [_, _, _, _, _, _, _, _, _, _, _, _, _, _, _, _, _, _, _, _, _, _, _, _, _, _, _]) rfl rfl ?_)
  refine V.if_eq (q := 9) (tgt := 16) F dX6_seasonOf_6 rfl (by decide) (by omega) (fun k6 => ?_) (fun k6 => ?_)
  · refine V.iconst (q := 17) F dX6_seasonOf_16 rfl ?_
    exact V.iret F T dX6_seasonOf_17 ⟨⟨(_, _, _, _, _), (_, _, _), (_, _, _), (_, _, _), (_, _, _, _, _, _, _, _)⟩, (iEq (by unfold rSea; omega)), rfl⟩ [(A 0), (A 1), (A 2), (A 3), (A 4), (A 5), (A 6), (A 7), (A 8), (A 9), (A 10), (A 11), (A 12), (A 13), (A 14), (A 15), (A 16), (A 17), (A 18), (A 19), (A 20), (A 21), (A 22), (A 23), (A 24), (A 25), (A 26)] rfl rfl
  · refine V.iload_n (q := 10) F dX6_seasonOf_9 rfl rfl rfl ?_
    refine V.callS (q := 13) F [] dX6_seasonOf_10 rfl (c_X6_isClass l G  _ (by omega)) gX6_seasonOf_X6_isClass rfl ydX6_isClass ⟨Nat.le_of_ble_eq_true rfl, Nat.le_of_ble_eq_true rfl⟩ rfl rfl (Nat.le_of_ble_eq_true rfl) rfl rfl ⟨Nat.zero_le _, Nat.zero_le _⟩ (kkf (st' := [_]) (ws' := [_, _, _, _, _, _, _, _, _, _, _, _, _, _, _, _, _, _, _, _, _, _, _, _, _, _, _]) rfl rfl ?_)
    refine V.if_ne (q := 16) (tgt := 18) F dX6_seasonOf_13 rfl (by decide) (by omega) (fun k13 => ?_) (fun k13 => ?_)
    · refine V.iconst (q := 19) F dX6_seasonOf_18 rfl ?_
      refine V.istore_n (q := 20) (lo' := [_, _, _, _, _, _, _]) F dX6_seasonOf_19 rfl rfl (Nat.le_of_ble_eq_true rfl) rfl rfl ?_
      refine V.bipush (q := 22) F dX6_seasonOf_20 rfl (by decide) ?_
      refine V.istore (q := 24) (lo' := [_, _, _, _, _, _, _]) F dX6_seasonOf_22 rfl (Nat.le_of_ble_eq_true rfl) rfl rfl ?_
      refine V.iconst (q := 25) F dX6_seasonOf_24 rfl ?_
      refine V.istore (q := 27) (lo' := [_, _, _, _, _, _, _]) F dX6_seasonOf_25 rfl (Nat.le_of_ble_eq_true rfl) rfl rfl ?_
      have L27 : ∀ (nq : Nat) (i m b : Int) (hi : 0 ≤ i ∧ i ≤ 4) (hm : (m, b) = pvz (fun s => clz a (p * 4 + s) k) i.toNat) (hm2 : 0 ≤ m ∧ m ≤ 159984), (4 - i).toNat < nq → V X (YX6_seasonOf l G) 0 0 27 [some (.ref (A 0)), some (.int (zI p)), some (.int (zI k)), some (.int (zI m)), some (.int (zI b)), some (.int (zI i)), none] [] [((A 0), .inr (6, [.ref (A 1), .ref (A 4), .ref (A 6), .int (zI bb), .ref (A 9), .ref (A 7), .ref (A 14), .ref (A 18), .ref (A 22)])), ((A 1), .inr (0, [.ref (A 2), .ref (A 3)])), ((A 2), aI G 26181 a), ((A 3), aI G 1584 tt), ((A 4), .inr (2, [.ref (A 5), .int (zI o), .int (zI s)])), ((A 5), aI G 104724 R), ((A 6), aI G 26181 sn), ((A 7), .inr (5, [.ref (A 8), .int (zI n)])), ((A 8), aC G 80 t), ((A 9), .inr (3, [.ref (A 7), .ref (A 10), .ref (A 11), .ref (A 12), .ref (A 13), .int (zI E), .int (zI P)])), ((A 10), aI G 16 rs), ((A 11), aI G 16 ds), ((A 12), aI G 16 ss), ((A 13), aI G 16 hs), ((A 14), .inr (4, [.ref (A 15), .ref (A 16), .ref (A 17), .int (zI mi1)])), ((A 15), aI G 48 f1), ((A 16), aI G 48 m1), ((A 17), aZ G 48 g1), ((A 18), .inr (4, [.ref (A 19), .ref (A 20), .ref (A 21), .int (zI mi2)])), ((A 19), aI G 48 f2), ((A 20), aI G 48 m2), ((A 21), aZ G 48 g2), ((A 22), .inr (1, [.ref (A 23), .int (zI df), .int (zI dq), .int (zI sc)])), ((A 23), .inr (4, [.ref (A 24), .ref (A 25), .ref (A 26), .int (zI mi3)])), ((A 24), aI G 48 f3), ((A 25), aI G 48 m3), ((A 26), aZ G 48 g3)] := by
        intro n27
        induction n27 with
        | zero => intro i m b hi hm hm2 hm27; exact absurd hm27 (Nat.not_lt_zero _)
        | succ n27 ih27 =>
          intro i m b hi hm hm2 hm27
          have hset := hI.s
          have hb := fun h : i < 4 => clz_rng hI (r := p * 4 + i) (k := k) (by omega) (by omega)
          refine V.iload (q := 29) F dX6_seasonOf_27 rfl rfl ?_
          refine V.iconst (q := 30) F dX6_seasonOf_29 rfl ?_
          refine V.icmp_ge (q := 33) (tgt := 68) F dX6_seasonOf_30 rfl (by decide) (by omega) (fun k30 => ?_) (fun k30 => ?_)
          · refine V.iload (q := 70) F dX6_seasonOf_68 rfl rfl ?_
            exact V.iret F T dX6_seasonOf_70 ⟨⟨(_, _, _, _, _), (_, _, _), (_, _, _), (_, _, _), (_, _, _, _, _, _, _, _)⟩, (iEq (by unfold rSea; rw [if_neg (by omega), show (4 : Nat) = i.toNat by omega, ← hm])), rfl⟩ [(A 0), (A 1), (A 2), (A 3), (A 4), (A 5), (A 6), (A 7), (A 8), (A 9), (A 10), (A 11), (A 12), (A 13), (A 14), (A 15), (A 16), (A 17), (A 18), (A 19), (A 20), (A 21), (A 22), (A 23), (A 24), (A 25), (A 26)] rfl rfl
          · refine V.aload_n (q := 34) F dX6_seasonOf_33 rfl rfl rfl ?_
            refine V.get (q := 37) F 0 0 dX6_seasonOf_34 rfl rfl rfl inX6_seasonOf_X6 (by decide) (List.mem_of_getElem? (i := 1) rfl) rfl ?_
            refine V.iload_n (q := 38) F dX6_seasonOf_37 rfl rfl rfl ?_
            refine V.iload (q := 40) F dX6_seasonOf_38 rfl rfl ?_
            refine V.callS (q := 43) F [] dX6_seasonOf_40 rfl (c_X6_roseOf l G  _ _ ) gX6_seasonOf_X6_roseOf rfl ydX6_roseOf ⟨Nat.le_of_ble_eq_true rfl, Nat.le_of_ble_eq_true rfl⟩ rfl rfl (Nat.le_of_ble_eq_true rfl) rfl rfl ⟨Nat.zero_le _, Nat.zero_le _⟩ (kkf (st' := [_, _]) (ws' := [_, _, _, _, _, _, _, _, _, _, _, _, _, _, _, _, _, _, _, _, _, _, _, _, _, _, _]) rfl rfl ?_)
            refine V.iload_n (q := 44) F dX6_seasonOf_43 rfl rfl rfl ?_
            refine V.callV (q := 47) F [1, 2] 1 dX6_seasonOf_44 rfl (c_X0_classHours l G (A 1) (A 2) (A 3) _ _ _ (by omega) (by omega) hset) gX6_seasonOf_X0_classHours rfl rfl ydX0_classHours ⟨Nat.le_of_ble_eq_true rfl, Nat.le_of_ble_eq_true rfl⟩ (ci := 0) rfl rfl rfl rfl (Nat.le_of_ble_eq_true rfl) rfl rfl ⟨Nat.zero_le _, Nat.zero_le _⟩ (kkf (st' := [_]) (ws' := [_, _, _, _, _, _, _, _, _, _, _, _, _, _, _, _, _, _, _, _, _, _, _, _, _, _, _]) rfl rfl ?_)
            refine V.istore (q := 49) (lo' := [_, _, _, _, _, _, _]) F dX6_seasonOf_47 rfl (Nat.le_of_ble_eq_true rfl) rfl rfl ?_
            refine V.iload (q := 51) F dX6_seasonOf_49 rfl rfl ?_
            refine V.iload_n (q := 52) F dX6_seasonOf_51 rfl rfl rfl ?_
            refine V.icmp_le (q := 55) (tgt := 62) F dX6_seasonOf_52 rfl (by decide) (by omega) (fun k52 => ?_) (fun k52 => ?_)
            · refine V.iinc (q := 65) (lo' := [_, _, _, _, _, _, _]) F dX6_seasonOf_62 rfl rfl (Nat.le_of_ble_eq_true rfl) rfl rfl ?_
              refine V.goto (tgt := 27) F dX6_seasonOf_65 (by decide) ?_
              refine V.mask [true, true, true, true, true, true, false] (lo' := [_, _, _, _, _, _, _]) rfl ?_
              exact ih27 (i + 1) _ _ (by omega) (by rw [pvz_s _ hi.1, ← hm]; first | rw [if_pos (show m < clz a (p * 4 + i) k by omega)] | rw [if_neg (show ¬ m < clz a (p * 4 + i) k by omega)]) (by omega) (by omega)
            · refine V.iload (q := 57) F dX6_seasonOf_55 rfl rfl ?_
              refine V.istore_n (q := 58) (lo' := [_, _, _, _, _, _, _]) F dX6_seasonOf_57 rfl rfl (Nat.le_of_ble_eq_true rfl) rfl rfl ?_
              refine V.iload (q := 60) F dX6_seasonOf_58 rfl rfl ?_
              refine V.istore (q := 62) (lo' := [_, _, _, _, _, _, _]) F dX6_seasonOf_60 rfl (Nat.le_of_ble_eq_true rfl) rfl rfl ?_
              refine V.iinc (q := 65) (lo' := [_, _, _, _, _, _, _]) F dX6_seasonOf_62 rfl rfl (Nat.le_of_ble_eq_true rfl) rfl rfl ?_
              refine V.goto (tgt := 27) F dX6_seasonOf_65 (by decide) ?_
              refine V.mask [true, true, true, true, true, true, false] (lo' := [_, _, _, _, _, _, _]) rfl ?_
              exact ih27 (i + 1) _ _ (by omega) (by rw [pvz_s _ hi.1, ← hm]; first | rw [if_pos (show m < clz a (p * 4 + i) k by omega)] | rw [if_neg (show ¬ m < clz a (p * 4 + i) k by omega)]) (by omega) (by omega)
      refine V.mask [true, true, true, true, true, true, false] (lo' := [_, _, _, _, _, _, _]) rfl ?_
      exact L27 _ 0 0 (-5) (by omega) rfl (by omega) (Nat.lt_succ_self _)
    · refine V.iconst (q := 17) F dX6_seasonOf_16 rfl ?_
      exact V.iret F T dX6_seasonOf_17 ⟨⟨(_, _, _, _, _), (_, _, _), (_, _, _), (_, _, _), (_, _, _, _, _, _, _, _)⟩, (iEq (by unfold rSea; omega)), rfl⟩ [(A 0), (A 1), (A 2), (A 3), (A 4), (A 5), (A 6), (A 7), (A 8), (A 9), (A 10), (A 11), (A 12), (A 13), (A 14), (A 15), (A 16), (A 17), (A 18), (A 19), (A 20), (A 21), (A 22), (A 23), (A 24), (A 25), (A 26)] rfl rfl

abbrev YX6_plate (l : Launch) (G : Gx) : Sx := (cX6_plate, 5, RX6, wsX6_plate, rmD 5, l, G)
theorem ydX6_plate : ydOk yX6_plate 3 := by decide +kernel
theorem inX6_plate_X1 : ∀ w ∈ wsX10, w ∈ wsX6_plate := fun _ h => List.mem_cons_of_mem _ (List.mem_append_left _ (List.mem_append_left _ (List.mem_append_right _ h)))
theorem inX6_plate_X6 : ∀ w ∈ wsX60, w ∈ wsX6_plate := fun _ h => List.mem_cons_of_mem _ (List.mem_append_left _ (List.mem_append_left _ (List.mem_append_left _ (List.mem_append_right _ h))))
set_option maxHeartbeats 1000000 in
set_option maxRecDepth 20000 in
theorem c_X6_plate (l : Launch) (G : Gx) (A : Nat → Nat) (a tt R sn t rs ds ss hs f1 m1 g1 f2 m2 g2 f3 m3 g3 : Int → Int) (o s bb n E P mi1 mi2 mi3 df dq sc p q w : Int) (hI : Inv a) (ho : 0 ≤ o ∧ o < 4) (hq : 0 ≤ s ∧ s ≤ 4) (hbb : 0 ≤ bb ∧ bb ≤ 1) (hn : 0 ≤ n ∧ n ≤ 80) (ht : ∀ j, 0 ≤ t j ∧ t j < 65536) (hrp : -2147483648 ≤ p ∧ p < 2147483648) (hrq : -2147483648 ≤ q ∧ q < 2147483648) (hrw : -2147483648 ≤ w ∧ w < 2147483648) : Ct l G yX6_plate wsX6_plate (rmD 5) [.ref (A 0), .int (zI p), .int (zI q), .int (zI w)] [((A 0), .inr (6, [.ref (A 1), .ref (A 4), .ref (A 6), .int (zI bb), .ref (A 9), .ref (A 7), .ref (A 14), .ref (A 18), .ref (A 22)])), ((A 1), .inr (0, [.ref (A 2), .ref (A 3)])), ((A 2), aI G 26181 a), ((A 3), aI G 1584 tt), ((A 4), .inr (2, [.ref (A 5), .int (zI o), .int (zI s)])), ((A 5), aI G 104724 R), ((A 6), aI G 26181 sn), ((A 7), .inr (5, [.ref (A 8), .int (zI n)])), ((A 8), aC G 80 t), ((A 9), .inr (3, [.ref (A 7), .ref (A 10), .ref (A 11), .ref (A 12), .ref (A 13), .int (zI E), .int (zI P)])), ((A 10), aI G 16 rs), ((A 11), aI G 16 ds), ((A 12), aI G 16 ss), ((A 13), aI G 16 hs), ((A 14), .inr (4, [.ref (A 15), .ref (A 16), .ref (A 17), .int (zI mi1)])), ((A 15), aI G 48 f1), ((A 16), aI G 48 m1), ((A 17), aZ G 48 g1), ((A 18), .inr (4, [.ref (A 19), .ref (A 20), .ref (A 21), .int (zI mi2)])), ((A 19), aI G 48 f2), ((A 20), aI G 48 m2), ((A 21), aZ G 48 g2), ((A 22), .inr (1, [.ref (A 23), .int (zI df), .int (zI dq), .int (zI sc)])), ((A 23), .inr (4, [.ref (A 24), .ref (A 25), .ref (A 26), .int (zI mi3)])), ((A 24), aI G 48 f3), ((A 25), aI G 48 m3), ((A 26), aZ G 48 g3)] (RdX A G a o s R bb sn t n (rPlate a p q w)) := by
  refine Ct.intro (cc := cX6_plate) (maxL := 5) (ret := (some .int)) (lo0 := [some (.ref (A 0)), some (.int (zI p)), some (.int (zI q)), some (.int (zI w)), none]) (by decide +kernel) rfl ⟨rfl, rfl⟩ (Nat.le_of_ble_eq_true rfl) rfl ?_
  intro X F T
  change Fx X (YX6_plate l G) at F
  change V X (YX6_plate l G) 0 0 0 _ _ _
  refine V.iload_n (q := 1) F dX6_plate_0 rfl rfl rfl ?_
  refine V.iload_n (q := 2) F dX6_plate_1 rfl rfl rfl ?_
  refine V.callS (q := 5) F [] dX6_plate_2 rfl (c_X6_isRose l G  _ _ (by omega) (by omega)) gX6_plate_X6_isRose rfl ydX6_isRose ⟨Nat.le_of_ble_eq_true rfl, Nat.le_of_ble_eq_true rfl⟩ rfl rfl (Nat.le_of_ble_eq_true rfl) rfl rfl ⟨Nat.zero_le _, Nat.zero_le _⟩ (kkf (st' := [_]) (ws' := [_, _, _, _, _, _, _, _, _, _, _, _, _, _, _, _, _, _, _, _, _, _, _, _, _, _, _]) rfl rfl ?_)
  refine V.if_ne (q := 8) (tgt := 10) F dX6_plate_5 rfl (by decide) (by omega) (fun k5 => ?_) (fun k5 => ?_)
  · refine V.iload_n (q := 11) F dX6_plate_10 rfl rfl rfl ?_
    refine V.iload_n (q := 12) F dX6_plate_11 rfl rfl rfl ?_
    refine V.callS (q := 15) F [] dX6_plate_12 rfl (c_X6_roseOf l G  _ _ ) gX6_plate_X6_roseOf rfl ydX6_roseOf ⟨Nat.le_of_ble_eq_true rfl, Nat.le_of_ble_eq_true rfl⟩ rfl rfl (Nat.le_of_ble_eq_true rfl) rfl rfl ⟨Nat.zero_le _, Nat.zero_le _⟩ (kkf (st' := [_]) (ws' := [_, _, _, _, _, _, _, _, _, _, _, _, _, _, _, _, _, _, _, _, _, _, _, _, _, _, _]) rfl rfl ?_)
    refine V.istore (q := 17) (lo' := [_, _, _, _, _]) F dX6_plate_15 rfl (Nat.le_of_ble_eq_true rfl) rfl rfl ?_
    have hr : 0 ≤ p * 4 + q ∧ p * 4 + q < 16 := by omega
    have hw := hI.w hr
    refine V.iload_n (q := 18) F dX6_plate_17 rfl rfl rfl ?_
    rcases (show w = 0 ∨ w = 1 ∨ w = 2 ∨ w = 3 ∨ w = 4 ∨ w = 5 ∨ (w < 0 ∨ 5 < w) by omega) with rfl | rfl | rfl | rfl | rfl | rfl | hsw
    · refine V.tswIn (tgt := 56) F dX6_plate_18 (by decide) (by decide) (by decide) rfl (by decide) ?_
      refine V.aload_n (q := 57) F dX6_plate_56 rfl rfl rfl ?_
      refine V.get (q := 60) F 0 0 dX6_plate_57 rfl rfl rfl inX6_plate_X6 (by decide) (List.mem_of_getElem? (i := 1) rfl) rfl ?_
      refine V.iload (q := 62) F dX6_plate_60 rfl rfl ?_
      refine V.callV (q := 65) F [1, 2] 1 dX6_plate_62 rfl (c_X0_circle l G (A 1) (A 2) (A 3) _ _ (by omega)) gX6_plate_X0_circle rfl rfl ydX0_circle ⟨Nat.le_of_ble_eq_true rfl, Nat.le_of_ble_eq_true rfl⟩ (ci := 0) rfl rfl rfl rfl (Nat.le_of_ble_eq_true rfl) rfl rfl ⟨Nat.zero_le _, Nat.zero_le _⟩ (kkf (st' := [_]) (ws' := [_, _, _, _, _, _, _, _, _, _, _, _, _, _, _, _, _, _, _, _, _, _, _, _, _, _, _]) rfl rfl ?_)
      exact V.iret F T dX6_plate_65 ⟨⟨(_, _, _, _, _), (_, _, _), (_, _, _), (_, _, _), (_, _, _, _, _, _, _, _)⟩, (iEq (by unfold rPlate; first | omega | (simp; done) | (simp; omega))), rfl⟩ [(A 0), (A 1), (A 2), (A 3), (A 4), (A 5), (A 6), (A 7), (A 8), (A 9), (A 10), (A 11), (A 12), (A 13), (A 14), (A 15), (A 16), (A 17), (A 18), (A 19), (A 20), (A 21), (A 22), (A 23), (A 24), (A 25), (A 26)] rfl rfl
    · refine V.tswIn (tgt := 66) F dX6_plate_18 (by decide) (by decide) (by decide) rfl (by decide) ?_
      refine V.aload_n (q := 67) F dX6_plate_66 rfl rfl rfl ?_
      refine V.get (q := 70) F 0 0 dX6_plate_67 rfl rfl rfl inX6_plate_X6 (by decide) (List.mem_of_getElem? (i := 1) rfl) rfl ?_
      refine V.iload (q := 72) F dX6_plate_70 rfl rfl ?_
      refine V.callV (q := 75) F [1, 2] 1 dX6_plate_72 rfl (c_X0_scrapes l G (A 1) (A 2) (A 3) _ _ (by omega)) gX6_plate_X0_scrapes rfl rfl ydX0_scrapes ⟨Nat.le_of_ble_eq_true rfl, Nat.le_of_ble_eq_true rfl⟩ (ci := 0) rfl rfl rfl rfl (Nat.le_of_ble_eq_true rfl) rfl rfl ⟨Nat.zero_le _, Nat.zero_le _⟩ (kkf (st' := [_]) (ws' := [_, _, _, _, _, _, _, _, _, _, _, _, _, _, _, _, _, _, _, _, _, _, _, _, _, _, _]) rfl rfl ?_)
      exact V.iret F T dX6_plate_75 ⟨⟨(_, _, _, _, _), (_, _, _), (_, _, _), (_, _, _), (_, _, _, _, _, _, _, _)⟩, (iEq (by unfold rPlate; first | omega | (simp; done) | (simp; omega))), rfl⟩ [(A 0), (A 1), (A 2), (A 3), (A 4), (A 5), (A 6), (A 7), (A 8), (A 9), (A 10), (A 11), (A 12), (A 13), (A 14), (A 15), (A 16), (A 17), (A 18), (A 19), (A 20), (A 21), (A 22), (A 23), (A 24), (A 25), (A 26)] rfl rfl
    · refine V.tswIn (tgt := 76) F dX6_plate_18 (by decide) (by decide) (by decide) rfl (by decide) ?_
      refine V.aload_n (q := 77) F dX6_plate_76 rfl rfl rfl ?_
      refine V.get (q := 80) F 0 0 dX6_plate_77 rfl rfl rfl inX6_plate_X6 (by decide) (List.mem_of_getElem? (i := 1) rfl) rfl ?_
      refine V.iload (q := 82) F dX6_plate_80 rfl rfl ?_
      refine V.callV (q := 85) F [1, 2] 1 dX6_plate_82 rfl (c_X0_petalsCut l G (A 1) (A 2) (A 3) _ _ (by omega) hI) gX6_plate_X0_petalsCut rfl rfl ydX0_petalsCut ⟨Nat.le_of_ble_eq_true rfl, Nat.le_of_ble_eq_true rfl⟩ (ci := 0) rfl rfl rfl rfl (Nat.le_of_ble_eq_true rfl) rfl rfl ⟨Nat.zero_le _, Nat.zero_le _⟩ (kkf (st' := [_]) (ws' := [_, _, _, _, _, _, _, _, _, _, _, _, _, _, _, _, _, _, _, _, _, _, _, _, _, _, _]) rfl rfl ?_)
      exact V.iret F T dX6_plate_85 ⟨⟨(_, _, _, _, _), (_, _, _), (_, _, _), (_, _, _), (_, _, _, _, _, _, _, _)⟩, (iEq (by unfold rPlate; first | omega | (simp; done) | (simp; omega))), rfl⟩ [(A 0), (A 1), (A 2), (A 3), (A 4), (A 5), (A 6), (A 7), (A 8), (A 9), (A 10), (A 11), (A 12), (A 13), (A 14), (A 15), (A 16), (A 17), (A 18), (A 19), (A 20), (A 21), (A 22), (A 23), (A 24), (A 25), (A 26)] rfl rfl
    · refine V.tswIn (tgt := 86) F dX6_plate_18 (by decide) (by decide) (by decide) rfl (by decide) ?_
      refine V.aload_n (q := 87) F dX6_plate_86 rfl rfl rfl ?_
      refine V.get (q := 90) F 0 0 dX6_plate_87 rfl rfl rfl inX6_plate_X6 (by decide) (List.mem_of_getElem? (i := 1) rfl) rfl ?_
      refine V.iload (q := 92) F dX6_plate_90 rfl rfl ?_
      refine V.callV (q := 95) F [1, 2] 1 dX6_plate_92 rfl (c_X0_longestPetal l G (A 1) (A 2) (A 3) _ _ (by omega) hI) gX6_plate_X0_longestPetal rfl rfl ydX0_longestPetal ⟨Nat.le_of_ble_eq_true rfl, Nat.le_of_ble_eq_true rfl⟩ (ci := 0) rfl rfl rfl rfl (Nat.le_of_ble_eq_true rfl) rfl rfl ⟨Nat.zero_le _, Nat.zero_le _⟩ (kkf (st' := [_]) (ws' := [_, _, _, _, _, _, _, _, _, _, _, _, _, _, _, _, _, _, _, _, _, _, _, _, _, _, _]) rfl rfl ?_)
      exact V.iret F T dX6_plate_95 ⟨⟨(_, _, _, _, _), (_, _, _), (_, _, _), (_, _, _), (_, _, _, _, _, _, _, _)⟩, (iEq (by unfold rPlate; first | omega | (simp; done) | (simp; omega))), rfl⟩ [(A 0), (A 1), (A 2), (A 3), (A 4), (A 5), (A 6), (A 7), (A 8), (A 9), (A 10), (A 11), (A 12), (A 13), (A 14), (A 15), (A 16), (A 17), (A 18), (A 19), (A 20), (A 21), (A 22), (A 23), (A 24), (A 25), (A 26)] rfl rfl
    · refine V.tswIn (tgt := 96) F dX6_plate_18 (by decide) (by decide) (by decide) rfl (by decide) ?_
      refine V.aload_n (q := 97) F dX6_plate_96 rfl rfl rfl ?_
      refine V.get (q := 100) F 0 8 dX6_plate_97 rfl rfl rfl inX6_plate_X6 (by decide) (List.mem_of_getElem? (i := 2) rfl) rfl ?_
      refine V.aload_n (q := 101) F dX6_plate_100 rfl rfl rfl ?_
      refine V.get (q := 104) F 0 0 dX6_plate_101 rfl rfl rfl inX6_plate_X6 (by decide) (List.mem_of_getElem? (i := 1) rfl) rfl ?_
      refine V.iload (q := 106) F dX6_plate_104 rfl rfl ?_
      refine V.callV (q := 109) F [22, 23, 24, 25, 1, 2] 22 dX6_plate_106 rfl (c_X1_measure l G (A 22) (A 23) (A 24) (A 25) (A 26) (A 1) (A 2) (A 3) _ _ _ _ _ _ _ _ (by omega) hI) gX6_plate_X1_measure rfl rfl ydX1_measure ⟨Nat.le_of_ble_eq_true rfl, Nat.le_of_ble_eq_true rfl⟩ (ci := 1) rfl rfl rfl rfl (Nat.le_of_ble_eq_true rfl) rfl rfl ⟨Nat.zero_le _, Nat.zero_le _⟩ (kkf (st' := []) (ws' := [_, _, _, _, _, _, _, _, _, _, _, _, _, _, _, _, _, _, _, _, _, _, _, _, _, _, _]) rfl rfl ?_)
      refine V.aload_n (q := 110) F dX6_plate_109 rfl rfl rfl ?_
      refine V.get (q := 113) F 0 8 dX6_plate_110 rfl rfl rfl inX6_plate_X6 (by decide) (List.mem_of_getElem? (i := 2) rfl) rfl ?_
      refine V.get (q := 116) F 22 2 dX6_plate_113 rfl rfl rfl inX6_plate_X1 (by decide) (List.mem_of_getElem? (i := 3) rfl) rfl ?_
      exact V.iret F T dX6_plate_116 ⟨⟨(_, _, _, _, _), (_, _, _), (_, _, _), (_, _, _), (_, _, _, _, _, _, _, _)⟩, (iEq (by unfold rPlate; first | omega | (simp; done) | (simp; omega))), rfl⟩ [(A 0), (A 1), (A 2), (A 3), (A 4), (A 5), (A 6), (A 7), (A 8), (A 9), (A 10), (A 11), (A 12), (A 13), (A 14), (A 15), (A 16), (A 17), (A 18), (A 19), (A 20), (A 21), (A 22), (A 23), (A 24), (A 25), (A 26)] rfl rfl
    · refine V.tswIn (tgt := 117) F dX6_plate_18 (by decide) (by decide) (by decide) rfl (by decide) ?_
      refine V.aload_n (q := 118) F dX6_plate_117 rfl rfl rfl ?_
      refine V.get (q := 121) F 0 8 dX6_plate_118 rfl rfl rfl inX6_plate_X6 (by decide) (List.mem_of_getElem? (i := 2) rfl) rfl ?_
      refine V.aload_n (q := 122) F dX6_plate_121 rfl rfl rfl ?_
      refine V.get (q := 125) F 0 0 dX6_plate_122 rfl rfl rfl inX6_plate_X6 (by decide) (List.mem_of_getElem? (i := 1) rfl) rfl ?_
      refine V.iload (q := 127) F dX6_plate_125 rfl rfl ?_
      refine V.callV (q := 130) F [22, 23, 24, 25, 1, 2] 22 dX6_plate_127 rfl (c_X1_measure l G (A 22) (A 23) (A 24) (A 25) (A 26) (A 1) (A 2) (A 3) _ _ _ _ _ _ _ _ (by omega) hI) gX6_plate_X1_measure rfl rfl ydX1_measure ⟨Nat.le_of_ble_eq_true rfl, Nat.le_of_ble_eq_true rfl⟩ (ci := 1) rfl rfl rfl rfl (Nat.le_of_ble_eq_true rfl) rfl rfl ⟨Nat.zero_le _, Nat.zero_le _⟩ (kkf (st' := []) (ws' := [_, _, _, _, _, _, _, _, _, _, _, _, _, _, _, _, _, _, _, _, _, _, _, _, _, _, _]) rfl rfl ?_)
      refine V.aload_n (q := 131) F dX6_plate_130 rfl rfl rfl ?_
      refine V.get (q := 134) F 0 8 dX6_plate_131 rfl rfl rfl inX6_plate_X6 (by decide) (List.mem_of_getElem? (i := 2) rfl) rfl ?_
      refine V.get (q := 137) F 22 3 dX6_plate_134 rfl rfl rfl inX6_plate_X1 (by decide) (List.mem_of_getElem? (i := 4) rfl) rfl ?_
      exact V.iret F T dX6_plate_137 ⟨⟨(_, _, _, _, _), (_, _, _), (_, _, _), (_, _, _), (_, _, _, _, _, _, _, _)⟩, (iEq (by unfold rPlate; first | omega | (simp; done) | (simp; omega))), rfl⟩ [(A 0), (A 1), (A 2), (A 3), (A 4), (A 5), (A 6), (A 7), (A 8), (A 9), (A 10), (A 11), (A 12), (A 13), (A 14), (A 15), (A 16), (A 17), (A 18), (A 19), (A 20), (A 21), (A 22), (A 23), (A 24), (A 25), (A 26)] rfl rfl
    · refine V.tswOut (tgt := 138) F dX6_plate_18 (by omega) hsw (by decide) ?_
      refine V.bipush (q := 140) F dX6_plate_138 rfl (by decide) ?_
      exact V.iret F T dX6_plate_140 ⟨⟨(_, _, _, _, _), (_, _, _), (_, _, _), (_, _, _), (_, _, _, _, _, _, _, _)⟩, (iEq (by unfold rPlate; first | omega | (simp; done) | (simp; omega))), rfl⟩ [(A 0), (A 1), (A 2), (A 3), (A 4), (A 5), (A 6), (A 7), (A 8), (A 9), (A 10), (A 11), (A 12), (A 13), (A 14), (A 15), (A 16), (A 17), (A 18), (A 19), (A 20), (A 21), (A 22), (A 23), (A 24), (A 25), (A 26)] rfl rfl
  · refine V.iconst (q := 9) F dX6_plate_8 rfl ?_
    exact V.iret F T dX6_plate_9 ⟨⟨(_, _, _, _, _), (_, _, _), (_, _, _), (_, _, _), (_, _, _, _, _, _, _, _)⟩, (iEq (by unfold rPlate; first | omega | (simp; done) | (simp; omega))), rfl⟩ [(A 0), (A 1), (A 2), (A 3), (A 4), (A 5), (A 6), (A 7), (A 8), (A 9), (A 10), (A 11), (A 12), (A 13), (A 14), (A 15), (A 16), (A 17), (A 18), (A 19), (A 20), (A 21), (A 22), (A 23), (A 24), (A 25), (A 26)] rfl rfl

abbrev YX6_petal (l : Launch) (G : Gx) : Sx := (cX6_petal, 5, RX6, wsX6_petal, rmD 3, l, G)
theorem ydX6_petal : ydOk yX6_petal 4 := by decide +kernel
theorem inX6_petal_X6 : ∀ w ∈ wsX60, w ∈ wsX6_petal := fun _ h => List.mem_cons_of_mem _ (List.mem_append_left _ (List.mem_append_right _ h))
set_option maxHeartbeats 1000000 in
set_option maxRecDepth 20000 in
theorem c_X6_petal (l : Launch) (G : Gx) (A : Nat → Nat) (a tt R sn t rs ds ss hs f1 m1 g1 f2 m2 g2 f3 m3 g3 : Int → Int) (o s bb n E P mi1 mi2 mi3 df dq sc p q d k : Int) (hI : Inv a) (ho : 0 ≤ o ∧ o < 4) (hq : 0 ≤ s ∧ s ≤ 4) (hbb : 0 ≤ bb ∧ bb ≤ 1) (hn : 0 ≤ n ∧ n ≤ 80) (ht : ∀ j, 0 ≤ t j ∧ t j < 65536) (hrp : -2147483648 ≤ p ∧ p < 2147483648) (hrq : -2147483648 ≤ q ∧ q < 2147483648) (hrd : -2147483648 ≤ d ∧ d < 2147483648) (hrk : -2147483648 ≤ k ∧ k < 2147483648) : Ct l G yX6_petal wsX6_petal (rmD 3) [.ref (A 0), .int (zI p), .int (zI q), .int (zI d), .int (zI k)] [((A 0), .inr (6, [.ref (A 1), .ref (A 4), .ref (A 6), .int (zI bb), .ref (A 9), .ref (A 7), .ref (A 14), .ref (A 18), .ref (A 22)])), ((A 1), .inr (0, [.ref (A 2), .ref (A 3)])), ((A 2), aI G 26181 a), ((A 3), aI G 1584 tt), ((A 4), .inr (2, [.ref (A 5), .int (zI o), .int (zI s)])), ((A 5), aI G 104724 R), ((A 6), aI G 26181 sn), ((A 7), .inr (5, [.ref (A 8), .int (zI n)])), ((A 8), aC G 80 t), ((A 9), .inr (3, [.ref (A 7), .ref (A 10), .ref (A 11), .ref (A 12), .ref (A 13), .int (zI E), .int (zI P)])), ((A 10), aI G 16 rs), ((A 11), aI G 16 ds), ((A 12), aI G 16 ss), ((A 13), aI G 16 hs), ((A 14), .inr (4, [.ref (A 15), .ref (A 16), .ref (A 17), .int (zI mi1)])), ((A 15), aI G 48 f1), ((A 16), aI G 48 m1), ((A 17), aZ G 48 g1), ((A 18), .inr (4, [.ref (A 19), .ref (A 20), .ref (A 21), .int (zI mi2)])), ((A 19), aI G 48 f2), ((A 20), aI G 48 m2), ((A 21), aZ G 48 g2), ((A 22), .inr (1, [.ref (A 23), .int (zI df), .int (zI dq), .int (zI sc)])), ((A 23), .inr (4, [.ref (A 24), .ref (A 25), .ref (A 26), .int (zI mi3)])), ((A 24), aI G 48 f3), ((A 25), aI G 48 m3), ((A 26), aZ G 48 g3)] (RdX A G a o s R bb sn t n (rPetal a p q d k)) := by
  refine Ct.intro (cc := cX6_petal) (maxL := 5) (ret := (some .int)) (lo0 := [some (.ref (A 0)), some (.int (zI p)), some (.int (zI q)), some (.int (zI d)), some (.int (zI k))]) (by decide +kernel) rfl ⟨rfl, rfl⟩ (Nat.le_of_ble_eq_true rfl) rfl ?_
  intro X F T
  change Fx X (YX6_petal l G) at F
  change V X (YX6_petal l G) 0 0 0 _ _ _
  refine V.iload_n (q := 1) F dX6_petal_0 rfl rfl rfl ?_
  refine V.iload_n (q := 2) F dX6_petal_1 rfl rfl rfl ?_
  refine V.iload_n (q := 3) F dX6_petal_2 rfl rfl rfl ?_
  refine V.iload (q := 5) F dX6_petal_3 rfl rfl ?_
  refine V.callS (q := 8) F [] dX6_petal_5 rfl (c_X6_isPart l G  _ _ _ _ (by omega) (by omega) (by omega) (by omega)) gX6_petal_X6_isPart rfl ydX6_isPart ⟨Nat.le_of_ble_eq_true rfl, Nat.le_of_ble_eq_true rfl⟩ rfl rfl (Nat.le_of_ble_eq_true rfl) rfl rfl ⟨Nat.zero_le _, Nat.zero_le _⟩ (kkf (st' := [_]) (ws' := [_, _, _, _, _, _, _, _, _, _, _, _, _, _, _, _, _, _, _, _, _, _, _, _, _, _, _]) rfl rfl ?_)
  refine V.if_ne (q := 11) (tgt := 13) F dX6_petal_8 rfl (by decide) (by omega) (fun k8 => ?_) (fun k8 => ?_)
  · have hr : 0 ≤ p * 4 + q ∧ p * 4 + q < 16 := by omega
    have hw := hI.w hr
    refine V.aload_n (q := 14) F dX6_petal_13 rfl rfl rfl ?_
    refine V.get (q := 17) F 0 0 dX6_petal_14 rfl rfl rfl inX6_petal_X6 (by decide) (List.mem_of_getElem? (i := 1) rfl) rfl ?_
    refine V.iload_n (q := 18) F dX6_petal_17 rfl rfl rfl ?_
    refine V.iload_n (q := 19) F dX6_petal_18 rfl rfl rfl ?_
    refine V.callS (q := 22) F [] dX6_petal_19 rfl (c_X6_roseOf l G  _ _ ) gX6_petal_X6_roseOf rfl ydX6_roseOf ⟨Nat.le_of_ble_eq_true rfl, Nat.le_of_ble_eq_true rfl⟩ rfl rfl (Nat.le_of_ble_eq_true rfl) rfl rfl ⟨Nat.zero_le _, Nat.zero_le _⟩ (kkf (st' := [_, _]) (ws' := [_, _, _, _, _, _, _, _, _, _, _, _, _, _, _, _, _, _, _, _, _, _, _, _, _, _, _]) rfl rfl ?_)
    refine V.iload_n (q := 23) F dX6_petal_22 rfl rfl rfl ?_
    refine V.iload (q := 25) F dX6_petal_23 rfl rfl ?_
    refine V.callS (q := 28) F [] dX6_petal_25 rfl (c_X6_partOf l G  _ _ ) gX6_petal_X6_partOf rfl ydX6_partOf ⟨Nat.le_of_ble_eq_true rfl, Nat.le_of_ble_eq_true rfl⟩ rfl rfl (Nat.le_of_ble_eq_true rfl) rfl rfl ⟨Nat.zero_le _, Nat.zero_le _⟩ (kkf (st' := [_, _, _]) (ws' := [_, _, _, _, _, _, _, _, _, _, _, _, _, _, _, _, _, _, _, _, _, _, _, _, _, _, _]) rfl rfl ?_)
    refine V.callV (q := 31) F [1, 2] 1 dX6_petal_28 rfl (c_X0_petalLength l G (A 1) (A 2) (A 3) _ _ _ (by omega) (by omega)) gX6_petal_X0_petalLength rfl rfl ydX0_petalLength ⟨Nat.le_of_ble_eq_true rfl, Nat.le_of_ble_eq_true rfl⟩ (ci := 0) rfl rfl rfl rfl (Nat.le_of_ble_eq_true rfl) rfl rfl ⟨Nat.zero_le _, Nat.zero_le _⟩ (kkf (st' := [_]) (ws' := [_, _, _, _, _, _, _, _, _, _, _, _, _, _, _, _, _, _, _, _, _, _, _, _, _, _, _]) rfl rfl ?_)
    exact V.iret F T dX6_petal_31 ⟨⟨(_, _, _, _, _), (_, _, _), (_, _, _), (_, _, _), (_, _, _, _, _, _, _, _)⟩, (iEq (by unfold rPetal; omega)), rfl⟩ [(A 0), (A 1), (A 2), (A 3), (A 4), (A 5), (A 6), (A 7), (A 8), (A 9), (A 10), (A 11), (A 12), (A 13), (A 14), (A 15), (A 16), (A 17), (A 18), (A 19), (A 20), (A 21), (A 22), (A 23), (A 24), (A 25), (A 26)] rfl rfl
  · refine V.iconst (q := 12) F dX6_petal_11 rfl ?_
    exact V.iret F T dX6_petal_12 ⟨⟨(_, _, _, _, _), (_, _, _), (_, _, _), (_, _, _), (_, _, _, _, _, _, _, _)⟩, (iEq (by unfold rPetal; omega)), rfl⟩ [(A 0), (A 1), (A 2), (A 3), (A 4), (A 5), (A 6), (A 7), (A 8), (A 9), (A 10), (A 11), (A 12), (A 13), (A 14), (A 15), (A 16), (A 17), (A 18), (A 19), (A 20), (A 21), (A 22), (A 23), (A 24), (A 25), (A 26)] rfl rfl

abbrev YX6_reason (l : Launch) (G : Gx) : Sx := (cX6_reason, 3, RX6, wsX6_reason, rmD 6, l, G)
theorem ydX6_reason : ydOk yX6_reason 2 := by decide +kernel
set_option maxHeartbeats 1000000 in
set_option maxRecDepth 20000 in
theorem c_X6_reason (l : Launch) (G : Gx) (A : Nat → Nat) (a tt R sn t rs ds ss hs f1 m1 g1 f2 m2 g2 f3 m3 g3 : Int → Int) (o s bb n E P mi1 mi2 mi3 df dq sc p q : Int) (hI : Inv a) (ho : 0 ≤ o ∧ o < 4) (hq : 0 ≤ s ∧ s ≤ 4) (hbb : 0 ≤ bb ∧ bb ≤ 1) (hn : 0 ≤ n ∧ n ≤ 80) (ht : ∀ j, 0 ≤ t j ∧ t j < 65536) (hrp : -2147483648 ≤ p ∧ p < 2147483648) (hrq : -2147483648 ≤ q ∧ q < 2147483648) : Ct l G yX6_reason wsX6_reason (rmD 6) [.ref (A 0), .int (zI p), .int (zI q)] [((A 0), .inr (6, [.ref (A 1), .ref (A 4), .ref (A 6), .int (zI bb), .ref (A 9), .ref (A 7), .ref (A 14), .ref (A 18), .ref (A 22)])), ((A 1), .inr (0, [.ref (A 2), .ref (A 3)])), ((A 2), aI G 26181 a), ((A 3), aI G 1584 tt), ((A 4), .inr (2, [.ref (A 5), .int (zI o), .int (zI s)])), ((A 5), aI G 104724 R), ((A 6), aI G 26181 sn), ((A 7), .inr (5, [.ref (A 8), .int (zI n)])), ((A 8), aC G 80 t), ((A 9), .inr (3, [.ref (A 7), .ref (A 10), .ref (A 11), .ref (A 12), .ref (A 13), .int (zI E), .int (zI P)])), ((A 10), aI G 16 rs), ((A 11), aI G 16 ds), ((A 12), aI G 16 ss), ((A 13), aI G 16 hs), ((A 14), .inr (4, [.ref (A 15), .ref (A 16), .ref (A 17), .int (zI mi1)])), ((A 15), aI G 48 f1), ((A 16), aI G 48 m1), ((A 17), aZ G 48 g1), ((A 18), .inr (4, [.ref (A 19), .ref (A 20), .ref (A 21), .int (zI mi2)])), ((A 19), aI G 48 f2), ((A 20), aI G 48 m2), ((A 21), aZ G 48 g2), ((A 22), .inr (1, [.ref (A 23), .int (zI df), .int (zI dq), .int (zI sc)])), ((A 23), .inr (4, [.ref (A 24), .ref (A 25), .ref (A 26), .int (zI mi3)])), ((A 24), aI G 48 f3), ((A 25), aI G 48 m3), ((A 26), aZ G 48 g3)] (RdX A G a o s R bb sn t n (rReas a p q)) := by
  refine Ct.intro (cc := cX6_reason) (maxL := 3) (ret := (some .int)) (lo0 := [some (.ref (A 0)), some (.int (zI p)), some (.int (zI q))]) (by decide +kernel) rfl ⟨rfl, rfl⟩ (Nat.le_of_ble_eq_true rfl) rfl ?_
  intro X F T
  change Fx X (YX6_reason l G) at F
  change V X (YX6_reason l G) 0 0 0 _ _ _
  refine V.iload_n (q := 1) F dX6_reason_0 rfl rfl rfl ?_
  refine V.iload_n (q := 2) F dX6_reason_1 rfl rfl rfl ?_
  refine V.callS (q := 5) F [] dX6_reason_2 rfl (c_X6_isRose l G  _ _ (by omega) (by omega)) gX6_reason_X6_isRose rfl ydX6_isRose ⟨Nat.le_of_ble_eq_true rfl, Nat.le_of_ble_eq_true rfl⟩ rfl rfl (Nat.le_of_ble_eq_true rfl) rfl rfl ⟨Nat.zero_le _, Nat.zero_le _⟩ (kkf (st' := [_]) (ws' := [_, _, _, _, _, _, _, _, _, _, _, _, _, _, _, _, _, _, _, _, _, _, _, _, _, _, _]) rfl rfl ?_)
  refine V.if_eq (q := 8) (tgt := 20) F dX6_reason_5 rfl (by decide) (by omega) (fun k5 => ?_) (fun k5 => ?_)
  · refine V.iconst (q := 21) F dX6_reason_20 rfl ?_
    exact V.iret F T dX6_reason_21 ⟨⟨(_, _, _, _, _), (_, _, _), (_, _, _), (_, _, _), (_, _, _, _, _, _, _, _)⟩, (iEq (by unfold rReas; omega)), rfl⟩ [(A 0), (A 1), (A 2), (A 3), (A 4), (A 5), (A 6), (A 7), (A 8), (A 9), (A 10), (A 11), (A 12), (A 13), (A 14), (A 15), (A 16), (A 17), (A 18), (A 19), (A 20), (A 21), (A 22), (A 23), (A 24), (A 25), (A 26)] rfl rfl
  · refine V.aload_n (q := 9) F dX6_reason_8 rfl rfl rfl ?_
    refine V.iload_n (q := 10) F dX6_reason_9 rfl rfl rfl ?_
    refine V.iload_n (q := 11) F dX6_reason_10 rfl rfl rfl ?_
    refine V.callS (q := 14) F [] dX6_reason_11 rfl (c_X6_roseOf l G  _ _ ) gX6_reason_X6_roseOf rfl ydX6_roseOf ⟨Nat.le_of_ble_eq_true rfl, Nat.le_of_ble_eq_true rfl⟩ rfl rfl (Nat.le_of_ble_eq_true rfl) rfl rfl ⟨Nat.zero_le _, Nat.zero_le _⟩ (kkf (st' := [_, _]) (ws' := [_, _, _, _, _, _, _, _, _, _, _, _, _, _, _, _, _, _, _, _, _, _, _, _, _, _, _]) rfl rfl ?_)
    refine V.callV (q := 17) F [0, 1, 2, 22, 23, 24, 25] 0 dX6_reason_14 rfl (c_X6_obstacleTo l G (A 0) (A 1) (A 2) (A 3) (A 4) (A 6) (A 7) (A 9) (A 14) (A 18) (A 22) (A 23) (A 24) (A 25) (A 26) _ _ _ _ _ _ _ _ _ (by omega) hI) gX6_reason_X6_obstacleTo rfl rfl ydX6_obstacleTo ⟨Nat.le_of_ble_eq_true rfl, Nat.le_of_ble_eq_true rfl⟩ (ci := 6) rfl rfl rfl rfl (Nat.le_of_ble_eq_true rfl) rfl rfl ⟨Nat.zero_le _, Nat.zero_le _⟩ (fun r9 w9 h9 _ => ?_)
    obtain ⟨df, dq, sc, mi3, f3, m3, rfl, rfl, hok⟩ := h9
    refine V.eq (pc' := 17) (st' := [_]) (ws' := [_, _, _, _, _, _, _, _, _, _, _, _, _, _, _, _, _, _, _, _, _, _, _, _, _, _, _]) rfl rfl rfl rfl ?_
    refine V.goto (tgt := 21) F dX6_reason_17 (by decide) ?_
    exact V.iret F T dX6_reason_21 ⟨⟨(_, _, _, _, _), (_, _, _), (_, _, _), (_, _, _), (_, _, _, _, _, _, _, _)⟩, (iEq (by unfold rReas; omega)), rfl⟩ [(A 0), (A 1), (A 2), (A 3), (A 4), (A 5), (A 6), (A 7), (A 8), (A 9), (A 10), (A 11), (A 12), (A 13), (A 14), (A 15), (A 16), (A 17), (A 18), (A 19), (A 20), (A 21), (A 22), (A 23), (A 24), (A 25), (A 26)] rfl rfl

abbrev YX6_nextPlate (l : Launch) (G : Gx) : Sx := (cX6_nextPlate, 4, RX6, wsX6_nextPlate, rmD 6, l, G)
theorem ydX6_nextPlate : ydOk yX6_nextPlate 0 := by decide +kernel
theorem inX6_nextPlate_X1 : ∀ w ∈ wsX10, w ∈ wsX6_nextPlate := fun _ h => List.mem_cons_of_mem _ (List.mem_append_left _ (List.mem_append_left _ (List.mem_append_right _ h)))
theorem inX6_nextPlate_X6 : ∀ w ∈ wsX60, w ∈ wsX6_nextPlate := fun _ h => List.mem_cons_of_mem _ (List.mem_append_left _ (List.mem_append_left _ (List.mem_append_left _ (List.mem_append_right _ h))))
set_option maxHeartbeats 1000000 in
set_option maxRecDepth 20000 in
theorem c_X6_nextPlate (l : Launch) (G : Gx) (A : Nat → Nat) (a tt R sn t rs ds ss hs f1 m1 g1 f2 m2 g2 f3 m3 g3 : Int → Int) (o s bb n E P mi1 mi2 mi3 df dq sc : Int) (hI : Inv a) (ho : 0 ≤ o ∧ o < 4) (hq : 0 ≤ s ∧ s ≤ 4) (hbb : 0 ≤ bb ∧ bb ≤ 1) (hn : 0 ≤ n ∧ n ≤ 80) (ht : ∀ j, 0 ≤ t j ∧ t j < 65536) : Ct l G yX6_nextPlate wsX6_nextPlate (rmD 6) [.ref (A 0)] [((A 0), .inr (6, [.ref (A 1), .ref (A 4), .ref (A 6), .int (zI bb), .ref (A 9), .ref (A 7), .ref (A 14), .ref (A 18), .ref (A 22)])), ((A 1), .inr (0, [.ref (A 2), .ref (A 3)])), ((A 2), aI G 26181 a), ((A 3), aI G 1584 tt), ((A 4), .inr (2, [.ref (A 5), .int (zI o), .int (zI s)])), ((A 5), aI G 104724 R), ((A 6), aI G 26181 sn), ((A 7), .inr (5, [.ref (A 8), .int (zI n)])), ((A 8), aC G 80 t), ((A 9), .inr (3, [.ref (A 7), .ref (A 10), .ref (A 11), .ref (A 12), .ref (A 13), .int (zI E), .int (zI P)])), ((A 10), aI G 16 rs), ((A 11), aI G 16 ds), ((A 12), aI G 16 ss), ((A 13), aI G 16 hs), ((A 14), .inr (4, [.ref (A 15), .ref (A 16), .ref (A 17), .int (zI mi1)])), ((A 15), aI G 48 f1), ((A 16), aI G 48 m1), ((A 17), aZ G 48 g1), ((A 18), .inr (4, [.ref (A 19), .ref (A 20), .ref (A 21), .int (zI mi2)])), ((A 19), aI G 48 f2), ((A 20), aI G 48 m2), ((A 21), aZ G 48 g2), ((A 22), .inr (1, [.ref (A 23), .int (zI df), .int (zI dq), .int (zI sc)])), ((A 23), .inr (4, [.ref (A 24), .ref (A 25), .ref (A 26), .int (zI mi3)])), ((A 24), aI G 48 f3), ((A 25), aI G 48 m3), ((A 26), aZ G 48 g3)] (RdX A G a o s R bb sn t n (rNext a)) := by
  refine Ct.intro (cc := cX6_nextPlate) (maxL := 4) (ret := (some .int)) (lo0 := [some (.ref (A 0)), none, none, none]) (by decide +kernel) rfl ⟨rfl, rfl⟩ (Nat.le_of_ble_eq_true rfl) rfl ?_
  intro X F T
  change Fx X (YX6_nextPlate l G) at F
  change V X (YX6_nextPlate l G) 0 0 0 _ _ _
  refine V.iconst (q := 1) F dX6_nextPlate_0 rfl ?_
  refine V.istore_n (q := 2) (lo' := [_, _, _, _]) F dX6_nextPlate_1 rfl rfl (Nat.le_of_ble_eq_true rfl) rfl rfl ?_
  refine V.bipush (q := 4) F dX6_nextPlate_2 rfl (by decide) ?_
  refine V.istore_n (q := 5) (lo' := [_, _, _, _]) F dX6_nextPlate_4 rfl rfl (Nat.le_of_ble_eq_true rfl) rfl rfl ?_
  refine V.iconst (q := 6) F dX6_nextPlate_5 rfl ?_
  refine V.istore_n (q := 7) (lo' := [_, _, _, _]) F dX6_nextPlate_6 rfl rfl (Nat.le_of_ble_eq_true rfl) rfl rfl ?_
  have L7 : ∀ (nq : Nat) (i m b df dq sc mi3 : Int) (f3 m3 : Int → Int) (hi : 0 ≤ i ∧ i ≤ 16) (hm : (m, b) = pvz (nxf a) i.toNat) (hm2 : 0 ≤ m ∧ m ≤ 1000000), (16 - i).toNat < nq → V X (YX6_nextPlate l G) 0 0 7 [some (.ref (A 0)), some (.int (zI m)), some (.int (zI b)), some (.int (zI i))] [] [((A 0), .inr (6, [.ref (A 1), .ref (A 4), .ref (A 6), .int (zI bb), .ref (A 9), .ref (A 7), .ref (A 14), .ref (A 18), .ref (A 22)])), ((A 1), .inr (0, [.ref (A 2), .ref (A 3)])), ((A 2), aI G 26181 a), ((A 3), aI G 1584 tt), ((A 4), .inr (2, [.ref (A 5), .int (zI o), .int (zI s)])), ((A 5), aI G 104724 R), ((A 6), aI G 26181 sn), ((A 7), .inr (5, [.ref (A 8), .int (zI n)])), ((A 8), aC G 80 t), ((A 9), .inr (3, [.ref (A 7), .ref (A 10), .ref (A 11), .ref (A 12), .ref (A 13), .int (zI E), .int (zI P)])), ((A 10), aI G 16 rs), ((A 11), aI G 16 ds), ((A 12), aI G 16 ss), ((A 13), aI G 16 hs), ((A 14), .inr (4, [.ref (A 15), .ref (A 16), .ref (A 17), .int (zI mi1)])), ((A 15), aI G 48 f1), ((A 16), aI G 48 m1), ((A 17), aZ G 48 g1), ((A 18), .inr (4, [.ref (A 19), .ref (A 20), .ref (A 21), .int (zI mi2)])), ((A 19), aI G 48 f2), ((A 20), aI G 48 m2), ((A 21), aZ G 48 g2), ((A 22), .inr (1, [.ref (A 23), .int (zI df), .int (zI dq), .int (zI sc)])), ((A 23), .inr (4, [.ref (A 24), .ref (A 25), .ref (A 26), .int (zI mi3)])), ((A 24), aI G 48 f3), ((A 25), aI G 48 m3), ((A 26), aZ G 48 g3)] := by
    intro n7
    induction n7 with
    | zero => intro i m b df dq sc mi3 f3 m3 hi hm hm2 hm7; exact absurd hm7 (Nat.not_lt_zero _)
    | succ n7 ih7 =>
      intro i m b df dq sc mi3 f3 m3 hi hm hm2 hm7
      have hb := fun h : i < 16 => nxf_rng hI (r := i) (by omega)
      have hob : 0 ≤ obsz a i ∧ obsz a i ≤ 3 := by unfold obsz; omega
      have hnx : nxf a i = if obsz a i = 0 then disz a i else 0 := rfl
      refine V.iload_n (q := 8) F dX6_nextPlate_7 rfl rfl rfl ?_
      refine V.bipush (q := 10) F dX6_nextPlate_8 rfl (by decide) ?_
      refine V.icmp_ge (q := 13) (tgt := 48) F dX6_nextPlate_10 rfl (by decide) (by omega) (fun k10 => ?_) (fun k10 => ?_)
      · refine V.iload_n (q := 49) F dX6_nextPlate_48 rfl rfl rfl ?_
        exact V.iret F T dX6_nextPlate_49 ⟨⟨(_, _, _, _, _), (_, _, _), (_, _, _), (_, _, _), (_, _, _, _, _, _, _, _)⟩, (iEq (by unfold rNext; rw [show (16 : Nat) = i.toNat by omega, ← hm])), rfl⟩ [(A 0), (A 1), (A 2), (A 3), (A 4), (A 5), (A 6), (A 7), (A 8), (A 9), (A 10), (A 11), (A 12), (A 13), (A 14), (A 15), (A 16), (A 17), (A 18), (A 19), (A 20), (A 21), (A 22), (A 23), (A 24), (A 25), (A 26)] rfl rfl
      · refine V.aload_n (q := 14) F dX6_nextPlate_13 rfl rfl rfl ?_
        refine V.iload_n (q := 15) F dX6_nextPlate_14 rfl rfl rfl ?_
        refine V.callV (q := 18) F [0, 1, 2, 22, 23, 24, 25] 0 dX6_nextPlate_15 rfl (c_X6_obstacleTo l G (A 0) (A 1) (A 2) (A 3) (A 4) (A 6) (A 7) (A 9) (A 14) (A 18) (A 22) (A 23) (A 24) (A 25) (A 26) _ _ _ _ _ _ _ _ _ (by omega) hI) gX6_nextPlate_X6_obstacleTo rfl rfl ydX6_obstacleTo ⟨Nat.le_of_ble_eq_true rfl, Nat.le_of_ble_eq_true rfl⟩ (ci := 6) rfl rfl rfl rfl (Nat.le_of_ble_eq_true rfl) rfl rfl ⟨Nat.zero_le _, Nat.zero_le _⟩ (fun r9 w9 h9 _ => ?_)
        obtain ⟨df, dq, sc, mi3, f3, m3, rfl, rfl, hok⟩ := h9
        refine V.eq (pc' := 18) (st' := [_]) (ws' := [_, _, _, _, _, _, _, _, _, _, _, _, _, _, _, _, _, _, _, _, _, _, _, _, _, _, _]) rfl rfl rfl rfl ?_
        refine V.if_ne (q := 21) (tgt := 42) F dX6_nextPlate_18 rfl (by decide) (by omega) (fun k18 => ?_) (fun k18 => ?_)
        · refine V.iinc (q := 45) (lo' := [_, _, _, _]) F dX6_nextPlate_42 rfl rfl (Nat.le_of_ble_eq_true rfl) rfl rfl ?_
          refine V.goto (tgt := 7) F dX6_nextPlate_45 (by decide) ?_
          exact ih7 (i + 1) _ _ _ _ _ _ _ _ (by omega) (by rw [pvz_s _ hi.1, ← hm]; first | rw [if_pos (show m < nxf a i by omega), show nxf a i = disz a i by omega] | rw [if_neg (show ¬ m < nxf a i by omega)]) (by omega) (by omega)
        · obtain ⟨rfl, rfl, rfl, hfz⟩ := hok (by omega)
          refine V.aload_n (q := 22) F dX6_nextPlate_21 rfl rfl rfl ?_
          refine V.get (q := 25) F 0 8 dX6_nextPlate_22 rfl rfl rfl inX6_nextPlate_X6 (by decide) (List.mem_of_getElem? (i := 1) rfl) rfl ?_
          refine V.get (q := 28) F 22 2 dX6_nextPlate_25 rfl rfl rfl inX6_nextPlate_X1 (by decide) (List.mem_of_getElem? (i := 2) rfl) rfl ?_
          refine V.iload_n (q := 29) F dX6_nextPlate_28 rfl rfl rfl ?_
          refine V.icmp_le (q := 32) (tgt := 42) F dX6_nextPlate_29 rfl (by decide) (by omega) (fun k29 => ?_) (fun k29 => ?_)
          · refine V.iinc (q := 45) (lo' := [_, _, _, _]) F dX6_nextPlate_42 rfl rfl (Nat.le_of_ble_eq_true rfl) rfl rfl ?_
            refine V.goto (tgt := 7) F dX6_nextPlate_45 (by decide) ?_
            exact ih7 (i + 1) _ _ _ _ _ _ _ _ (by omega) (by rw [pvz_s _ hi.1, ← hm]; first | rw [if_pos (show m < nxf a i by omega), show nxf a i = disz a i by omega] | rw [if_neg (show ¬ m < nxf a i by omega)]) (by omega) (by omega)
          · refine V.aload_n (q := 33) F dX6_nextPlate_32 rfl rfl rfl ?_
            refine V.get (q := 36) F 0 8 dX6_nextPlate_33 rfl rfl rfl inX6_nextPlate_X6 (by decide) (List.mem_of_getElem? (i := 1) rfl) rfl ?_
            refine V.get (q := 39) F 22 2 dX6_nextPlate_36 rfl rfl rfl inX6_nextPlate_X1 (by decide) (List.mem_of_getElem? (i := 2) rfl) rfl ?_
            refine V.istore_n (q := 40) (lo' := [_, _, _, _]) F dX6_nextPlate_39 rfl rfl (Nat.le_of_ble_eq_true rfl) rfl rfl ?_
            refine V.iload_n (q := 41) F dX6_nextPlate_40 rfl rfl rfl ?_
            refine V.istore_n (q := 42) (lo' := [_, _, _, _]) F dX6_nextPlate_41 rfl rfl (Nat.le_of_ble_eq_true rfl) rfl rfl ?_
            refine V.iinc (q := 45) (lo' := [_, _, _, _]) F dX6_nextPlate_42 rfl rfl (Nat.le_of_ble_eq_true rfl) rfl rfl ?_
            refine V.goto (tgt := 7) F dX6_nextPlate_45 (by decide) ?_
            exact ih7 (i + 1) _ _ _ _ _ _ _ _ (by omega) (by rw [pvz_s _ hi.1, ← hm]; first | rw [if_pos (show m < nxf a i by omega), show nxf a i = disz a i by omega] | rw [if_neg (show ¬ m < nxf a i by omega)]) (by omega) (by omega)
  exact L7 _ 0 0 (-5) _ _ _ _ _ _ (by omega) rfl (by omega) (Nat.lt_succ_self _)

abbrev YX6_count (l : Launch) (G : Gx) : Sx := (cX6_count, 2, RX6, wsX6_count, rmD 6, l, G)
theorem ydX6_count : ydOk yX6_count 1 := by decide +kernel
theorem inX6_count_X2 : ∀ w ∈ wsX20, w ∈ wsX6_count := fun _ h => List.mem_cons_of_mem _ (List.mem_append_left _ (List.mem_append_left _ (List.mem_append_left _ (List.mem_append_left _ (List.mem_append_right _ h)))))
theorem inX6_count_X6 : ∀ w ∈ wsX60, w ∈ wsX6_count := fun _ h => List.mem_cons_of_mem _ (List.mem_append_left _ (List.mem_append_left _ (List.mem_append_left _ (List.mem_append_left _ (List.mem_append_left _ (List.mem_append_right _ h))))))
set_option maxHeartbeats 1000000 in
set_option maxRecDepth 20000 in
theorem c_X6_count (l : Launch) (G : Gx) (A : Nat → Nat) (a tt R sn t rs ds ss hs f1 m1 g1 f2 m2 g2 f3 m3 g3 : Int → Int) (o s bb n E P mi1 mi2 mi3 df dq sc w : Int) (hI : Inv a) (ho : 0 ≤ o ∧ o < 4) (hq : 0 ≤ s ∧ s ≤ 4) (hbb : 0 ≤ bb ∧ bb ≤ 1) (hn : 0 ≤ n ∧ n ≤ 80) (ht : ∀ j, 0 ≤ t j ∧ t j < 65536) (hrw : -2147483648 ≤ w ∧ w < 2147483648) : Ct l G yX6_count wsX6_count (rmD 6) [.ref (A 0), .int (zI w)] [((A 0), .inr (6, [.ref (A 1), .ref (A 4), .ref (A 6), .int (zI bb), .ref (A 9), .ref (A 7), .ref (A 14), .ref (A 18), .ref (A 22)])), ((A 1), .inr (0, [.ref (A 2), .ref (A 3)])), ((A 2), aI G 26181 a), ((A 3), aI G 1584 tt), ((A 4), .inr (2, [.ref (A 5), .int (zI o), .int (zI s)])), ((A 5), aI G 104724 R), ((A 6), aI G 26181 sn), ((A 7), .inr (5, [.ref (A 8), .int (zI n)])), ((A 8), aC G 80 t), ((A 9), .inr (3, [.ref (A 7), .ref (A 10), .ref (A 11), .ref (A 12), .ref (A 13), .int (zI E), .int (zI P)])), ((A 10), aI G 16 rs), ((A 11), aI G 16 ds), ((A 12), aI G 16 ss), ((A 13), aI G 16 hs), ((A 14), .inr (4, [.ref (A 15), .ref (A 16), .ref (A 17), .int (zI mi1)])), ((A 15), aI G 48 f1), ((A 16), aI G 48 m1), ((A 17), aZ G 48 g1), ((A 18), .inr (4, [.ref (A 19), .ref (A 20), .ref (A 21), .int (zI mi2)])), ((A 19), aI G 48 f2), ((A 20), aI G 48 m2), ((A 21), aZ G 48 g2), ((A 22), .inr (1, [.ref (A 23), .int (zI df), .int (zI dq), .int (zI sc)])), ((A 23), .inr (4, [.ref (A 24), .ref (A 25), .ref (A 26), .int (zI mi3)])), ((A 24), aI G 48 f3), ((A 25), aI G 48 m3), ((A 26), aZ G 48 g3)] (RdX A G a o s R bb sn t n (rCount a s n w)) := by
  refine Ct.intro (cc := cX6_count) (maxL := 2) (ret := (some .int)) (lo0 := [some (.ref (A 0)), some (.int (zI w))]) (by decide +kernel) rfl ⟨rfl, rfl⟩ (Nat.le_of_ble_eq_true rfl) rfl ?_
  intro X F T
  change Fx X (YX6_count l G) at F
  change V X (YX6_count l G) 0 0 0 _ _ _
  refine V.iload_n (q := 1) F dX6_count_0 rfl rfl rfl ?_
  rcases (show w = 0 ∨ w = 1 ∨ w = 2 ∨ w = 3 ∨ w = 4 ∨ w = 5 ∨ w = 6 ∨ w = 7 ∨ w = 8 ∨ w = 9 ∨ w = 10 ∨ (w < 0 ∨ 10 < w) by omega) with rfl | rfl | rfl | rfl | rfl | rfl | rfl | rfl | rfl | rfl | rfl | hsw
  · refine V.tswIn (tgt := 60) F dX6_count_1 (by decide) (by decide) (by decide) rfl (by decide) ?_
    refine V.aload_n (q := 61) F dX6_count_60 rfl rfl rfl ?_
    refine V.get (q := 64) F 0 0 dX6_count_61 rfl rfl rfl inX6_count_X6 (by decide) (List.mem_of_getElem? (i := 1) rfl) rfl ?_
    refine V.callV (q := 67) F [1, 2] 1 dX6_count_64 rfl (c_X0_hoursOfAll l G (A 1) (A 2) (A 3) _ ) gX6_count_X0_hoursOfAll rfl rfl ydX0_hoursOfAll ⟨Nat.le_of_ble_eq_true rfl, Nat.le_of_ble_eq_true rfl⟩ (ci := 0) rfl rfl rfl rfl (Nat.le_of_ble_eq_true rfl) rfl rfl ⟨Nat.zero_le _, Nat.zero_le _⟩ (kkf (st' := [_]) (ws' := [_, _, _, _, _, _, _, _, _, _, _, _, _, _, _, _, _, _, _, _, _, _, _, _, _, _, _]) rfl rfl ?_)
    exact V.iret F T dX6_count_67 ⟨⟨(_, _, _, _, _), (_, _, _), (_, _, _), (_, _, _), (_, _, _, _, _, _, _, _)⟩, (iEq (by unfold rCount; first | omega | (simp; done) | (simp; omega))), rfl⟩ [(A 0), (A 1), (A 2), (A 3), (A 4), (A 5), (A 6), (A 7), (A 8), (A 9), (A 10), (A 11), (A 12), (A 13), (A 14), (A 15), (A 16), (A 17), (A 18), (A 19), (A 20), (A 21), (A 22), (A 23), (A 24), (A 25), (A 26)] rfl rfl
  · refine V.tswIn (tgt := 68) F dX6_count_1 (by decide) (by decide) (by decide) rfl (by decide) ?_
    refine V.aload_n (q := 69) F dX6_count_68 rfl rfl rfl ?_
    refine V.get (q := 72) F 0 0 dX6_count_69 rfl rfl rfl inX6_count_X6 (by decide) (List.mem_of_getElem? (i := 1) rfl) rfl ?_
    refine V.callV (q := 75) F [1, 2] 1 dX6_count_72 rfl (c_X0_calmHoursOfAll l G (A 1) (A 2) (A 3) _ ) gX6_count_X0_calmHoursOfAll rfl rfl ydX0_calmHoursOfAll ⟨Nat.le_of_ble_eq_true rfl, Nat.le_of_ble_eq_true rfl⟩ (ci := 0) rfl rfl rfl rfl (Nat.le_of_ble_eq_true rfl) rfl rfl ⟨Nat.zero_le _, Nat.zero_le _⟩ (kkf (st' := [_]) (ws' := [_, _, _, _, _, _, _, _, _, _, _, _, _, _, _, _, _, _, _, _, _, _, _, _, _, _, _]) rfl rfl ?_)
    exact V.iret F T dX6_count_75 ⟨⟨(_, _, _, _, _), (_, _, _), (_, _, _), (_, _, _), (_, _, _, _, _, _, _, _)⟩, (iEq (by unfold rCount; first | omega | (simp; done) | (simp; omega))), rfl⟩ [(A 0), (A 1), (A 2), (A 3), (A 4), (A 5), (A 6), (A 7), (A 8), (A 9), (A 10), (A 11), (A 12), (A 13), (A 14), (A 15), (A 16), (A 17), (A 18), (A 19), (A 20), (A 21), (A 22), (A 23), (A 24), (A 25), (A 26)] rfl rfl
  · refine V.tswIn (tgt := 76) F dX6_count_1 (by decide) (by decide) (by decide) rfl (by decide) ?_
    refine V.aload_n (q := 77) F dX6_count_76 rfl rfl rfl ?_
    refine V.callV (q := 80) F [0, 1, 2, 22, 23, 24, 25] 0 dX6_count_77 rfl (c_X6_platesNotAsDue l G (A 0) (A 1) (A 2) (A 3) (A 4) (A 6) (A 7) (A 9) (A 14) (A 18) (A 22) (A 23) (A 24) (A 25) (A 26) _ _ _ _ _ _ _ _ hI) gX6_count_X6_platesNotAsDue rfl rfl ydX6_platesNotAsDue ⟨Nat.le_of_ble_eq_true rfl, Nat.le_of_ble_eq_true rfl⟩ (ci := 6) rfl rfl rfl rfl (Nat.le_of_ble_eq_true rfl) rfl rfl ⟨Nat.zero_le _, Nat.zero_le _⟩ (fun r9 w9 h9 _ => ?_)
    obtain ⟨df, dq, sc, mi3, f3, m3, rfl, rfl⟩ := h9
    refine V.eq (pc' := 80) (st' := [_]) (ws' := [_, _, _, _, _, _, _, _, _, _, _, _, _, _, _, _, _, _, _, _, _, _, _, _, _, _, _]) rfl rfl rfl rfl ?_
    exact V.iret F T dX6_count_80 ⟨⟨(_, _, _, _, _), (_, _, _), (_, _, _), (_, _, _), (_, _, _, _, _, _, _, _)⟩, (iEq (by unfold rCount; first | omega | (simp; done) | (simp; omega))), rfl⟩ [(A 0), (A 1), (A 2), (A 3), (A 4), (A 5), (A 6), (A 7), (A 8), (A 9), (A 10), (A 11), (A 12), (A 13), (A 14), (A 15), (A 16), (A 17), (A 18), (A 19), (A 20), (A 21), (A 22), (A 23), (A 24), (A 25), (A 26)] rfl rfl
  · refine V.tswIn (tgt := 81) F dX6_count_1 (by decide) (by decide) (by decide) rfl (by decide) ?_
    refine V.aload_n (q := 82) F dX6_count_81 rfl rfl rfl ?_
    refine V.get (q := 85) F 0 0 dX6_count_82 rfl rfl rfl inX6_count_X6 (by decide) (List.mem_of_getElem? (i := 1) rfl) rfl ?_
    refine V.callV (q := 88) F [1, 2] 1 dX6_count_85 rfl (c_X0_scrapesOfAll l G (A 1) (A 2) (A 3) _ ) gX6_count_X0_scrapesOfAll rfl rfl ydX0_scrapesOfAll ⟨Nat.le_of_ble_eq_true rfl, Nat.le_of_ble_eq_true rfl⟩ (ci := 0) rfl rfl rfl rfl (Nat.le_of_ble_eq_true rfl) rfl rfl ⟨Nat.zero_le _, Nat.zero_le _⟩ (kkf (st' := [_]) (ws' := [_, _, _, _, _, _, _, _, _, _, _, _, _, _, _, _, _, _, _, _, _, _, _, _, _, _, _]) rfl rfl ?_)
    exact V.iret F T dX6_count_88 ⟨⟨(_, _, _, _, _), (_, _, _), (_, _, _), (_, _, _), (_, _, _, _, _, _, _, _)⟩, (iEq (by unfold rCount; first | omega | (simp; done) | (simp; omega))), rfl⟩ [(A 0), (A 1), (A 2), (A 3), (A 4), (A 5), (A 6), (A 7), (A 8), (A 9), (A 10), (A 11), (A 12), (A 13), (A 14), (A 15), (A 16), (A 17), (A 18), (A 19), (A 20), (A 21), (A 22), (A 23), (A 24), (A 25), (A 26)] rfl rfl
  · refine V.tswIn (tgt := 89) F dX6_count_1 (by decide) (by decide) (by decide) rfl (by decide) ?_
    refine V.aload_n (q := 90) F dX6_count_89 rfl rfl rfl ?_
    refine V.get (q := 93) F 0 0 dX6_count_90 rfl rfl rfl inX6_count_X6 (by decide) (List.mem_of_getElem? (i := 1) rfl) rfl ?_
    refine V.callV (q := 96) F [1, 2] 1 dX6_count_93 rfl (c_X0_platesEngraved l G (A 1) (A 2) (A 3) _ ) gX6_count_X0_platesEngraved rfl rfl ydX0_platesEngraved ⟨Nat.le_of_ble_eq_true rfl, Nat.le_of_ble_eq_true rfl⟩ (ci := 0) rfl rfl rfl rfl (Nat.le_of_ble_eq_true rfl) rfl rfl ⟨Nat.zero_le _, Nat.zero_le _⟩ (kkf (st' := [_]) (ws' := [_, _, _, _, _, _, _, _, _, _, _, _, _, _, _, _, _, _, _, _, _, _, _, _, _, _, _]) rfl rfl ?_)
    exact V.iret F T dX6_count_96 ⟨⟨(_, _, _, _, _), (_, _, _), (_, _, _), (_, _, _), (_, _, _, _, _, _, _, _)⟩, (iEq (by unfold rCount; first | omega | (simp; done) | (simp; omega))), rfl⟩ [(A 0), (A 1), (A 2), (A 3), (A 4), (A 5), (A 6), (A 7), (A 8), (A 9), (A 10), (A 11), (A 12), (A 13), (A 14), (A 15), (A 16), (A 17), (A 18), (A 19), (A 20), (A 21), (A 22), (A 23), (A 24), (A 25), (A 26)] rfl rfl
  · refine V.tswIn (tgt := 97) F dX6_count_1 (by decide) (by decide) (by decide) rfl (by decide) ?_
    refine V.aload_n (q := 98) F dX6_count_97 rfl rfl rfl ?_
    refine V.get (q := 101) F 0 0 dX6_count_98 rfl rfl rfl inX6_count_X6 (by decide) (List.mem_of_getElem? (i := 1) rfl) rfl ?_
    refine V.callV (q := 104) F [1, 2] 1 dX6_count_101 rfl (c_X0_platesRenewed l G (A 1) (A 2) (A 3) _ ) gX6_count_X0_platesRenewed rfl rfl ydX0_platesRenewed ⟨Nat.le_of_ble_eq_true rfl, Nat.le_of_ble_eq_true rfl⟩ (ci := 0) rfl rfl rfl rfl (Nat.le_of_ble_eq_true rfl) rfl rfl ⟨Nat.zero_le _, Nat.zero_le _⟩ (kkf (st' := [_]) (ws' := [_, _, _, _, _, _, _, _, _, _, _, _, _, _, _, _, _, _, _, _, _, _, _, _, _, _, _]) rfl rfl ?_)
    exact V.iret F T dX6_count_104 ⟨⟨(_, _, _, _, _), (_, _, _), (_, _, _), (_, _, _), (_, _, _, _, _, _, _, _)⟩, (iEq (by unfold rCount; first | omega | (simp; done) | (simp; omega))), rfl⟩ [(A 0), (A 1), (A 2), (A 3), (A 4), (A 5), (A 6), (A 7), (A 8), (A 9), (A 10), (A 11), (A 12), (A 13), (A 14), (A 15), (A 16), (A 17), (A 18), (A 19), (A 20), (A 21), (A 22), (A 23), (A 24), (A 25), (A 26)] rfl rfl
  · refine V.tswIn (tgt := 105) F dX6_count_1 (by decide) (by decide) (by decide) rfl (by decide) ?_
    refine V.aload_n (q := 106) F dX6_count_105 rfl rfl rfl ?_
    refine V.get (q := 109) F 0 0 dX6_count_106 rfl rfl rfl inX6_count_X6 (by decide) (List.mem_of_getElem? (i := 1) rfl) rfl ?_
    refine V.iload_n (q := 110) F dX6_count_109 rfl rfl rfl ?_
    refine V.bipush (q := 112) F dX6_count_110 rfl (by decide) ?_
    refine V.isub (q := 113) F dX6_count_112 rfl ?_
    refine V.callV (q := 116) F [1, 2] 1 dX6_count_113 rfl (c_X0_setting l G (A 1) (A 2) (A 3) _ _ (by omega)) gX6_count_X0_setting rfl rfl ydX0_setting ⟨Nat.le_of_ble_eq_true rfl, Nat.le_of_ble_eq_true rfl⟩ (ci := 0) rfl rfl rfl rfl (Nat.le_of_ble_eq_true rfl) rfl rfl ⟨Nat.zero_le _, Nat.zero_le _⟩ (kkf (st' := [_]) (ws' := [_, _, _, _, _, _, _, _, _, _, _, _, _, _, _, _, _, _, _, _, _, _, _, _, _, _, _]) rfl rfl ?_)
    exact V.iret F T dX6_count_116 ⟨⟨(_, _, _, _, _), (_, _, _), (_, _, _), (_, _, _), (_, _, _, _, _, _, _, _)⟩, (iEq (by unfold rCount; first | omega | (simp; done) | (simp; omega))), rfl⟩ [(A 0), (A 1), (A 2), (A 3), (A 4), (A 5), (A 6), (A 7), (A 8), (A 9), (A 10), (A 11), (A 12), (A 13), (A 14), (A 15), (A 16), (A 17), (A 18), (A 19), (A 20), (A 21), (A 22), (A 23), (A 24), (A 25), (A 26)] rfl rfl
  · refine V.tswIn (tgt := 105) F dX6_count_1 (by decide) (by decide) (by decide) rfl (by decide) ?_
    refine V.aload_n (q := 106) F dX6_count_105 rfl rfl rfl ?_
    refine V.get (q := 109) F 0 0 dX6_count_106 rfl rfl rfl inX6_count_X6 (by decide) (List.mem_of_getElem? (i := 1) rfl) rfl ?_
    refine V.iload_n (q := 110) F dX6_count_109 rfl rfl rfl ?_
    refine V.bipush (q := 112) F dX6_count_110 rfl (by decide) ?_
    refine V.isub (q := 113) F dX6_count_112 rfl ?_
    refine V.callV (q := 116) F [1, 2] 1 dX6_count_113 rfl (c_X0_setting l G (A 1) (A 2) (A 3) _ _ (by omega)) gX6_count_X0_setting rfl rfl ydX0_setting ⟨Nat.le_of_ble_eq_true rfl, Nat.le_of_ble_eq_true rfl⟩ (ci := 0) rfl rfl rfl rfl (Nat.le_of_ble_eq_true rfl) rfl rfl ⟨Nat.zero_le _, Nat.zero_le _⟩ (kkf (st' := [_]) (ws' := [_, _, _, _, _, _, _, _, _, _, _, _, _, _, _, _, _, _, _, _, _, _, _, _, _, _, _]) rfl rfl ?_)
    exact V.iret F T dX6_count_116 ⟨⟨(_, _, _, _, _), (_, _, _), (_, _, _), (_, _, _), (_, _, _, _, _, _, _, _)⟩, (iEq (by unfold rCount; first | omega | (simp; done) | (simp; omega))), rfl⟩ [(A 0), (A 1), (A 2), (A 3), (A 4), (A 5), (A 6), (A 7), (A 8), (A 9), (A 10), (A 11), (A 12), (A 13), (A 14), (A 15), (A 16), (A 17), (A 18), (A 19), (A 20), (A 21), (A 22), (A 23), (A 24), (A 25), (A 26)] rfl rfl
  · refine V.tswIn (tgt := 105) F dX6_count_1 (by decide) (by decide) (by decide) rfl (by decide) ?_
    refine V.aload_n (q := 106) F dX6_count_105 rfl rfl rfl ?_
    refine V.get (q := 109) F 0 0 dX6_count_106 rfl rfl rfl inX6_count_X6 (by decide) (List.mem_of_getElem? (i := 1) rfl) rfl ?_
    refine V.iload_n (q := 110) F dX6_count_109 rfl rfl rfl ?_
    refine V.bipush (q := 112) F dX6_count_110 rfl (by decide) ?_
    refine V.isub (q := 113) F dX6_count_112 rfl ?_
    refine V.callV (q := 116) F [1, 2] 1 dX6_count_113 rfl (c_X0_setting l G (A 1) (A 2) (A 3) _ _ (by omega)) gX6_count_X0_setting rfl rfl ydX0_setting ⟨Nat.le_of_ble_eq_true rfl, Nat.le_of_ble_eq_true rfl⟩ (ci := 0) rfl rfl rfl rfl (Nat.le_of_ble_eq_true rfl) rfl rfl ⟨Nat.zero_le _, Nat.zero_le _⟩ (kkf (st' := [_]) (ws' := [_, _, _, _, _, _, _, _, _, _, _, _, _, _, _, _, _, _, _, _, _, _, _, _, _, _, _]) rfl rfl ?_)
    exact V.iret F T dX6_count_116 ⟨⟨(_, _, _, _, _), (_, _, _), (_, _, _), (_, _, _), (_, _, _, _, _, _, _, _)⟩, (iEq (by unfold rCount; first | omega | (simp; done) | (simp; omega))), rfl⟩ [(A 0), (A 1), (A 2), (A 3), (A 4), (A 5), (A 6), (A 7), (A 8), (A 9), (A 10), (A 11), (A 12), (A 13), (A 14), (A 15), (A 16), (A 17), (A 18), (A 19), (A 20), (A 21), (A 22), (A 23), (A 24), (A 25), (A 26)] rfl rfl
  · refine V.tswIn (tgt := 117) F dX6_count_1 (by decide) (by decide) (by decide) rfl (by decide) ?_
    refine V.aload_n (q := 118) F dX6_count_117 rfl rfl rfl ?_
    refine V.get (q := 121) F 0 1 dX6_count_118 rfl rfl rfl inX6_count_X6 (by decide) (List.mem_of_getElem? (i := 2) rfl) rfl ?_
    refine V.get (q := 124) F 4 2 dX6_count_121 rfl rfl rfl inX6_count_X2 (by decide) (List.mem_of_getElem? (i := 3) rfl) rfl ?_
    exact V.iret F T dX6_count_124 ⟨⟨(_, _, _, _, _), (_, _, _), (_, _, _), (_, _, _), (_, _, _, _, _, _, _, _)⟩, (iEq (by unfold rCount; first | omega | (simp; done) | (simp; omega))), rfl⟩ [(A 0), (A 1), (A 2), (A 3), (A 4), (A 5), (A 6), (A 7), (A 8), (A 9), (A 10), (A 11), (A 12), (A 13), (A 14), (A 15), (A 16), (A 17), (A 18), (A 19), (A 20), (A 21), (A 22), (A 23), (A 24), (A 25), (A 26)] rfl rfl
  · refine V.tswIn (tgt := 125) F dX6_count_1 (by decide) (by decide) (by decide) rfl (by decide) ?_
    refine V.aload_n (q := 126) F dX6_count_125 rfl rfl rfl ?_
    refine V.get (q := 129) F 0 5 dX6_count_126 rfl rfl rfl inX6_count_X6 (by decide) (List.mem_of_getElem? (i := 4) rfl) rfl ?_
    refine V.callV (q := 132) F [7] 7 dX6_count_129 rfl (c_X5_length l G (A 7) (A 8) _ ) gX6_count_X5_length rfl rfl ydX5_length ⟨Nat.le_of_ble_eq_true rfl, Nat.le_of_ble_eq_true rfl⟩ (ci := 5) rfl rfl rfl rfl (Nat.le_of_ble_eq_true rfl) rfl rfl ⟨Nat.zero_le _, Nat.zero_le _⟩ (kkf (st' := [_]) (ws' := [_, _, _, _, _, _, _, _, _, _, _, _, _, _, _, _, _, _, _, _, _, _, _, _, _, _, _]) rfl rfl ?_)
    exact V.iret F T dX6_count_132 ⟨⟨(_, _, _, _, _), (_, _, _), (_, _, _), (_, _, _), (_, _, _, _, _, _, _, _)⟩, (iEq (by unfold rCount; first | omega | (simp; done) | (simp; omega))), rfl⟩ [(A 0), (A 1), (A 2), (A 3), (A 4), (A 5), (A 6), (A 7), (A 8), (A 9), (A 10), (A 11), (A 12), (A 13), (A 14), (A 15), (A 16), (A 17), (A 18), (A 19), (A 20), (A 21), (A 22), (A 23), (A 24), (A 25), (A 26)] rfl rfl
  · refine V.tswOut (tgt := 133) F dX6_count_1 (by omega) hsw (by decide) ?_
    refine V.bipush (q := 135) F dX6_count_133 rfl (by decide) ?_
    exact V.iret F T dX6_count_135 ⟨⟨(_, _, _, _, _), (_, _, _), (_, _, _), (_, _, _), (_, _, _, _, _, _, _, _)⟩, (iEq (by unfold rCount; first | omega | (simp; done) | (simp; omega))), rfl⟩ [(A 0), (A 1), (A 2), (A 3), (A 4), (A 5), (A 6), (A 7), (A 8), (A 9), (A 10), (A 11), (A 12), (A 13), (A 14), (A 15), (A 16), (A 17), (A 18), (A 19), (A 20), (A 21), (A 22), (A 23), (A 24), (A 25), (A 26)] rfl rfl

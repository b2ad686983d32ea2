/-! WindRoses: its world, and what its methods answer -/
/-- what the 27 cells hold beside the state: turning; roses, directions, speeds, hours; thrice row, remainders, given; entries, place, thrice missing; different, distance, scrapes -/
abbrev Scr : Type := ((Int → Int) × (Int → Int) × (Int → Int) × (Int → Int) × (Int → Int)) × ((Int → Int) × (Int → Int) × (Int → Int)) × ((Int → Int) × (Int → Int) × (Int → Int)) × ((Int → Int) × (Int → Int) × (Int → Int)) × (Int × Int × Int × Int × Int × Int × Int × Int)
def WX (A : Nat → Nat) (G : Gx) (a : Int → Int) (o s : Int) (R : Int → Int) (bb : Int) (sn t : Int → Int) (n : Int) (κ : Scr) : va_W :=
  [((A 0), .inr (6, [.ref (A 1), .ref (A 4), .ref (A 6), .int (zI bb), .ref (A 9), .ref (A 7), .ref (A 14), .ref (A 18), .ref (A 22)])),
   ((A 1), .inr (0, [.ref (A 2), .ref (A 3)])),
   ((A 2), aI G 26181 a),
   ((A 3), aI G 1584 κ.1.1),
   ((A 4), .inr (2, [.ref (A 5), .int (zI o), .int (zI s)])),
   ((A 5), aI G 104724 R),
   ((A 6), aI G 26181 sn),
   ((A 7), .inr (5, [.ref (A 8), .int (zI n)])),
   ((A 8), aC G 80 t),
   ((A 9), .inr (3, [.ref (A 7), .ref (A 10), .ref (A 11), .ref (A 12), .ref (A 13), .int (zI κ.2.2.2.2.1), .int (zI κ.2.2.2.2.2.1)])),
   ((A 10), aI G 16 κ.1.2.1),
   ((A 11), aI G 16 κ.1.2.2.1),
   ((A 12), aI G 16 κ.1.2.2.2.1),
   ((A 13), aI G 16 κ.1.2.2.2.2),
   ((A 14), .inr (4, [.ref (A 15), .ref (A 16), .ref (A 17), .int (zI κ.2.2.2.2.2.2.1)])),
   ((A 15), aI G 48 κ.2.1.1),
   ((A 16), aI G 48 κ.2.1.2.1),
   ((A 17), aZ G 48 κ.2.1.2.2),
   ((A 18), .inr (4, [.ref (A 19), .ref (A 20), .ref (A 21), .int (zI κ.2.2.2.2.2.2.2.1)])),
   ((A 19), aI G 48 κ.2.2.1.1),
   ((A 20), aI G 48 κ.2.2.1.2.1),
   ((A 21), aZ G 48 κ.2.2.1.2.2),
   ((A 22), .inr (1, [.ref (A 23), .int (zI κ.2.2.2.2.2.2.2.2.2.1), .int (zI κ.2.2.2.2.2.2.2.2.2.2.1), .int (zI κ.2.2.2.2.2.2.2.2.2.2.2)])),
   ((A 23), .inr (4, [.ref (A 24), .ref (A 25), .ref (A 26), .int (zI κ.2.2.2.2.2.2.2.2.1)])),
   ((A 24), aI G 48 κ.2.2.2.1.1),
   ((A 25), aI G 48 κ.2.2.2.1.2.1),
   ((A 26), aZ G 48 κ.2.2.2.1.2.2)]
def RdX (A : Nat → Nat) (G : Gx) (a : Int → Int) (o s : Int) (R : Int → Int) (bb : Int) (sn t : Int → Int) (n : Int) (res : Int) : Option Value → va_W → Prop := fun r w => ∃ κ : Scr, r = some (.int (zI res)) ∧ w = WX A G a o s R bb sn t n κ
def AcX (A : Nat → Nat) (G : Gx) (a : Int → Int) (o s : Int) (R : Int → Int) (bb : Int) (sn t : Int → Int) (n : Int) (a' : Int → Int) (o' s' : Int) (R' : Int → Int) (bb' : Int) (sn' t' : Int → Int) (n' : Int) (res : Int) : Option Value → va_W → Prop := fun r w => ∃ κ : Scr, r = some (.int (zI res)) ∧ (res < 0 → w = WX A G a o s R bb sn t n κ) ∧ (0 ≤ res → w = WX A G a' o' s' R' bb' sn' t' n' κ)
def oN (o s : Int) : Int := if s = 4 then (o + 1) % 4 else o
def sN (s : Int) : Int := (if s = 4 then 3 else s) + 1
def RN (a : Int → Int) (o s : Int) (R : Int → Int) : Int → Int := cpz a R 0 (((if s = 4 then (o + 1) % 4 else o) + (if s = 4 then 3 else s)) % 4 * 26181) 26181
def rLog (a : Int → Int) (p q d v h : Int) : Int := if ¬ (((0 ≤ p ∧ p ≤ 3) ∧ (0 ≤ q ∧ q ≤ 3)) ∧ (0 ≤ d ∧ d ≤ 15)) then -1 else if ¬ ((1 ≤ v ∧ v ≤ 99) ∧ (1 ≤ h ∧ h ≤ 99)) then -2 else if 9999 < a (25344 + (p * 4 + q)) + a (25360 + (p * 4 + q)) + h then -3 else a (25344 + (p * 4 + q)) + a (25360 + (p * 4 + q)) + h
def rCalm (a : Int → Int) (p q h : Int) : Int := if ¬ ((0 ≤ p ∧ p ≤ 3) ∧ (0 ≤ q ∧ q ≤ 3)) then -1 else if ¬ (1 ≤ h ∧ h ≤ 99) then -2 else if 9999 < a (25344 + (p * 4 + q)) + a (25360 + (p * 4 + q)) + h then -3 else a (25344 + (p * 4 + q)) + a (25360 + (p * 4 + q)) + h
def rStrike (a : Int → Int) (p q d v : Int) : Int := if ¬ (((0 ≤ p ∧ p ≤ 3) ∧ (0 ≤ q ∧ q ≤ 3)) ∧ (0 ≤ d ∧ d ≤ 15)) then -1 else if ¬ (1 ≤ v ∧ v ≤ 99) then -2 else if a ((p * 4 + q) * 1584 + d * 99 + v - 1) = 0 then -5 else a ((p * 4 + q) * 1584 + d * 99 + v - 1)
def rTurn (a : Int → Int) (p q b : Int) : Int := if ¬ ((0 ≤ p ∧ p ≤ 3) ∧ (0 ≤ q ∧ q ≤ 3)) then -1 else if ¬ (1 ≤ b ∧ b ≤ 15) then -2 else if a (25344 + (p * 4 + q)) = 0 then -5 else a (25344 + (p * 4 + q))
def rSet (a : Int → Int) (w v : Int) : Int := if ¬ (0 ≤ w ∧ w ≤ 2) then -1 else if ¬ ((w = 2 ∧ 0 ≤ v ∧ v ≤ 9) ∨ (w ≠ 2 ∧ 1 ≤ v ∧ v ≤ 99)) then -2 else if (w = 0 ∧ a 26177 ≤ v) ∨ (w = 1 ∧ v ≤ a 26176) then -4 else if a (26176 + w) = v then -5 else a (26176 + w)
def rEng (a : Int → Int) (p q : Int) : Int := if ¬ ((0 ≤ p ∧ p ≤ 3) ∧ (0 ≤ q ∧ q ≤ 3)) then -1 else if obsz a (p * 4 + q) = 1 ∨ obsz a (p * 4 + q) = 3 then -4 else if obsz a (p * 4 + q) = 2 then -5 else difz a (p * 4 + q)
def rRen (a : Int → Int) (p q : Int) : Int := if ¬ ((0 ≤ p ∧ p ≤ 3) ∧ (0 ≤ q ∧ q ≤ 3)) then -1 else if cutz a (p * 4 + q) = 0 ∧ a (26144 + (p * 4 + q)) = 0 ∧ a (26160 + (p * 4 + q)) = 0 then -5 else a (26160 + (p * 4 + q))
theorem addW_w {a : Int → Int} {r d v h : Int} (hr : 0 ≤ r ∧ r < 16) (hd : 0 ≤ d ∧ d < 16) (hv : 1 ≤ v ∧ v ≤ 99) : addW a r d v h (25344 + r) = a (25344 + r) + h ∧ addW a r d v h (25360 + r) = a (25360 + r) := by
  unfold addW
  rw [upz_eq, upz_ne _ _ _ (show (25344 + r : Int) ≠ r * 1584 + d * 99 + v - 1 by omega), upz_ne _ _ _ (show (25360 + r : Int) ≠ 25344 + r by omega), upz_ne _ _ _ (show (25360 + r : Int) ≠ r * 1584 + d * 99 + v - 1 by omega)]
  exact ⟨rfl, rfl⟩
theorem cpz_congr {f f' g : Int → Int} {sp dp n : Int} (h : ∀ j, sp ≤ j → j < sp + n → f j = f' j) : cpz f g sp dp n = cpz f' g sp dp n := by
  funext j
  unfold cpz
  by_cases hj : dp ≤ j ∧ j < dp + n
  · rw [if_pos hj, if_pos hj]; exact h _ (by omega) (by omega)
  · rw [if_neg hj, if_neg hj]
theorem cutA_congr {a f f' : Int → Int} {r k : Int} (h : ∀ j, 0 ≤ j → j < 48 → f j = f' j) : cutA a r f k = cutA a r f' k := by
  unfold cutA
  rw [cpz_congr (f' := f') (fun j h1 h2 => h j h1 (by omega))]
theorem iEq {x y : Int} (h : x = y) : (some (Value.int (zI x)) : Option Value) = some (.int (zI y)) := by rw [h]
def rType (n : Int) : Int := if 80 ≤ n then -3 else n + 1
def rUndo (s : Int) : Int := if s = 0 then -5 else s - 1
def rKeep (a : Int → Int) : Int := sumz a 25344 + sumz a 25360
def rRest (sn a : Int → Int) (bb : Int) : Int := if bb = 0 then -5 else sumz (cpz sn a 0 0 26181) 25344 + sumz (cpz sn a 0 0 26181) 25360
theorem sumz_nonneg {a : Int → Int} (h : ∀ j, 0 ≤ a j) (t : Int) : 0 ≤ sumz a t := sz_nonneg (fun j _ _ => h _)
theorem cpz_nonneg {f g : Int → Int} (hf : ∀ j, 0 ≤ f j) (hg : ∀ j, 0 ≤ g j) (sp dp n : Int) : ∀ j, 0 ≤ cpz f g sp dp n j := by
  intro j
  unfold cpz
  split
  · exact hf _
  · exact hg _

abbrev YX6_log (l : Launch) (G : Gx) : Sx := (cX6_log, 7, RX6, wsX6_log, rmD 3, l, G)
theorem ydX6_log : ydOk yX6_log 5 := by decide +kernel
theorem inX6_log_X6 : ∀ w ∈ wsX60, w ∈ wsX6_log := fun _ h => List.mem_cons_of_mem _ (List.mem_append_left _ (List.mem_append_left _ (List.mem_append_right _ h)))
set_option maxHeartbeats 1000000 in
set_option maxRecDepth 20000 in
theorem c_X6_log (l : Launch) (G : Gx) (A : Nat → Nat) (a tt R sn t rs ds ss hs f1 m1 g1 f2 m2 g2 f3 m3 g3 : Int → Int) (o s bb n E P mi1 mi2 mi3 df dq sc p q d v h : Int) (hI : Inv a) (ho : 0 ≤ o ∧ o < 4) (hq : 0 ≤ s ∧ s ≤ 4) (hbb : 0 ≤ bb ∧ bb ≤ 1) (hn : 0 ≤ n ∧ n ≤ 80) (ht : ∀ j, 0 ≤ t j ∧ t j < 65536) (hrp : -2147483648 ≤ p ∧ p < 2147483648) (hrq : -2147483648 ≤ q ∧ q < 2147483648) (hrd : -2147483648 ≤ d ∧ d < 2147483648) (hrv : -2147483648 ≤ v ∧ v < 2147483648) (hrh : -2147483648 ≤ h ∧ h < 2147483648) : Ct l G yX6_log wsX6_log (rmD 3) [.ref (A 0), .int (zI p), .int (zI q), .int (zI d), .int (zI v), .int (zI h)] [((A 0), .inr (6, [.ref (A 1), .ref (A 4), .ref (A 6), .int (zI bb), .ref (A 9), .ref (A 7), .ref (A 14), .ref (A 18), .ref (A 22)])), ((A 1), .inr (0, [.ref (A 2), .ref (A 3)])), ((A 2), aI G 26181 a), ((A 3), aI G 1584 tt), ((A 4), .inr (2, [.ref (A 5), .int (zI o), .int (zI s)])), ((A 5), aI G 104724 R), ((A 6), aI G 26181 sn), ((A 7), .inr (5, [.ref (A 8), .int (zI n)])), ((A 8), aC G 80 t), ((A 9), .inr (3, [.ref (A 7), .ref (A 10), .ref (A 11), .ref (A 12), .ref (A 13), .int (zI E), .int (zI P)])), ((A 10), aI G 16 rs), ((A 11), aI G 16 ds), ((A 12), aI G 16 ss), ((A 13), aI G 16 hs), ((A 14), .inr (4, [.ref (A 15), .ref (A 16), .ref (A 17), .int (zI mi1)])), ((A 15), aI G 48 f1), ((A 16), aI G 48 m1), ((A 17), aZ G 48 g1), ((A 18), .inr (4, [.ref (A 19), .ref (A 20), .ref (A 21), .int (zI mi2)])), ((A 19), aI G 48 f2), ((A 20), aI G 48 m2), ((A 21), aZ G 48 g2), ((A 22), .inr (1, [.ref (A 23), .int (zI df), .int (zI dq), .int (zI sc)])), ((A 23), .inr (4, [.ref (A 24), .ref (A 25), .ref (A 26), .int (zI mi3)])), ((A 24), aI G 48 f3), ((A 25), aI G 48 m3), ((A 26), aZ G 48 g3)] (AcX A G a o s R bb sn t n (addW a (p * 4 + q) d v h) (oN o s) (sN s) (RN a o s R) bb sn t n (rLog a p q d v h)) := by
  refine Ct.intro (cc := cX6_log) (maxL := 7) (ret := (some .int)) (lo0 := [some (.ref (A 0)), some (.int (zI p)), some (.int (zI q)), some (.int (zI d)), some (.int (zI v)), some (.int (zI h)), none]) (by decide +kernel) rfl ⟨rfl, rfl⟩ (Nat.le_of_ble_eq_true rfl) rfl ?_
  intro X F T
  change Fx X (YX6_log l G) at F
  change V X (YX6_log l G) 0 0 0 _ _ _
  refine V.iload_n (q := 1) F dX6_log_0 rfl rfl rfl ?_
  refine V.iload_n (q := 2) F dX6_log_1 rfl rfl rfl ?_
  refine V.callS (q := 5) F [] dX6_log_2 rfl (c_X6_isRose l G  _ _ (by omega) (by omega)) gX6_log_X6_isRose rfl ydX6_isRose ⟨Nat.le_of_ble_eq_true rfl, Nat.le_of_ble_eq_true rfl⟩ rfl rfl (Nat.le_of_ble_eq_true rfl) rfl rfl ⟨Nat.zero_le _, Nat.zero_le _⟩ (kkf (st' := [_]) (ws' := [_, _, _, _, _, _, _, _, _, _, _, _, _, _, _, _, _, _, _, _, _, _, _, _, _, _, _]) rfl rfl ?_)
  refine V.if_eq (q := 8) (tgt := 15) F dX6_log_5 rfl (by decide) (by omega) (fun k5 => ?_) (fun k5 => ?_)
  · refine V.iconst (q := 16) F dX6_log_15 rfl ?_
    exact V.iret F T dX6_log_16 ⟨⟨(_, _, _, _, _), (_, _, _), (_, _, _), (_, _, _), (_, _, _, _, _, _, _, _)⟩, (iEq (by unfold rLog; omega)), fun _ => rfl, fun h9 => absurd h9 (by unfold rLog; omega)⟩ [(A 0), (A 1), (A 2), (A 3), (A 4), (A 5), (A 6), (A 7), (A 8), (A 9), (A 10), (A 11), (A 12), (A 13), (A 14), (A 15), (A 16), (A 17), (A 18), (A 19), (A 20), (A 21), (A 22), (A 23), (A 24), (A 25), (A 26)] rfl rfl
  · refine V.iload_n (q := 9) F dX6_log_8 rfl rfl rfl ?_
    refine V.callS (q := 12) F [] dX6_log_9 rfl (c_X6_isDirection l G  _ (by omega)) gX6_log_X6_isDirection rfl ydX6_isDirection ⟨Nat.le_of_ble_eq_true rfl, Nat.le_of_ble_eq_true rfl⟩ rfl rfl (Nat.le_of_ble_eq_true rfl) rfl rfl ⟨Nat.zero_le _, Nat.zero_le _⟩ (kkf (st' := [_]) (ws' := [_, _, _, _, _, _, _, _, _, _, _, _, _, _, _, _, _, _, _, _, _, _, _, _, _, _, _]) rfl rfl ?_)
    refine V.if_ne (q := 15) (tgt := 17) F dX6_log_12 rfl (by decide) (by omega) (fun k12 => ?_) (fun k12 => ?_)
    · refine V.iload (q := 19) F dX6_log_17 rfl rfl ?_
      refine V.iconst (q := 20) F dX6_log_19 rfl ?_
      refine V.bipush (q := 22) F dX6_log_20 rfl (by decide) ?_
      refine V.callS (q := 25) F [] dX6_log_22 rfl (c_X6_isBetween l G  _ _ _ (by omega) (by omega) (by omega)) gX6_log_X6_isBetween rfl ydX6_isBetween ⟨Nat.le_of_ble_eq_true rfl, Nat.le_of_ble_eq_true rfl⟩ rfl rfl (Nat.le_of_ble_eq_true rfl) rfl rfl ⟨Nat.zero_le _, Nat.zero_le _⟩ (kkf (st' := [_]) (ws' := [_, _, _, _, _, _, _, _, _, _, _, _, _, _, _, _, _, _, _, _, _, _, _, _, _, _, _]) rfl rfl ?_)
      refine V.if_eq (q := 28) (tgt := 39) F dX6_log_25 rfl (by decide) (by omega) (fun k25 => ?_) (fun k25 => ?_)
      · refine V.bipush (q := 41) F dX6_log_39 rfl (by decide) ?_
        exact V.iret F T dX6_log_41 ⟨⟨(_, _, _, _, _), (_, _, _), (_, _, _), (_, _, _), (_, _, _, _, _, _, _, _)⟩, (iEq (by unfold rLog; omega)), fun _ => rfl, fun h9 => absurd h9 (by unfold rLog; omega)⟩ [(A 0), (A 1), (A 2), (A 3), (A 4), (A 5), (A 6), (A 7), (A 8), (A 9), (A 10), (A 11), (A 12), (A 13), (A 14), (A 15), (A 16), (A 17), (A 18), (A 19), (A 20), (A 21), (A 22), (A 23), (A 24), (A 25), (A 26)] rfl rfl
      · refine V.iload (q := 30) F dX6_log_28 rfl rfl ?_
        refine V.iconst (q := 31) F dX6_log_30 rfl ?_
        refine V.bipush (q := 33) F dX6_log_31 rfl (by decide) ?_
        refine V.callS (q := 36) F [] dX6_log_33 rfl (c_X6_isBetween l G  _ _ _ (by omega) (by omega) (by omega)) gX6_log_X6_isBetween rfl ydX6_isBetween ⟨Nat.le_of_ble_eq_true rfl, Nat.le_of_ble_eq_true rfl⟩ rfl rfl (Nat.le_of_ble_eq_true rfl) rfl rfl ⟨Nat.zero_le _, Nat.zero_le _⟩ (kkf (st' := [_]) (ws' := [_, _, _, _, _, _, _, _, _, _, _, _, _, _, _, _, _, _, _, _, _, _, _, _, _, _, _]) rfl rfl ?_)
        refine V.if_ne (q := 39) (tgt := 42) F dX6_log_36 rfl (by decide) (by omega) (fun k36 => ?_) (fun k36 => ?_)
        · refine V.iload_n (q := 43) F dX6_log_42 rfl rfl rfl ?_
          refine V.iload_n (q := 44) F dX6_log_43 rfl rfl rfl ?_
          refine V.callS (q := 47) F [] dX6_log_44 rfl (c_X6_roseOf l G  _ _ ) gX6_log_X6_roseOf rfl ydX6_roseOf ⟨Nat.le_of_ble_eq_true rfl, Nat.le_of_ble_eq_true rfl⟩ rfl rfl (Nat.le_of_ble_eq_true rfl) rfl rfl ⟨Nat.zero_le _, Nat.zero_le _⟩ (kkf (st' := [_]) (ws' := [_, _, _, _, _, _, _, _, _, _, _, _, _, _, _, _, _, _, _, _, _, _, _, _, _, _, _]) rfl rfl ?_)
          refine V.istore (q := 49) (lo' := [_, _, _, _, _, _, _]) F dX6_log_47 rfl (Nat.le_of_ble_eq_true rfl) rfl rfl ?_
          have hr : 0 ≤ p * 4 + q ∧ p * 4 + q < 16 := by omega
          have hw := hI.w hr
          have hd : 0 ≤ d ∧ d < 16 := by omega
          have hv : 1 ≤ v ∧ v ≤ 99 := by omega
          refine V.aload_n (q := 50) F dX6_log_49 rfl rfl rfl ?_
          refine V.get (q := 53) F 0 0 dX6_log_50 rfl rfl rfl inX6_log_X6 (by decide) (List.mem_of_getElem? (i := 1) rfl) rfl ?_
          refine V.iload (q := 55) F dX6_log_53 rfl rfl ?_
          refine V.iload (q := 57) F dX6_log_55 rfl rfl ?_
          refine V.callV (q := 60) F [1, 2] 1 dX6_log_57 rfl (c_X0_hasRoom l G (A 1) (A 2) (A 3) _ _ _ (by omega) hw (by omega)) gX6_log_X0_hasRoom rfl rfl ydX0_hasRoom ⟨Nat.le_of_ble_eq_true rfl, Nat.le_of_ble_eq_true rfl⟩ (ci := 0) rfl rfl rfl rfl (Nat.le_of_ble_eq_true rfl) rfl rfl ⟨Nat.zero_le _, Nat.zero_le _⟩ (kkf (st' := [_]) (ws' := [_, _, _, _, _, _, _, _, _, _, _, _, _, _, _, _, _, _, _, _, _, _, _, _, _, _, _]) rfl rfl ?_)
          refine V.if_ne (q := 63) (tgt := 66) F dX6_log_60 rfl (by decide) (by omega) (fun k60 => ?_) (fun k60 => ?_)
          · refine V.aload_n (q := 67) F dX6_log_66 rfl rfl rfl ?_
            refine V.get (q := 70) F 0 1 dX6_log_67 rfl rfl rfl inX6_log_X6 (by decide) (List.mem_of_getElem? (i := 2) rfl) rfl ?_
            refine V.aload_n (q := 71) F dX6_log_70 rfl rfl rfl ?_
            refine V.get (q := 74) F 0 0 dX6_log_71 rfl rfl rfl inX6_log_X6 (by decide) (List.mem_of_getElem? (i := 1) rfl) rfl ?_
            refine V.callV (q := 77) F [4, 5, 1, 2] 4 dX6_log_74 rfl (c_X2_remember l G (A 4) (A 5) (A 1) (A 2) (A 3) _ _ _ _ (by omega) (by omega)) gX6_log_X2_remember rfl rfl ydX2_remember ⟨Nat.le_of_ble_eq_true rfl, Nat.le_of_ble_eq_true rfl⟩ (ci := 2) rfl rfl rfl rfl (Nat.le_of_ble_eq_true rfl) rfl rfl ⟨Nat.zero_le _, Nat.zero_le _⟩ (kkf (st' := []) (ws' := [_, _, _, _, _, _, _, _, _, _, _, _, _, _, _, _, _, _, _, _, _, _, _, _, _, _, _]) rfl rfl ?_)
            refine V.aload_n (q := 78) F dX6_log_77 rfl rfl rfl ?_
            refine V.get (q := 81) F 0 0 dX6_log_78 rfl rfl rfl inX6_log_X6 (by decide) (List.mem_of_getElem? (i := 1) rfl) rfl ?_
            refine V.iload (q := 83) F dX6_log_81 rfl rfl ?_
            refine V.iload_n (q := 84) F dX6_log_83 rfl rfl rfl ?_
            refine V.iload (q := 86) F dX6_log_84 rfl rfl ?_
            refine V.iload (q := 88) F dX6_log_86 rfl rfl ?_
            refine V.callV (q := 91) F [1, 2] 1 dX6_log_88 rfl (c_X0_addWindy l G (A 1) (A 2) (A 3) _ _ _ _ _ (by omega) (by omega) (by omega)) gX6_log_X0_addWindy rfl rfl ydX0_addWindy ⟨Nat.le_of_ble_eq_true rfl, Nat.le_of_ble_eq_true rfl⟩ (ci := 0) rfl rfl rfl rfl (Nat.le_of_ble_eq_true rfl) rfl rfl ⟨Nat.zero_le _, Nat.zero_le _⟩ (kkf (st' := []) (ws' := [_, _, _, _, _, _, _, _, _, _, _, _, _, _, _, _, _, _, _, _, _, _, _, _, _, _, _]) rfl rfl ?_)
            have hA := addW_w (a := a) (h := h) hr hd hv
            refine V.aload_n (q := 92) F dX6_log_91 rfl rfl rfl ?_
            refine V.get (q := 95) F 0 0 dX6_log_92 rfl rfl rfl inX6_log_X6 (by decide) (List.mem_of_getElem? (i := 1) rfl) rfl ?_
            refine V.iload (q := 97) F dX6_log_95 rfl rfl ?_
            refine V.callV (q := 100) F [1, 2] 1 dX6_log_97 rfl (c_X0_allHours l G (A 1) (A 2) (A 3) _ _ (by omega)) gX6_log_X0_allHours rfl rfl ydX0_allHours ⟨Nat.le_of_ble_eq_true rfl, Nat.le_of_ble_eq_true rfl⟩ (ci := 0) rfl rfl rfl rfl (Nat.le_of_ble_eq_true rfl) rfl rfl ⟨Nat.zero_le _, Nat.zero_le _⟩ (kkf (st' := [_]) (ws' := [_, _, _, _, _, _, _, _, _, _, _, _, _, _, _, _, _, _, _, _, _, _, _, _, _, _, _]) rfl rfl ?_)
            exact V.iret F T dX6_log_100 ⟨⟨(_, _, _, _, _), (_, _, _), (_, _, _), (_, _, _), (_, _, _, _, _, _, _, _)⟩, (iEq (by unfold rLog; omega)), fun h9 => absurd h9 (by unfold rLog; omega), fun _ => rfl⟩ [(A 0), (A 1), (A 2), (A 3), (A 4), (A 5), (A 6), (A 7), (A 8), (A 9), (A 10), (A 11), (A 12), (A 13), (A 14), (A 15), (A 16), (A 17), (A 18), (A 19), (A 20), (A 21), (A 22), (A 23), (A 24), (A 25), (A 26)] rfl rfl
          · refine V.bipush (q := 65) F dX6_log_63 rfl (by decide) ?_
            exact V.iret F T dX6_log_65 ⟨⟨(_, _, _, _, _), (_, _, _), (_, _, _), (_, _, _), (_, _, _, _, _, _, _, _)⟩, (iEq (by unfold rLog; omega)), fun _ => rfl, fun h9 => absurd h9 (by unfold rLog; omega)⟩ [(A 0), (A 1), (A 2), (A 3), (A 4), (A 5), (A 6), (A 7), (A 8), (A 9), (A 10), (A 11), (A 12), (A 13), (A 14), (A 15), (A 16), (A 17), (A 18), (A 19), (A 20), (A 21), (A 22), (A 23), (A 24), (A 25), (A 26)] rfl rfl
        · refine V.bipush (q := 41) F dX6_log_39 rfl (by decide) ?_
          exact V.iret F T dX6_log_41 ⟨⟨(_, _, _, _, _), (_, _, _), (_, _, _), (_, _, _), (_, _, _, _, _, _, _, _)⟩, (iEq (by unfold rLog; omega)), fun _ => rfl, fun h9 => absurd h9 (by unfold rLog; omega)⟩ [(A 0), (A 1), (A 2), (A 3), (A 4), (A 5), (A 6), (A 7), (A 8), (A 9), (A 10), (A 11), (A 12), (A 13), (A 14), (A 15), (A 16), (A 17), (A 18), (A 19), (A 20), (A 21), (A 22), (A 23), (A 24), (A 25), (A 26)] rfl rfl
    · refine V.iconst (q := 16) F dX6_log_15 rfl ?_
      exact V.iret F T dX6_log_16 ⟨⟨(_, _, _, _, _), (_, _, _), (_, _, _), (_, _, _), (_, _, _, _, _, _, _, _)⟩, (iEq (by unfold rLog; omega)), fun _ => rfl, fun h9 => absurd h9 (by unfold rLog; omega)⟩ [(A 0), (A 1), (A 2), (A 3), (A 4), (A 5), (A 6), (A 7), (A 8), (A 9), (A 10), (A 11), (A 12), (A 13), (A 14), (A 15), (A 16), (A 17), (A 18), (A 19), (A 20), (A 21), (A 22), (A 23), (A 24), (A 25), (A 26)] rfl rfl

abbrev YX6_calm (l : Launch) (G : Gx) : Sx := (cX6_calm, 5, RX6, wsX6_calm, rmD 3, l, G)
theorem ydX6_calm : ydOk yX6_calm 3 := by decide +kernel
theorem inX6_calm_X6 : ∀ w ∈ wsX60, w ∈ wsX6_calm := fun _ h => List.mem_cons_of_mem _ (List.mem_append_left _ (List.mem_append_left _ (List.mem_append_right _ h)))
set_option maxHeartbeats 1000000 in
set_option maxRecDepth 20000 in
theorem c_X6_calm (l : Launch) (G : Gx) (A : Nat → Nat) (a tt R sn t rs ds ss hs f1 m1 g1 f2 m2 g2 f3 m3 g3 : Int → Int) (o s bb n E P mi1 mi2 mi3 df dq sc p q h : Int) (hI : Inv a) (ho : 0 ≤ o ∧ o < 4) (hq : 0 ≤ s ∧ s ≤ 4) (hbb : 0 ≤ bb ∧ bb ≤ 1) (hn : 0 ≤ n ∧ n ≤ 80) (ht : ∀ j, 0 ≤ t j ∧ t j < 65536) (hrp : -2147483648 ≤ p ∧ p < 2147483648) (hrq : -2147483648 ≤ q ∧ q < 2147483648) (hrh : -2147483648 ≤ h ∧ h < 2147483648) : Ct l G yX6_calm wsX6_calm (rmD 3) [.ref (A 0), .int (zI p), .int (zI q), .int (zI h)] [((A 0), .inr (6, [.ref (A 1), .ref (A 4), .ref (A 6), .int (zI bb), .ref (A 9), .ref (A 7), .ref (A 14), .ref (A 18), .ref (A 22)])), ((A 1), .inr (0, [.ref (A 2), .ref (A 3)])), ((A 2), aI G 26181 a), ((A 3), aI G 1584 tt), ((A 4), .inr (2, [.ref (A 5), .int (zI o), .int (zI s)])), ((A 5), aI G 104724 R), ((A 6), aI G 26181 sn), ((A 7), .inr (5, [.ref (A 8), .int (zI n)])), ((A 8), aC G 80 t), ((A 9), .inr (3, [.ref (A 7), .ref (A 10), .ref (A 11), .ref (A 12), .ref (A 13), .int (zI E), .int (zI P)])), ((A 10), aI G 16 rs), ((A 11), aI G 16 ds), ((A 12), aI G 16 ss), ((A 13), aI G 16 hs), ((A 14), .inr (4, [.ref (A 15), .ref (A 16), .ref (A 17), .int (zI mi1)])), ((A 15), aI G 48 f1), ((A 16), aI G 48 m1), ((A 17), aZ G 48 g1), ((A 18), .inr (4, [.ref (A 19), .ref (A 20), .ref (A 21), .int (zI mi2)])), ((A 19), aI G 48 f2), ((A 20), aI G 48 m2), ((A 21), aZ G 48 g2), ((A 22), .inr (1, [.ref (A 23), .int (zI df), .int (zI dq), .int (zI sc)])), ((A 23), .inr (4, [.ref (A 24), .ref (A 25), .ref (A 26), .int (zI mi3)])), ((A 24), aI G 48 f3), ((A 25), aI G 48 m3), ((A 26), aZ G 48 g3)] (AcX A G a o s R bb sn t n (upz a (25360 + (p * 4 + q)) (a (25360 + (p * 4 + q)) + h)) (oN o s) (sN s) (RN a o s R) bb sn t n (rCalm a p q h)) := by
  refine Ct.intro (cc := cX6_calm) (maxL := 5) (ret := (some .int)) (lo0 := [some (.ref (A 0)), some (.int (zI p)), some (.int (zI q)), some (.int (zI h)), none]) (by decide +kernel) rfl ⟨rfl, rfl⟩ (Nat.le_of_ble_eq_true rfl) rfl ?_
  intro X F T
  change Fx X (YX6_calm l G) at F
  change V X (YX6_calm l G) 0 0 0 _ _ _
  refine V.iload_n (q := 1) F dX6_calm_0 rfl rfl rfl ?_
  refine V.iload_n (q := 2) F dX6_calm_1 rfl rfl rfl ?_
  refine V.callS (q := 5) F [] dX6_calm_2 rfl (c_X6_isRose l G  _ _ (by omega) (by omega)) gX6_calm_X6_isRose rfl ydX6_isRose ⟨Nat.le_of_ble_eq_true rfl, Nat.le_of_ble_eq_true rfl⟩ rfl rfl (Nat.le_of_ble_eq_true rfl) rfl rfl ⟨Nat.zero_le _, Nat.zero_le _⟩ (kkf (st' := [_]) (ws' := [_, _, _, _, _, _, _, _, _, _, _, _, _, _, _, _, _, _, _, _, _, _, _, _, _, _, _]) rfl rfl ?_)
  refine V.if_ne (q := 8) (tgt := 10) F dX6_calm_5 rfl (by decide) (by omega) (fun k5 => ?_) (fun k5 => ?_)
  · refine V.iload_n (q := 11) F dX6_calm_10 rfl rfl rfl ?_
    refine V.iconst (q := 12) F dX6_calm_11 rfl ?_
    refine V.bipush (q := 14) F dX6_calm_12 rfl (by decide) ?_
    refine V.callS (q := 17) F [] dX6_calm_14 rfl (c_X6_isBetween l G  _ _ _ (by omega) (by omega) (by omega)) gX6_calm_X6_isBetween rfl ydX6_isBetween ⟨Nat.le_of_ble_eq_true rfl, Nat.le_of_ble_eq_true rfl⟩ rfl rfl (Nat.le_of_ble_eq_true rfl) rfl rfl ⟨Nat.zero_le _, Nat.zero_le _⟩ (kkf (st' := [_]) (ws' := [_, _, _, _, _, _, _, _, _, _, _, _, _, _, _, _, _, _, _, _, _, _, _, _, _, _, _]) rfl rfl ?_)
    refine V.if_ne (q := 20) (tgt := 23) F dX6_calm_17 rfl (by decide) (by omega) (fun k17 => ?_) (fun k17 => ?_)
    · refine V.iload_n (q := 24) F dX6_calm_23 rfl rfl rfl ?_
      refine V.iload_n (q := 25) F dX6_calm_24 rfl rfl rfl ?_
      refine V.callS (q := 28) F [] dX6_calm_25 rfl (c_X6_roseOf l G  _ _ ) gX6_calm_X6_roseOf rfl ydX6_roseOf ⟨Nat.le_of_ble_eq_true rfl, Nat.le_of_ble_eq_true rfl⟩ rfl rfl (Nat.le_of_ble_eq_true rfl) rfl rfl ⟨Nat.zero_le _, Nat.zero_le _⟩ (kkf (st' := [_]) (ws' := [_, _, _, _, _, _, _, _, _, _, _, _, _, _, _, _, _, _, _, _, _, _, _, _, _, _, _]) rfl rfl ?_)
      refine V.istore (q := 30) (lo' := [_, _, _, _, _]) F dX6_calm_28 rfl (Nat.le_of_ble_eq_true rfl) rfl rfl ?_
      have hr : 0 ≤ p * 4 + q ∧ p * 4 + q < 16 := by omega
      have hw := hI.w hr
      refine V.aload_n (q := 31) F dX6_calm_30 rfl rfl rfl ?_
      refine V.get (q := 34) F 0 0 dX6_calm_31 rfl rfl rfl inX6_calm_X6 (by decide) (List.mem_of_getElem? (i := 1) rfl) rfl ?_
      refine V.iload (q := 36) F dX6_calm_34 rfl rfl ?_
      refine V.iload_n (q := 37) F dX6_calm_36 rfl rfl rfl ?_
      refine V.callV (q := 40) F [1, 2] 1 dX6_calm_37 rfl (c_X0_hasRoom l G (A 1) (A 2) (A 3) _ _ _ (by omega) hw (by omega)) gX6_calm_X0_hasRoom rfl rfl ydX0_hasRoom ⟨Nat.le_of_ble_eq_true rfl, Nat.le_of_ble_eq_true rfl⟩ (ci := 0) rfl rfl rfl rfl (Nat.le_of_ble_eq_true rfl) rfl rfl ⟨Nat.zero_le _, Nat.zero_le _⟩ (kkf (st' := [_]) (ws' := [_, _, _, _, _, _, _, _, _, _, _, _, _, _, _, _, _, _, _, _, _, _, _, _, _, _, _]) rfl rfl ?_)
      refine V.if_ne (q := 43) (tgt := 46) F dX6_calm_40 rfl (by decide) (by omega) (fun k40 => ?_) (fun k40 => ?_)
      · refine V.aload_n (q := 47) F dX6_calm_46 rfl rfl rfl ?_
        refine V.get (q := 50) F 0 1 dX6_calm_47 rfl rfl rfl inX6_calm_X6 (by decide) (List.mem_of_getElem? (i := 2) rfl) rfl ?_
        refine V.aload_n (q := 51) F dX6_calm_50 rfl rfl rfl ?_
        refine V.get (q := 54) F 0 0 dX6_calm_51 rfl rfl rfl inX6_calm_X6 (by decide) (List.mem_of_getElem? (i := 1) rfl) rfl ?_
        refine V.callV (q := 57) F [4, 5, 1, 2] 4 dX6_calm_54 rfl (c_X2_remember l G (A 4) (A 5) (A 1) (A 2) (A 3) _ _ _ _ (by omega) (by omega)) gX6_calm_X2_remember rfl rfl ydX2_remember ⟨Nat.le_of_ble_eq_true rfl, Nat.le_of_ble_eq_true rfl⟩ (ci := 2) rfl rfl rfl rfl (Nat.le_of_ble_eq_true rfl) rfl rfl ⟨Nat.zero_le _, Nat.zero_le _⟩ (kkf (st' := []) (ws' := [_, _, _, _, _, _, _, _, _, _, _, _, _, _, _, _, _, _, _, _, _, _, _, _, _, _, _]) rfl rfl ?_)
        refine V.aload_n (q := 58) F dX6_calm_57 rfl rfl rfl ?_
        refine V.get (q := 61) F 0 0 dX6_calm_58 rfl rfl rfl inX6_calm_X6 (by decide) (List.mem_of_getElem? (i := 1) rfl) rfl ?_
        refine V.iload (q := 63) F dX6_calm_61 rfl rfl ?_
        refine V.iload_n (q := 64) F dX6_calm_63 rfl rfl rfl ?_
        refine V.callV (q := 67) F [1, 2] 1 dX6_calm_64 rfl (c_X0_addCalm l G (A 1) (A 2) (A 3) _ _ _ (by omega)) gX6_calm_X0_addCalm rfl rfl ydX0_addCalm ⟨Nat.le_of_ble_eq_true rfl, Nat.le_of_ble_eq_true rfl⟩ (ci := 0) rfl rfl rfl rfl (Nat.le_of_ble_eq_true rfl) rfl rfl ⟨Nat.zero_le _, Nat.zero_le _⟩ (kkf (st' := []) (ws' := [_, _, _, _, _, _, _, _, _, _, _, _, _, _, _, _, _, _, _, _, _, _, _, _, _, _, _]) rfl rfl ?_)
        have hA1 : upz a (25360 + (p * 4 + q)) (a (25360 + (p * 4 + q)) + h) (25344 + (p * 4 + q)) = a (25344 + (p * 4 + q)) := upz_ne _ _ _ (by omega)
        have hA2 : upz a (25360 + (p * 4 + q)) (a (25360 + (p * 4 + q)) + h) (25360 + (p * 4 + q)) = a (25360 + (p * 4 + q)) + h := upz_eq _ _ _
        refine V.aload_n (q := 68) F dX6_calm_67 rfl rfl rfl ?_
        refine V.get (q := 71) F 0 0 dX6_calm_68 rfl rfl rfl inX6_calm_X6 (by decide) (List.mem_of_getElem? (i := 1) rfl) rfl ?_
        refine V.iload (q := 73) F dX6_calm_71 rfl rfl ?_
        refine V.callV (q := 76) F [1, 2] 1 dX6_calm_73 rfl (c_X0_allHours l G (A 1) (A 2) (A 3) _ _ (by omega)) gX6_calm_X0_allHours rfl rfl ydX0_allHours ⟨Nat.le_of_ble_eq_true rfl, Nat.le_of_ble_eq_true rfl⟩ (ci := 0) rfl rfl rfl rfl (Nat.le_of_ble_eq_true rfl) rfl rfl ⟨Nat.zero_le _, Nat.zero_le _⟩ (kkf (st' := [_]) (ws' := [_, _, _, _, _, _, _, _, _, _, _, _, _, _, _, _, _, _, _, _, _, _, _, _, _, _, _]) rfl rfl ?_)
        exact V.iret F T dX6_calm_76 ⟨⟨(_, _, _, _, _), (_, _, _), (_, _, _), (_, _, _), (_, _, _, _, _, _, _, _)⟩, (iEq (by unfold rCalm; omega)), fun h9 => absurd h9 (by unfold rCalm; omega), fun _ => rfl⟩ [(A 0), (A 1), (A 2), (A 3), (A 4), (A 5), (A 6), (A 7), (A 8), (A 9), (A 10), (A 11), (A 12), (A 13), (A 14), (A 15), (A 16), (A 17), (A 18), (A 19), (A 20), (A 21), (A 22), (A 23), (A 24), (A 25), (A 26)] rfl rfl
      · refine V.bipush (q := 45) F dX6_calm_43 rfl (by decide) ?_
        exact V.iret F T dX6_calm_45 ⟨⟨(_, _, _, _, _), (_, _, _), (_, _, _), (_, _, _), (_, _, _, _, _, _, _, _)⟩, (iEq (by unfold rCalm; omega)), fun _ => rfl, fun h9 => absurd h9 (by unfold rCalm; omega)⟩ [(A 0), (A 1), (A 2), (A 3), (A 4), (A 5), (A 6), (A 7), (A 8), (A 9), (A 10), (A 11), (A 12), (A 13), (A 14), (A 15), (A 16), (A 17), (A 18), (A 19), (A 20), (A 21), (A 22), (A 23), (A 24), (A 25), (A 26)] rfl rfl
    · refine V.bipush (q := 22) F dX6_calm_20 rfl (by decide) ?_
      exact V.iret F T dX6_calm_22 ⟨⟨(_, _, _, _, _), (_, _, _), (_, _, _), (_, _, _), (_, _, _, _, _, _, _, _)⟩, (iEq (by unfold rCalm; omega)), fun _ => rfl, fun h9 => absurd h9 (by unfold rCalm; omega)⟩ [(A 0), (A 1), (A 2), (A 3), (A 4), (A 5), (A 6), (A 7), (A 8), (A 9), (A 10), (A 11), (A 12), (A 13), (A 14), (A 15), (A 16), (A 17), (A 18), (A 19), (A 20), (A 21), (A 22), (A 23), (A 24), (A 25), (A 26)] rfl rfl
  · refine V.iconst (q := 9) F dX6_calm_8 rfl ?_
    exact V.iret F T dX6_calm_9 ⟨⟨(_, _, _, _, _), (_, _, _), (_, _, _), (_, _, _), (_, _, _, _, _, _, _, _)⟩, (iEq (by unfold rCalm; omega)), fun _ => rfl, fun h9 => absurd h9 (by unfold rCalm; omega)⟩ [(A 0), (A 1), (A 2), (A 3), (A 4), (A 5), (A 6), (A 7), (A 8), (A 9), (A 10), (A 11), (A 12), (A 13), (A 14), (A 15), (A 16), (A 17), (A 18), (A 19), (A 20), (A 21), (A 22), (A 23), (A 24), (A 25), (A 26)] rfl rfl

abbrev YX6_strike (l : Launch) (G : Gx) : Sx := (cX6_strike, 7, RX6, wsX6_strike, rmD 3, l, G)
theorem ydX6_strike : ydOk yX6_strike 4 := by decide +kernel
theorem inX6_strike_X6 : ∀ w ∈ wsX60, w ∈ wsX6_strike := fun _ h => List.mem_cons_of_mem _ (List.mem_append_left _ (List.mem_append_left _ (List.mem_append_right _ h)))
set_option maxHeartbeats 1000000 in
set_option maxRecDepth 20000 in
theorem c_X6_strike (l : Launch) (G : Gx) (A : Nat → Nat) (a tt R sn t rs ds ss hs f1 m1 g1 f2 m2 g2 f3 m3 g3 : Int → Int) (o s bb n E P mi1 mi2 mi3 df dq sc p q d v : Int) (hI : Inv a) (ho : 0 ≤ o ∧ o < 4) (hq : 0 ≤ s ∧ s ≤ 4) (hbb : 0 ≤ bb ∧ bb ≤ 1) (hn : 0 ≤ n ∧ n ≤ 80) (ht : ∀ j, 0 ≤ t j ∧ t j < 65536) (hrp : -2147483648 ≤ p ∧ p < 2147483648) (hrq : -2147483648 ≤ q ∧ q < 2147483648) (hrd : -2147483648 ≤ d ∧ d < 2147483648) (hrv : -2147483648 ≤ v ∧ v < 2147483648) : Ct l G yX6_strike wsX6_strike (rmD 3) [.ref (A 0), .int (zI p), .int (zI q), .int (zI d), .int (zI v)] [((A 0), .inr (6, [.ref (A 1), .ref (A 4), .ref (A 6), .int (zI bb), .ref (A 9), .ref (A 7), .ref (A 14), .ref (A 18), .ref (A 22)])), ((A 1), .inr (0, [.ref (A 2), .ref (A 3)])), ((A 2), aI G 26181 a), ((A 3), aI G 1584 tt), ((A 4), .inr (2, [.ref (A 5), .int (zI o), .int (zI s)])), ((A 5), aI G 104724 R), ((A 6), aI G 26181 sn), ((A 7), .inr (5, [.ref (A 8), .int (zI n)])), ((A 8), aC G 80 t), ((A 9), .inr (3, [.ref (A 7), .ref (A 10), .ref (A 11), .ref (A 12), .ref (A 13), .int (zI E), .int (zI P)])), ((A 10), aI G 16 rs), ((A 11), aI G 16 ds), ((A 12), aI G 16 ss), ((A 13), aI G 16 hs), ((A 14), .inr (4, [.ref (A 15), .ref (A 16), .ref (A 17), .int (zI mi1)])), ((A 15), aI G 48 f1), ((A 16), aI G 48 m1), ((A 17), aZ G 48 g1), ((A 18), .inr (4, [.ref (A 19), .ref (A 20), .ref (A 21), .int (zI mi2)])), ((A 19), aI G 48 f2), ((A 20), aI G 48 m2), ((A 21), aZ G 48 g2), ((A 22), .inr (1, [.ref (A 23), .int (zI df), .int (zI dq), .int (zI sc)])), ((A 23), .inr (4, [.ref (A 24), .ref (A 25), .ref (A 26), .int (zI mi3)])), ((A 24), aI G 48 f3), ((A 25), aI G 48 m3), ((A 26), aZ G 48 g3)] (AcX A G a o s R bb sn t n (addW a (p * 4 + q) d v (-(a ((p * 4 + q) * 1584 + d * 99 + v - 1)))) (oN o s) (sN s) (RN a o s R) bb sn t n (rStrike a p q d v)) := by
  refine Ct.intro (cc := cX6_strike) (maxL := 7) (ret := (some .int)) (lo0 := [some (.ref (A 0)), some (.int (zI p)), some (.int (zI q)), some (.int (zI d)), some (.int (zI v)), none, none]) (by decide +kernel) rfl ⟨rfl, rfl⟩ (Nat.le_of_ble_eq_true rfl) rfl ?_
  intro X F T
  change Fx X (YX6_strike l G) at F
  change V X (YX6_strike l G) 0 0 0 _ _ _
  refine V.iload_n (q := 1) F dX6_strike_0 rfl rfl rfl ?_
  refine V.iload_n (q := 2) F dX6_strike_1 rfl rfl rfl ?_
  refine V.callS (q := 5) F [] dX6_strike_2 rfl (c_X6_isRose l G  _ _ (by omega) (by omega)) gX6_strike_X6_isRose rfl ydX6_isRose ⟨Nat.le_of_ble_eq_true rfl, Nat.le_of_ble_eq_true rfl⟩ rfl rfl (Nat.le_of_ble_eq_true rfl) rfl rfl ⟨Nat.zero_le _, Nat.zero_le _⟩ (kkf (st' := [_]) (ws' := [_, _, _, _, _, _, _, _, _, _, _, _, _, _, _, _, _, _, _, _, _, _, _, _, _, _, _]) rfl rfl ?_)
  refine V.if_eq (q := 8) (tgt := 15) F dX6_strike_5 rfl (by decide) (by omega) (fun k5 => ?_) (fun k5 => ?_)
  · refine V.iconst (q := 16) F dX6_strike_15 rfl ?_
    exact V.iret F T dX6_strike_16 ⟨⟨(_, _, _, _, _), (_, _, _), (_, _, _), (_, _, _), (_, _, _, _, _, _, _, _)⟩, (iEq (by unfold rStrike; omega)), fun _ => rfl, fun h9 => absurd h9 (by unfold rStrike; omega)⟩ [(A 0), (A 1), (A 2), (A 3), (A 4), (A 5), (A 6), (A 7), (A 8), (A 9), (A 10), (A 11), (A 12), (A 13), (A 14), (A 15), (A 16), (A 17), (A 18), (A 19), (A 20), (A 21), (A 22), (A 23), (A 24), (A 25), (A 26)] rfl rfl
  · refine V.iload_n (q := 9) F dX6_strike_8 rfl rfl rfl ?_
    refine V.callS (q := 12) F [] dX6_strike_9 rfl (c_X6_isDirection l G  _ (by omega)) gX6_strike_X6_isDirection rfl ydX6_isDirection ⟨Nat.le_of_ble_eq_true rfl, Nat.le_of_ble_eq_true rfl⟩ rfl rfl (Nat.le_of_ble_eq_true rfl) rfl rfl ⟨Nat.zero_le _, Nat.zero_le _⟩ (kkf (st' := [_]) (ws' := [_, _, _, _, _, _, _, _, _, _, _, _, _, _, _, _, _, _, _, _, _, _, _, _, _, _, _]) rfl rfl ?_)
    refine V.if_ne (q := 15) (tgt := 17) F dX6_strike_12 rfl (by decide) (by omega) (fun k12 => ?_) (fun k12 => ?_)
    · refine V.iload (q := 19) F dX6_strike_17 rfl rfl ?_
      refine V.iconst (q := 20) F dX6_strike_19 rfl ?_
      refine V.bipush (q := 22) F dX6_strike_20 rfl (by decide) ?_
      refine V.callS (q := 25) F [] dX6_strike_22 rfl (c_X6_isBetween l G  _ _ _ (by omega) (by omega) (by omega)) gX6_strike_X6_isBetween rfl ydX6_isBetween ⟨Nat.le_of_ble_eq_true rfl, Nat.le_of_ble_eq_true rfl⟩ rfl rfl (Nat.le_of_ble_eq_true rfl) rfl rfl ⟨Nat.zero_le _, Nat.zero_le _⟩ (kkf (st' := [_]) (ws' := [_, _, _, _, _, _, _, _, _, _, _, _, _, _, _, _, _, _, _, _, _, _, _, _, _, _, _]) rfl rfl ?_)
      refine V.if_ne (q := 28) (tgt := 31) F dX6_strike_25 rfl (by decide) (by omega) (fun k25 => ?_) (fun k25 => ?_)
      · refine V.iload_n (q := 32) F dX6_strike_31 rfl rfl rfl ?_
        refine V.iload_n (q := 33) F dX6_strike_32 rfl rfl rfl ?_
        refine V.callS (q := 36) F [] dX6_strike_33 rfl (c_X6_roseOf l G  _ _ ) gX6_strike_X6_roseOf rfl ydX6_roseOf ⟨Nat.le_of_ble_eq_true rfl, Nat.le_of_ble_eq_true rfl⟩ rfl rfl (Nat.le_of_ble_eq_true rfl) rfl rfl ⟨Nat.zero_le _, Nat.zero_le _⟩ (kkf (st' := [_]) (ws' := [_, _, _, _, _, _, _, _, _, _, _, _, _, _, _, _, _, _, _, _, _, _, _, _, _, _, _]) rfl rfl ?_)
        refine V.istore (q := 38) (lo' := [_, _, _, _, _, _, _]) F dX6_strike_36 rfl (Nat.le_of_ble_eq_true rfl) rfl rfl ?_
        have hr : 0 ≤ p * 4 + q ∧ p * 4 + q < 16 := by omega
        have hw := hI.w hr
        have hd : 0 ≤ d ∧ d < 16 := by omega
        have hv : 1 ≤ v ∧ v ≤ 99 := by omega
        have hz0 := hI.1 ((p * 4 + q) * 1584 + d * 99 + v - 1)
        have hz1 : a ((p * 4 + q) * 1584 + d * 99 + v - 1) ≤ sz a ((p * 4 + q) * 1584) ((p * 4 + q) * 1584 + 1584) := sz_mem (fun j _ _ => hI.1 j) (by omega) (by omega)
        rw [← (hI.2.1 _ hr.1 hr.2).1] at hz1
        refine V.aload_n (q := 39) F dX6_strike_38 rfl rfl rfl ?_
        refine V.get (q := 42) F 0 0 dX6_strike_39 rfl rfl rfl inX6_strike_X6 (by decide) (List.mem_of_getElem? (i := 1) rfl) rfl ?_
        refine V.iload (q := 44) F dX6_strike_42 rfl rfl ?_
        refine V.iload_n (q := 45) F dX6_strike_44 rfl rfl rfl ?_
        refine V.iload (q := 47) F dX6_strike_45 rfl rfl ?_
        refine V.callV (q := 50) F [1, 2] 1 dX6_strike_47 rfl (c_X0_hoursAt l G (A 1) (A 2) (A 3) _ _ _ _ (by omega) (by omega) (by omega)) gX6_strike_X0_hoursAt rfl rfl ydX0_hoursAt ⟨Nat.le_of_ble_eq_true rfl, Nat.le_of_ble_eq_true rfl⟩ (ci := 0) rfl rfl rfl rfl (Nat.le_of_ble_eq_true rfl) rfl rfl ⟨Nat.zero_le _, Nat.zero_le _⟩ (kkf (st' := [_]) (ws' := [_, _, _, _, _, _, _, _, _, _, _, _, _, _, _, _, _, _, _, _, _, _, _, _, _, _, _]) rfl rfl ?_)
        refine V.istore (q := 52) (lo' := [_, _, _, _, _, _, _]) F dX6_strike_50 rfl (Nat.le_of_ble_eq_true rfl) rfl rfl ?_
        refine V.iload (q := 54) F dX6_strike_52 rfl rfl ?_
        refine V.if_ne (q := 57) (tgt := 60) F dX6_strike_54 rfl (by decide) (by omega) (fun k54 => ?_) (fun k54 => ?_)
        · refine V.aload_n (q := 61) F dX6_strike_60 rfl rfl rfl ?_
          refine V.get (q := 64) F 0 1 dX6_strike_61 rfl rfl rfl inX6_strike_X6 (by decide) (List.mem_of_getElem? (i := 2) rfl) rfl ?_
          refine V.aload_n (q := 65) F dX6_strike_64 rfl rfl rfl ?_
          refine V.get (q := 68) F 0 0 dX6_strike_65 rfl rfl rfl inX6_strike_X6 (by decide) (List.mem_of_getElem? (i := 1) rfl) rfl ?_
          refine V.callV (q := 71) F [4, 5, 1, 2] 4 dX6_strike_68 rfl (c_X2_remember l G (A 4) (A 5) (A 1) (A 2) (A 3) _ _ _ _ (by omega) (by omega)) gX6_strike_X2_remember rfl rfl ydX2_remember ⟨Nat.le_of_ble_eq_true rfl, Nat.le_of_ble_eq_true rfl⟩ (ci := 2) rfl rfl rfl rfl (Nat.le_of_ble_eq_true rfl) rfl rfl ⟨Nat.zero_le _, Nat.zero_le _⟩ (kkf (st' := []) (ws' := [_, _, _, _, _, _, _, _, _, _, _, _, _, _, _, _, _, _, _, _, _, _, _, _, _, _, _]) rfl rfl ?_)
          refine V.aload_n (q := 72) F dX6_strike_71 rfl rfl rfl ?_
          refine V.get (q := 75) F 0 0 dX6_strike_72 rfl rfl rfl inX6_strike_X6 (by decide) (List.mem_of_getElem? (i := 1) rfl) rfl ?_
          refine V.iload (q := 77) F dX6_strike_75 rfl rfl ?_
          refine V.iload_n (q := 78) F dX6_strike_77 rfl rfl rfl ?_
          refine V.iload (q := 80) F dX6_strike_78 rfl rfl ?_
          refine V.iload (q := 82) F dX6_strike_80 rfl rfl ?_
          refine V.ineg (q := 83) F dX6_strike_82 rfl ?_
          refine V.callV (q := 86) F [1, 2] 1 dX6_strike_83 rfl (c_X0_addWindy l G (A 1) (A 2) (A 3) _ _ _ _ _ (by omega) (by omega) (by omega)) gX6_strike_X0_addWindy rfl rfl ydX0_addWindy ⟨Nat.le_of_ble_eq_true rfl, Nat.le_of_ble_eq_true rfl⟩ (ci := 0) rfl rfl rfl rfl (Nat.le_of_ble_eq_true rfl) rfl rfl ⟨Nat.zero_le _, Nat.zero_le _⟩ (kkf (st' := []) (ws' := [_, _, _, _, _, _, _, _, _, _, _, _, _, _, _, _, _, _, _, _, _, _, _, _, _, _, _]) rfl rfl ?_)
          refine V.iload (q := 88) F dX6_strike_86 rfl rfl ?_
          exact V.iret F T dX6_strike_88 ⟨⟨(_, _, _, _, _), (_, _, _), (_, _, _), (_, _, _), (_, _, _, _, _, _, _, _)⟩, (iEq (by unfold rStrike; omega)), fun h9 => absurd h9 (by unfold rStrike; omega), fun _ => rfl⟩ [(A 0), (A 1), (A 2), (A 3), (A 4), (A 5), (A 6), (A 7), (A 8), (A 9), (A 10), (A 11), (A 12), (A 13), (A 14), (A 15), (A 16), (A 17), (A 18), (A 19), (A 20), (A 21), (A 22), (A 23), (A 24), (A 25), (A 26)] rfl rfl
        · refine V.bipush (q := 59) F dX6_strike_57 rfl (by decide) ?_
          exact V.iret F T dX6_strike_59 ⟨⟨(_, _, _, _, _), (_, _, _), (_, _, _), (_, _, _), (_, _, _, _, _, _, _, _)⟩, (iEq (by unfold rStrike; omega)), fun _ => rfl, fun h9 => absurd h9 (by unfold rStrike; omega)⟩ [(A 0), (A 1), (A 2), (A 3), (A 4), (A 5), (A 6), (A 7), (A 8), (A 9), (A 10), (A 11), (A 12), (A 13), (A 14), (A 15), (A 16), (A 17), (A 18), (A 19), (A 20), (A 21), (A 22), (A 23), (A 24), (A 25), (A 26)] rfl rfl
      · refine V.bipush (q := 30) F dX6_strike_28 rfl (by decide) ?_
        exact V.iret F T dX6_strike_30 ⟨⟨(_, _, _, _, _), (_, _, _), (_, _, _), (_, _, _), (_, _, _, _, _, _, _, _)⟩, (iEq (by unfold rStrike; omega)), fun _ => rfl, fun h9 => absurd h9 (by unfold rStrike; omega)⟩ [(A 0), (A 1), (A 2), (A 3), (A 4), (A 5), (A 6), (A 7), (A 8), (A 9), (A 10), (A 11), (A 12), (A 13), (A 14), (A 15), (A 16), (A 17), (A 18), (A 19), (A 20), (A 21), (A 22), (A 23), (A 24), (A 25), (A 26)] rfl rfl
    · refine V.iconst (q := 16) F dX6_strike_15 rfl ?_
      exact V.iret F T dX6_strike_16 ⟨⟨(_, _, _, _, _), (_, _, _), (_, _, _), (_, _, _), (_, _, _, _, _, _, _, _)⟩, (iEq (by unfold rStrike; omega)), fun _ => rfl, fun h9 => absurd h9 (by unfold rStrike; omega)⟩ [(A 0), (A 1), (A 2), (A 3), (A 4), (A 5), (A 6), (A 7), (A 8), (A 9), (A 10), (A 11), (A 12), (A 13), (A 14), (A 15), (A 16), (A 17), (A 18), (A 19), (A 20), (A 21), (A 22), (A 23), (A 24), (A 25), (A 26)] rfl rfl

abbrev YX6_turn (l : Launch) (G : Gx) : Sx := (cX6_turn, 5, RX6, wsX6_turn, rmD 3, l, G)
theorem ydX6_turn : ydOk yX6_turn 3 := by decide +kernel
theorem inX6_turn_X6 : ∀ w ∈ wsX60, w ∈ wsX6_turn := fun _ h => List.mem_cons_of_mem _ (List.mem_append_left _ (List.mem_append_left _ (List.mem_append_right _ h)))
set_option maxHeartbeats 1000000 in
set_option maxRecDepth 20000 in
theorem c_X6_turn (l : Launch) (G : Gx) (A : Nat → Nat) (a tt R sn t rs ds ss hs f1 m1 g1 f2 m2 g2 f3 m3 g3 : Int → Int) (o s bb n E P mi1 mi2 mi3 df dq sc p q b : Int) (hI : Inv a) (ho : 0 ≤ o ∧ o < 4) (hq : 0 ≤ s ∧ s ≤ 4) (hbb : 0 ≤ bb ∧ bb ≤ 1) (hn : 0 ≤ n ∧ n ≤ 80) (ht : ∀ j, 0 ≤ t j ∧ t j < 65536) (hrp : -2147483648 ≤ p ∧ p < 2147483648) (hrq : -2147483648 ≤ q ∧ q < 2147483648) (hrb : -2147483648 ≤ b ∧ b < 2147483648) : Ct l G yX6_turn wsX6_turn (rmD 3) [.ref (A 0), .int (zI p), .int (zI q), .int (zI b)] [((A 0), .inr (6, [.ref (A 1), .ref (A 4), .ref (A 6), .int (zI bb), .ref (A 9), .ref (A 7), .ref (A 14), .ref (A 18), .ref (A 22)])), ((A 1), .inr (0, [.ref (A 2), .ref (A 3)])), ((A 2), aI G 26181 a), ((A 3), aI G 1584 tt), ((A 4), .inr (2, [.ref (A 5), .int (zI o), .int (zI s)])), ((A 5), aI G 104724 R), ((A 6), aI G 26181 sn), ((A 7), .inr (5, [.ref (A 8), .int (zI n)])), ((A 8), aC G 80 t), ((A 9), .inr (3, [.ref (A 7), .ref (A 10), .ref (A 11), .ref (A 12), .ref (A 13), .int (zI E), .int (zI P)])), ((A 10), aI G 16 rs), ((A 11), aI G 16 ds), ((A 12), aI G 16 ss), ((A 13), aI G 16 hs), ((A 14), .inr (4, [.ref (A 15), .ref (A 16), .ref (A 17), .int (zI mi1)])), ((A 15), aI G 48 f1), ((A 16), aI G 48 m1), ((A 17), aZ G 48 g1), ((A 18), .inr (4, [.ref (A 19), .ref (A 20), .ref (A 21), .int (zI mi2)])), ((A 19), aI G 48 f2), ((A 20), aI G 48 m2), ((A 21), aZ G 48 g2), ((A 22), .inr (1, [.ref (A 23), .int (zI df), .int (zI dq), .int (zI sc)])), ((A 23), .inr (4, [.ref (A 24), .ref (A 25), .ref (A 26), .int (zI mi3)])), ((A 24), aI G 48 f3), ((A 25), aI G 48 m3), ((A 26), aZ G 48 g3)] (AcX A G a o s R bb sn t n (turnI a (p * 4 + q) b 16) (oN o s) (sN s) (RN a o s R) bb sn t n (rTurn a p q b)) := by
  refine Ct.intro (cc := cX6_turn) (maxL := 5) (ret := (some .int)) (lo0 := [some (.ref (A 0)), some (.int (zI p)), some (.int (zI q)), some (.int (zI b)), none]) (by decide +kernel) rfl ⟨rfl, rfl⟩ (Nat.le_of_ble_eq_true rfl) rfl ?_
  intro X F T
  change Fx X (YX6_turn l G) at F
  change V X (YX6_turn l G) 0 0 0 _ _ _
  refine V.iload_n (q := 1) F dX6_turn_0 rfl rfl rfl ?_
  refine V.iload_n (q := 2) F dX6_turn_1 rfl rfl rfl ?_
  refine V.callS (q := 5) F [] dX6_turn_2 rfl (c_X6_isRose l G  _ _ (by omega) (by omega)) gX6_turn_X6_isRose rfl ydX6_isRose ⟨Nat.le_of_ble_eq_true rfl, Nat.le_of_ble_eq_true rfl⟩ rfl rfl (Nat.le_of_ble_eq_true rfl) rfl rfl ⟨Nat.zero_le _, Nat.zero_le _⟩ (kkf (st' := [_]) (ws' := [_, _, _, _, _, _, _, _, _, _, _, _, _, _, _, _, _, _, _, _, _, _, _, _, _, _, _]) rfl rfl ?_)
  refine V.if_ne (q := 8) (tgt := 10) F dX6_turn_5 rfl (by decide) (by omega) (fun k5 => ?_) (fun k5 => ?_)
  · refine V.iload_n (q := 11) F dX6_turn_10 rfl rfl rfl ?_
    refine V.iconst (q := 12) F dX6_turn_11 rfl ?_
    refine V.bipush (q := 14) F dX6_turn_12 rfl (by decide) ?_
    refine V.callS (q := 17) F [] dX6_turn_14 rfl (c_X6_isBetween l G  _ _ _ (by omega) (by omega) (by omega)) gX6_turn_X6_isBetween rfl ydX6_isBetween ⟨Nat.le_of_ble_eq_true rfl, Nat.le_of_ble_eq_true rfl⟩ rfl rfl (Nat.le_of_ble_eq_true rfl) rfl rfl ⟨Nat.zero_le _, Nat.zero_le _⟩ (kkf (st' := [_]) (ws' := [_, _, _, _, _, _, _, _, _, _, _, _, _, _, _, _, _, _, _, _, _, _, _, _, _, _, _]) rfl rfl ?_)
    refine V.if_ne (q := 20) (tgt := 23) F dX6_turn_17 rfl (by decide) (by omega) (fun k17 => ?_) (fun k17 => ?_)
    · refine V.iload_n (q := 24) F dX6_turn_23 rfl rfl rfl ?_
      refine V.iload_n (q := 25) F dX6_turn_24 rfl rfl rfl ?_
      refine V.callS (q := 28) F [] dX6_turn_25 rfl (c_X6_roseOf l G  _ _ ) gX6_turn_X6_roseOf rfl ydX6_roseOf ⟨Nat.le_of_ble_eq_true rfl, Nat.le_of_ble_eq_true rfl⟩ rfl rfl (Nat.le_of_ble_eq_true rfl) rfl rfl ⟨Nat.zero_le _, Nat.zero_le _⟩ (kkf (st' := [_]) (ws' := [_, _, _, _, _, _, _, _, _, _, _, _, _, _, _, _, _, _, _, _, _, _, _, _, _, _, _]) rfl rfl ?_)
      refine V.istore (q := 30) (lo' := [_, _, _, _, _]) F dX6_turn_28 rfl (Nat.le_of_ble_eq_true rfl) rfl rfl ?_
      have hr : 0 ≤ p * 4 + q ∧ p * 4 + q < 16 := by omega
      have hw := hI.w hr
      refine V.aload_n (q := 31) F dX6_turn_30 rfl rfl rfl ?_
      refine V.get (q := 34) F 0 0 dX6_turn_31 rfl rfl rfl inX6_turn_X6 (by decide) (List.mem_of_getElem? (i := 1) rfl) rfl ?_
      refine V.iload (q := 36) F dX6_turn_34 rfl rfl ?_
      refine V.callV (q := 39) F [1, 2] 1 dX6_turn_36 rfl (c_X0_windyHours l G (A 1) (A 2) (A 3) _ _ (by omega)) gX6_turn_X0_windyHours rfl rfl ydX0_windyHours ⟨Nat.le_of_ble_eq_true rfl, Nat.le_of_ble_eq_true rfl⟩ (ci := 0) rfl rfl rfl rfl (Nat.le_of_ble_eq_true rfl) rfl rfl ⟨Nat.zero_le _, Nat.zero_le _⟩ (kkf (st' := [_]) (ws' := [_, _, _, _, _, _, _, _, _, _, _, _, _, _, _, _, _, _, _, _, _, _, _, _, _, _, _]) rfl rfl ?_)
      refine V.if_ne (q := 42) (tgt := 45) F dX6_turn_39 rfl (by decide) (by omega) (fun k39 => ?_) (fun k39 => ?_)
      · refine V.aload_n (q := 46) F dX6_turn_45 rfl rfl rfl ?_
        refine V.get (q := 49) F 0 1 dX6_turn_46 rfl rfl rfl inX6_turn_X6 (by decide) (List.mem_of_getElem? (i := 2) rfl) rfl ?_
        refine V.aload_n (q := 50) F dX6_turn_49 rfl rfl rfl ?_
        refine V.get (q := 53) F 0 0 dX6_turn_50 rfl rfl rfl inX6_turn_X6 (by decide) (List.mem_of_getElem? (i := 1) rfl) rfl ?_
        refine V.callV (q := 56) F [4, 5, 1, 2] 4 dX6_turn_53 rfl (c_X2_remember l G (A 4) (A 5) (A 1) (A 2) (A 3) _ _ _ _ (by omega) (by omega)) gX6_turn_X2_remember rfl rfl ydX2_remember ⟨Nat.le_of_ble_eq_true rfl, Nat.le_of_ble_eq_true rfl⟩ (ci := 2) rfl rfl rfl rfl (Nat.le_of_ble_eq_true rfl) rfl rfl ⟨Nat.zero_le _, Nat.zero_le _⟩ (kkf (st' := []) (ws' := [_, _, _, _, _, _, _, _, _, _, _, _, _, _, _, _, _, _, _, _, _, _, _, _, _, _, _]) rfl rfl ?_)
        refine V.aload_n (q := 57) F dX6_turn_56 rfl rfl rfl ?_
        refine V.get (q := 60) F 0 0 dX6_turn_57 rfl rfl rfl inX6_turn_X6 (by decide) (List.mem_of_getElem? (i := 1) rfl) rfl ?_
        refine V.iload (q := 62) F dX6_turn_60 rfl rfl ?_
        refine V.iload_n (q := 63) F dX6_turn_62 rfl rfl rfl ?_
        refine V.callV (q := 66) F [1, 2, 3] 1 dX6_turn_63 rfl (c_X0_turnLog l G (A 1) (A 2) (A 3) _ _ _ _ (by omega) (by omega)) gX6_turn_X0_turnLog rfl rfl ydX0_turnLog ⟨Nat.le_of_ble_eq_true rfl, Nat.le_of_ble_eq_true rfl⟩ (ci := 0) rfl rfl rfl rfl (Nat.le_of_ble_eq_true rfl) rfl rfl ⟨Nat.zero_le _, Nat.zero_le _⟩ (kkf (st' := []) (ws' := [_, _, _, _, _, _, _, _, _, _, _, _, _, _, _, _, _, _, _, _, _, _, _, _, _, _, _]) rfl rfl ?_)
        have hA1 : turnI a (p * 4 + q) b 16 (25344 + (p * 4 + q)) = a (25344 + (p * 4 + q)) := by unfold turnI; rw [if_neg (by omega)]
        refine V.aload_n (q := 67) F dX6_turn_66 rfl rfl rfl ?_
        refine V.get (q := 70) F 0 0 dX6_turn_67 rfl rfl rfl inX6_turn_X6 (by decide) (List.mem_of_getElem? (i := 1) rfl) rfl ?_
        refine V.iload (q := 72) F dX6_turn_70 rfl rfl ?_
        refine V.callV (q := 75) F [1, 2] 1 dX6_turn_72 rfl (c_X0_windyHours l G (A 1) (A 2) (A 3) _ _ (by omega)) gX6_turn_X0_windyHours rfl rfl ydX0_windyHours ⟨Nat.le_of_ble_eq_true rfl, Nat.le_of_ble_eq_true rfl⟩ (ci := 0) rfl rfl rfl rfl (Nat.le_of_ble_eq_true rfl) rfl rfl ⟨Nat.zero_le _, Nat.zero_le _⟩ (kkf (st' := [_]) (ws' := [_, _, _, _, _, _, _, _, _, _, _, _, _, _, _, _, _, _, _, _, _, _, _, _, _, _, _]) rfl rfl ?_)
        exact V.iret F T dX6_turn_75 ⟨⟨(_, _, _, _, _), (_, _, _), (_, _, _), (_, _, _), (_, _, _, _, _, _, _, _)⟩, (iEq (by unfold rTurn; omega)), fun h9 => absurd h9 (by unfold rTurn; omega), fun _ => rfl⟩ [(A 0), (A 1), (A 2), (A 3), (A 4), (A 5), (A 6), (A 7), (A 8), (A 9), (A 10), (A 11), (A 12), (A 13), (A 14), (A 15), (A 16), (A 17), (A 18), (A 19), (A 20), (A 21), (A 22), (A 23), (A 24), (A 25), (A 26)] rfl rfl
      · refine V.bipush (q := 44) F dX6_turn_42 rfl (by decide) ?_
        exact V.iret F T dX6_turn_44 ⟨⟨(_, _, _, _, _), (_, _, _), (_, _, _), (_, _, _), (_, _, _, _, _, _, _, _)⟩, (iEq (by unfold rTurn; omega)), fun _ => rfl, fun h9 => absurd h9 (by unfold rTurn; omega)⟩ [(A 0), (A 1), (A 2), (A 3), (A 4), (A 5), (A 6), (A 7), (A 8), (A 9), (A 10), (A 11), (A 12), (A 13), (A 14), (A 15), (A 16), (A 17), (A 18), (A 19), (A 20), (A 21), (A 22), (A 23), (A 24), (A 25), (A 26)] rfl rfl
    · refine V.bipush (q := 22) F dX6_turn_20 rfl (by decide) ?_
      exact V.iret F T dX6_turn_22 ⟨⟨(_, _, _, _, _), (_, _, _), (_, _, _), (_, _, _), (_, _, _, _, _, _, _, _)⟩, (iEq (by unfold rTurn; omega)), fun _ => rfl, fun h9 => absurd h9 (by unfold rTurn; omega)⟩ [(A 0), (A 1), (A 2), (A 3), (A 4), (A 5), (A 6), (A 7), (A 8), (A 9), (A 10), (A 11), (A 12), (A 13), (A 14), (A 15), (A 16), (A 17), (A 18), (A 19), (A 20), (A 21), (A 22), (A 23), (A 24), (A 25), (A 26)] rfl rfl
  · refine V.iconst (q := 9) F dX6_turn_8 rfl ?_
    exact V.iret F T dX6_turn_9 ⟨⟨(_, _, _, _, _), (_, _, _), (_, _, _), (_, _, _), (_, _, _, _, _, _, _, _)⟩, (iEq (by unfold rTurn; omega)), fun _ => rfl, fun h9 => absurd h9 (by unfold rTurn; omega)⟩ [(A 0), (A 1), (A 2), (A 3), (A 4), (A 5), (A 6), (A 7), (A 8), (A 9), (A 10), (A 11), (A 12), (A 13), (A 14), (A 15), (A 16), (A 17), (A 18), (A 19), (A 20), (A 21), (A 22), (A 23), (A 24), (A 25), (A 26)] rfl rfl

abbrev YX6_set (l : Launch) (G : Gx) : Sx := (cX6_set, 4, RX6, wsX6_set, rmD 3, l, G)
theorem ydX6_set : ydOk yX6_set 2 := by decide +kernel
theorem inX6_set_X6 : ∀ w ∈ wsX60, w ∈ wsX6_set := fun _ h => List.mem_cons_of_mem _ (List.mem_append_left _ (List.mem_append_left _ (List.mem_append_right _ h)))
set_option maxHeartbeats 1000000 in
set_option maxRecDepth 20000 in
theorem c_X6_set (l : Launch) (G : Gx) (A : Nat → Nat) (a tt R sn t rs ds ss hs f1 m1 g1 f2 m2 g2 f3 m3 g3 : Int → Int) (o s bb n E P mi1 mi2 mi3 df dq sc w v : Int) (hI : Inv a) (ho : 0 ≤ o ∧ o < 4) (hq : 0 ≤ s ∧ s ≤ 4) (hbb : 0 ≤ bb ∧ bb ≤ 1) (hn : 0 ≤ n ∧ n ≤ 80) (ht : ∀ j, 0 ≤ t j ∧ t j < 65536) (hrw : -2147483648 ≤ w ∧ w < 2147483648) (hrv : -2147483648 ≤ v ∧ v < 2147483648) : Ct l G yX6_set wsX6_set (rmD 3) [.ref (A 0), .int (zI w), .int (zI v)] [((A 0), .inr (6, [.ref (A 1), .ref (A 4), .ref (A 6), .int (zI bb), .ref (A 9), .ref (A 7), .ref (A 14), .ref (A 18), .ref (A 22)])), ((A 1), .inr (0, [.ref (A 2), .ref (A 3)])), ((A 2), aI G 26181 a), ((A 3), aI G 1584 tt), ((A 4), .inr (2, [.ref (A 5), .int (zI o), .int (zI s)])), ((A 5), aI G 104724 R), ((A 6), aI G 26181 sn), ((A 7), .inr (5, [.ref (A 8), .int (zI n)])), ((A 8), aC G 80 t), ((A 9), .inr (3, [.ref (A 7), .ref (A 10), .ref (A 11), .ref (A 12), .ref (A 13), .int (zI E), .int (zI P)])), ((A 10), aI G 16 rs), ((A 11), aI G 16 ds), ((A 12), aI G 16 ss), ((A 13), aI G 16 hs), ((A 14), .inr (4, [.ref (A 15), .ref (A 16), .ref (A 17), .int (zI mi1)])), ((A 15), aI G 48 f1), ((A 16), aI G 48 m1), ((A 17), aZ G 48 g1), ((A 18), .inr (4, [.ref (A 19), .ref (A 20), .ref (A 21), .int (zI mi2)])), ((A 19), aI G 48 f2), ((A 20), aI G 48 m2), ((A 21), aZ G 48 g2), ((A 22), .inr (1, [.ref (A 23), .int (zI df), .int (zI dq), .int (zI sc)])), ((A 23), .inr (4, [.ref (A 24), .ref (A 25), .ref (A 26), .int (zI mi3)])), ((A 24), aI G 48 f3), ((A 25), aI G 48 m3), ((A 26), aZ G 48 g3)] (AcX A G a o s R bb sn t n (upz a (26176 + w) v) (oN o s) (sN s) (RN a o s R) bb sn t n (rSet a w v)) := by
  refine Ct.intro (cc := cX6_set) (maxL := 4) (ret := (some .int)) (lo0 := [some (.ref (A 0)), some (.int (zI w)), some (.int (zI v)), none]) (by decide +kernel) rfl ⟨rfl, rfl⟩ (Nat.le_of_ble_eq_true rfl) rfl ?_
  intro X F T
  change Fx X (YX6_set l G) at F
  change V X (YX6_set l G) 0 0 0 _ _ _
  refine V.iload_n (q := 1) F dX6_set_0 rfl rfl rfl ?_
  refine V.iconst (q := 2) F dX6_set_1 rfl ?_
  refine V.iconst (q := 3) F dX6_set_2 rfl ?_
  refine V.callS (q := 6) F [] dX6_set_3 rfl (c_X6_isBetween l G  _ _ _ (by omega) (by omega) (by omega)) gX6_set_X6_isBetween rfl ydX6_isBetween ⟨Nat.le_of_ble_eq_true rfl, Nat.le_of_ble_eq_true rfl⟩ rfl rfl (Nat.le_of_ble_eq_true rfl) rfl rfl ⟨Nat.zero_le _, Nat.zero_le _⟩ (kkf (st' := [_]) (ws' := [_, _, _, _, _, _, _, _, _, _, _, _, _, _, _, _, _, _, _, _, _, _, _, _, _, _, _]) rfl rfl ?_)
  refine V.if_ne (q := 9) (tgt := 11) F dX6_set_6 rfl (by decide) (by omega) (fun k6 => ?_) (fun k6 => ?_)
  · refine V.iload_n (q := 12) F dX6_set_11 rfl rfl rfl ?_
    refine V.iload_n (q := 13) F dX6_set_12 rfl rfl rfl ?_
    refine V.callS (q := 16) F [] dX6_set_13 rfl (c_X6_isSettingInRange l G  _ _ (by omega) (by omega)) gX6_set_X6_isSettingInRange rfl ydX6_isSettingInRange ⟨Nat.le_of_ble_eq_true rfl, Nat.le_of_ble_eq_true rfl⟩ rfl rfl (Nat.le_of_ble_eq_true rfl) rfl rfl ⟨Nat.zero_le _, Nat.zero_le _⟩ (kkf (st' := [_]) (ws' := [_, _, _, _, _, _, _, _, _, _, _, _, _, _, _, _, _, _, _, _, _, _, _, _, _, _, _]) rfl rfl ?_)
    refine V.if_ne (q := 19) (tgt := 22) F dX6_set_16 rfl (by decide) (by omega) (fun k16 => ?_) (fun k16 => ?_)
    · have hset := hI.s
      have hs2 := hI.2.2.1.2.2.2
      have hs3 := hI.1 26178
      have hs4 : 0 ≤ a (26176 + w) ∧ a (26176 + w) ≤ 99 := by
        rcases (show w = 0 ∨ w = 1 ∨ w = 2 by omega) with rfl | rfl | rfl
        · show 0 ≤ a 26176 ∧ a 26176 ≤ 99; omega
        · show 0 ≤ a 26177 ∧ a 26177 ≤ 99; omega
        · show 0 ≤ a 26178 ∧ a 26178 ≤ 99; omega
      refine V.aload_n (q := 23) F dX6_set_22 rfl rfl rfl ?_
      refine V.iload_n (q := 24) F dX6_set_23 rfl rfl rfl ?_
      refine V.iload_n (q := 25) F dX6_set_24 rfl rfl rfl ?_
      refine V.callV (q := 28) F [0, 1, 2] 0 dX6_set_25 rfl (c_X6_wouldMixBounds l G (A 0) (A 1) (A 2) (A 3) (A 4) (A 6) (A 7) (A 9) (A 14) (A 18) (A 22) _ _ _ _ (by omega) (by omega) hset) gX6_set_X6_wouldMixBounds rfl rfl ydX6_wouldMixBounds ⟨Nat.le_of_ble_eq_true rfl, Nat.le_of_ble_eq_true rfl⟩ (ci := 6) rfl rfl rfl rfl (Nat.le_of_ble_eq_true rfl) rfl rfl ⟨Nat.zero_le _, Nat.zero_le _⟩ (kkf (st' := [_]) (ws' := [_, _, _, _, _, _, _, _, _, _, _, _, _, _, _, _, _, _, _, _, _, _, _, _, _, _, _]) rfl rfl ?_)
      refine V.if_eq (q := 31) (tgt := 34) F dX6_set_28 rfl (by decide) (by omega) (fun k28 => ?_) (fun k28 => ?_)
      · refine V.aload_n (q := 35) F dX6_set_34 rfl rfl rfl ?_
        refine V.get (q := 38) F 0 0 dX6_set_35 rfl rfl rfl inX6_set_X6 (by decide) (List.mem_of_getElem? (i := 1) rfl) rfl ?_
        refine V.iload_n (q := 39) F dX6_set_38 rfl rfl rfl ?_
        refine V.callV (q := 42) F [1, 2] 1 dX6_set_39 rfl (c_X0_setting l G (A 1) (A 2) (A 3) _ _ (by omega)) gX6_set_X0_setting rfl rfl ydX0_setting ⟨Nat.le_of_ble_eq_true rfl, Nat.le_of_ble_eq_true rfl⟩ (ci := 0) rfl rfl rfl rfl (Nat.le_of_ble_eq_true rfl) rfl rfl ⟨Nat.zero_le _, Nat.zero_le _⟩ (kkf (st' := [_]) (ws' := [_, _, _, _, _, _, _, _, _, _, _, _, _, _, _, _, _, _, _, _, _, _, _, _, _, _, _]) rfl rfl ?_)
        refine V.istore_n (q := 43) (lo' := [_, _, _, _]) F dX6_set_42 rfl rfl (Nat.le_of_ble_eq_true rfl) rfl rfl ?_
        refine V.iload_n (q := 44) F dX6_set_43 rfl rfl rfl ?_
        refine V.iload_n (q := 45) F dX6_set_44 rfl rfl rfl ?_
        refine V.icmp_ne (q := 48) (tgt := 51) F dX6_set_45 rfl (by decide) (by omega) (fun k45 => ?_) (fun k45 => ?_)
        · refine V.aload_n (q := 52) F dX6_set_51 rfl rfl rfl ?_
          refine V.get (q := 55) F 0 1 dX6_set_52 rfl rfl rfl inX6_set_X6 (by decide) (List.mem_of_getElem? (i := 2) rfl) rfl ?_
          refine V.aload_n (q := 56) F dX6_set_55 rfl rfl rfl ?_
          refine V.get (q := 59) F 0 0 dX6_set_56 rfl rfl rfl inX6_set_X6 (by decide) (List.mem_of_getElem? (i := 1) rfl) rfl ?_
          refine V.callV (q := 62) F [4, 5, 1, 2] 4 dX6_set_59 rfl (c_X2_remember l G (A 4) (A 5) (A 1) (A 2) (A 3) _ _ _ _ (by omega) (by omega)) gX6_set_X2_remember rfl rfl ydX2_remember ⟨Nat.le_of_ble_eq_true rfl, Nat.le_of_ble_eq_true rfl⟩ (ci := 2) rfl rfl rfl rfl (Nat.le_of_ble_eq_true rfl) rfl rfl ⟨Nat.zero_le _, Nat.zero_le _⟩ (kkf (st' := []) (ws' := [_, _, _, _, _, _, _, _, _, _, _, _, _, _, _, _, _, _, _, _, _, _, _, _, _, _, _]) rfl rfl ?_)
          refine V.aload_n (q := 63) F dX6_set_62 rfl rfl rfl ?_
          refine V.get (q := 66) F 0 0 dX6_set_63 rfl rfl rfl inX6_set_X6 (by decide) (List.mem_of_getElem? (i := 1) rfl) rfl ?_
          refine V.iload_n (q := 67) F dX6_set_66 rfl rfl rfl ?_
          refine V.iload_n (q := 68) F dX6_set_67 rfl rfl rfl ?_
          refine V.callV (q := 71) F [1, 2] 1 dX6_set_68 rfl (c_X0_putSetting l G (A 1) (A 2) (A 3) _ _ _ (by omega)) gX6_set_X0_putSetting rfl rfl ydX0_putSetting ⟨Nat.le_of_ble_eq_true rfl, Nat.le_of_ble_eq_true rfl⟩ (ci := 0) rfl rfl rfl rfl (Nat.le_of_ble_eq_true rfl) rfl rfl ⟨Nat.zero_le _, Nat.zero_le _⟩ (kkf (st' := []) (ws' := [_, _, _, _, _, _, _, _, _, _, _, _, _, _, _, _, _, _, _, _, _, _, _, _, _, _, _]) rfl rfl ?_)
          refine V.iload_n (q := 72) F dX6_set_71 rfl rfl rfl ?_
          exact V.iret F T dX6_set_72 ⟨⟨(_, _, _, _, _), (_, _, _), (_, _, _), (_, _, _), (_, _, _, _, _, _, _, _)⟩, (iEq (by unfold rSet; omega)), fun h9 => absurd h9 (by unfold rSet; omega), fun _ => rfl⟩ [(A 0), (A 1), (A 2), (A 3), (A 4), (A 5), (A 6), (A 7), (A 8), (A 9), (A 10), (A 11), (A 12), (A 13), (A 14), (A 15), (A 16), (A 17), (A 18), (A 19), (A 20), (A 21), (A 22), (A 23), (A 24), (A 25), (A 26)] rfl rfl
        · refine V.bipush (q := 50) F dX6_set_48 rfl (by decide) ?_
          exact V.iret F T dX6_set_50 ⟨⟨(_, _, _, _, _), (_, _, _), (_, _, _), (_, _, _), (_, _, _, _, _, _, _, _)⟩, (iEq (by unfold rSet; omega)), fun _ => rfl, fun h9 => absurd h9 (by unfold rSet; omega)⟩ [(A 0), (A 1), (A 2), (A 3), (A 4), (A 5), (A 6), (A 7), (A 8), (A 9), (A 10), (A 11), (A 12), (A 13), (A 14), (A 15), (A 16), (A 17), (A 18), (A 19), (A 20), (A 21), (A 22), (A 23), (A 24), (A 25), (A 26)] rfl rfl
      · refine V.bipush (q := 33) F dX6_set_31 rfl (by decide) ?_
        exact V.iret F T dX6_set_33 ⟨⟨(_, _, _, _, _), (_, _, _), (_, _, _), (_, _, _), (_, _, _, _, _, _, _, _)⟩, (iEq (by unfold rSet; omega)), fun _ => rfl, fun h9 => absurd h9 (by unfold rSet; omega)⟩ [(A 0), (A 1), (A 2), (A 3), (A 4), (A 5), (A 6), (A 7), (A 8), (A 9), (A 10), (A 11), (A 12), (A 13), (A 14), (A 15), (A 16), (A 17), (A 18), (A 19), (A 20), (A 21), (A 22), (A 23), (A 24), (A 25), (A 26)] rfl rfl
    · refine V.bipush (q := 21) F dX6_set_19 rfl (by decide) ?_
      exact V.iret F T dX6_set_21 ⟨⟨(_, _, _, _, _), (_, _, _), (_, _, _), (_, _, _), (_, _, _, _, _, _, _, _)⟩, (iEq (by unfold rSet; omega)), fun _ => rfl, fun h9 => absurd h9 (by unfold rSet; omega)⟩ [(A 0), (A 1), (A 2), (A 3), (A 4), (A 5), (A 6), (A 7), (A 8), (A 9), (A 10), (A 11), (A 12), (A 13), (A 14), (A 15), (A 16), (A 17), (A 18), (A 19), (A 20), (A 21), (A 22), (A 23), (A 24), (A 25), (A 26)] rfl rfl
  · refine V.iconst (q := 10) F dX6_set_9 rfl ?_
    exact V.iret F T dX6_set_10 ⟨⟨(_, _, _, _, _), (_, _, _), (_, _, _), (_, _, _), (_, _, _, _, _, _, _, _)⟩, (iEq (by unfold rSet; omega)), fun _ => rfl, fun h9 => absurd h9 (by unfold rSet; omega)⟩ [(A 0), (A 1), (A 2), (A 3), (A 4), (A 5), (A 6), (A 7), (A 8), (A 9), (A 10), (A 11), (A 12), (A 13), (A 14), (A 15), (A 16), (A 17), (A 18), (A 19), (A 20), (A 21), (A 22), (A 23), (A 24), (A 25), (A 26)] rfl rfl

abbrev YX6_engrave (l : Launch) (G : Gx) : Sx := (cX6_engrave, 5, RX6, wsX6_engrave, rmD 6, l, G)
theorem ydX6_engrave : ydOk yX6_engrave 2 := by decide +kernel
theorem inX6_engrave_X1 : ∀ w ∈ wsX10, w ∈ wsX6_engrave := fun _ h => List.mem_cons_of_mem _ (List.mem_append_left _ (List.mem_append_left _ (List.mem_append_left _ (List.mem_append_right _ h))))
theorem inX6_engrave_X6 : ∀ w ∈ wsX60, w ∈ wsX6_engrave := fun _ h => List.mem_cons_of_mem _ (List.mem_append_left _ (List.mem_append_left _ (List.mem_append_left _ (List.mem_append_left _ (List.mem_append_right _ h)))))
set_option maxHeartbeats 1000000 in
set_option maxRecDepth 20000 in
theorem c_X6_engrave (l : Launch) (G : Gx) (A : Nat → Nat) (a tt R sn t rs ds ss hs f1 m1 g1 f2 m2 g2 f3 m3 g3 : Int → Int) (o s bb n E P mi1 mi2 mi3 df dq sc p q : Int) (hI : Inv a) (ho : 0 ≤ o ∧ o < 4) (hq : 0 ≤ s ∧ s ≤ 4) (hbb : 0 ≤ bb ∧ bb ≤ 1) (hn : 0 ≤ n ∧ n ≤ 80) (ht : ∀ j, 0 ≤ t j ∧ t j < 65536) (hrp : -2147483648 ≤ p ∧ p < 2147483648) (hrq : -2147483648 ≤ q ∧ q < 2147483648) : Ct l G yX6_engrave wsX6_engrave (rmD 6) [.ref (A 0), .int (zI p), .int (zI q)] [((A 0), .inr (6, [.ref (A 1), .ref (A 4), .ref (A 6), .int (zI bb), .ref (A 9), .ref (A 7), .ref (A 14), .ref (A 18), .ref (A 22)])), ((A 1), .inr (0, [.ref (A 2), .ref (A 3)])), ((A 2), aI G 26181 a), ((A 3), aI G 1584 tt), ((A 4), .inr (2, [.ref (A 5), .int (zI o), .int (zI s)])), ((A 5), aI G 104724 R), ((A 6), aI G 26181 sn), ((A 7), .inr (5, [.ref (A 8), .int (zI n)])), ((A 8), aC G 80 t), ((A 9), .inr (3, [.ref (A 7), .ref (A 10), .ref (A 11), .ref (A 12), .ref (A 13), .int (zI E), .int (zI P)])), ((A 10), aI G 16 rs), ((A 11), aI G 16 ds), ((A 12), aI G 16 ss), ((A 13), aI G 16 hs), ((A 14), .inr (4, [.ref (A 15), .ref (A 16), .ref (A 17), .int (zI mi1)])), ((A 15), aI G 48 f1), ((A 16), aI G 48 m1), ((A 17), aZ G 48 g1), ((A 18), .inr (4, [.ref (A 19), .ref (A 20), .ref (A 21), .int (zI mi2)])), ((A 19), aI G 48 f2), ((A 20), aI G 48 m2), ((A 21), aZ G 48 g2), ((A 22), .inr (1, [.ref (A 23), .int (zI df), .int (zI dq), .int (zI sc)])), ((A 23), .inr (4, [.ref (A 24), .ref (A 25), .ref (A 26), .int (zI mi3)])), ((A 24), aI G 48 f3), ((A 25), aI G 48 m3), ((A 26), aZ G 48 g3)] (AcX A G a o s R bb sn t n (cutA a (p * 4 + q) (shr a (p * 4 + q)) (scrz a (p * 4 + q))) (oN o s) (sN s) (RN a o s R) bb sn t n (rEng a p q)) := by
  refine Ct.intro (cc := cX6_engrave) (maxL := 5) (ret := (some .int)) (lo0 := [some (.ref (A 0)), some (.int (zI p)), some (.int (zI q)), none, none]) (by decide +kernel) rfl ⟨rfl, rfl⟩ (Nat.le_of_ble_eq_true rfl) rfl ?_
  intro X F T
  change Fx X (YX6_engrave l G) at F
  change V X (YX6_engrave l G) 0 0 0 _ _ _
  refine V.iload_n (q := 1) F dX6_engrave_0 rfl rfl rfl ?_
  refine V.iload_n (q := 2) F dX6_engrave_1 rfl rfl rfl ?_
  refine V.callS (q := 5) F [] dX6_engrave_2 rfl (c_X6_isRose l G  _ _ (by omega) (by omega)) gX6_engrave_X6_isRose rfl ydX6_isRose ⟨Nat.le_of_ble_eq_true rfl, Nat.le_of_ble_eq_true rfl⟩ rfl rfl (Nat.le_of_ble_eq_true rfl) rfl rfl ⟨Nat.zero_le _, Nat.zero_le _⟩ (kkf (st' := [_]) (ws' := [_, _, _, _, _, _, _, _, _, _, _, _, _, _, _, _, _, _, _, _, _, _, _, _, _, _, _]) rfl rfl ?_)
  refine V.if_ne (q := 8) (tgt := 10) F dX6_engrave_5 rfl (by decide) (by omega) (fun k5 => ?_) (fun k5 => ?_)
  · refine V.iload_n (q := 11) F dX6_engrave_10 rfl rfl rfl ?_
    refine V.iload_n (q := 12) F dX6_engrave_11 rfl rfl rfl ?_
    refine V.callS (q := 15) F [] dX6_engrave_12 rfl (c_X6_roseOf l G  _ _ ) gX6_engrave_X6_roseOf rfl ydX6_roseOf ⟨Nat.le_of_ble_eq_true rfl, Nat.le_of_ble_eq_true rfl⟩ rfl rfl (Nat.le_of_ble_eq_true rfl) rfl rfl ⟨Nat.zero_le _, Nat.zero_le _⟩ (kkf (st' := [_]) (ws' := [_, _, _, _, _, _, _, _, _, _, _, _, _, _, _, _, _, _, _, _, _, _, _, _, _, _, _]) rfl rfl ?_)
    refine V.istore_n (q := 16) (lo' := [_, _, _, _, _]) F dX6_engrave_15 rfl rfl (Nat.le_of_ble_eq_true rfl) rfl rfl ?_
    have hr : 0 ≤ p * 4 + q ∧ p * 4 + q < 16 := by omega
    have hw := hI.w hr
    have hob : 0 ≤ obsz a (p * 4 + q) ∧ obsz a (p * 4 + q) ≤ 3 := by unfold obsz; omega
    have hdz := difz_rng (a := a) (p * 4 + q)
    refine V.aload_n (q := 17) F dX6_engrave_16 rfl rfl rfl ?_
    refine V.iload_n (q := 18) F dX6_engrave_17 rfl rfl rfl ?_
    refine V.callV (q := 21) F [0, 1, 2, 22, 23, 24, 25] 0 dX6_engrave_18 rfl (c_X6_obstacleTo l G (A 0) (A 1) (A 2) (A 3) (A 4) (A 6) (A 7) (A 9) (A 14) (A 18) (A 22) (A 23) (A 24) (A 25) (A 26) _ _ _ _ _ _ _ _ _ (by omega) hI) gX6_engrave_X6_obstacleTo rfl rfl ydX6_obstacleTo ⟨Nat.le_of_ble_eq_true rfl, Nat.le_of_ble_eq_true rfl⟩ (ci := 6) rfl rfl rfl rfl (Nat.le_of_ble_eq_true rfl) rfl rfl ⟨Nat.zero_le _, Nat.zero_le _⟩ (fun r9 w9 h9 _ => ?_)
    obtain ⟨df, dq, sc, mi3, f3, m3, rfl, rfl, hok⟩ := h9
    refine V.eq (pc' := 21) (st' := [_]) (ws' := [_, _, _, _, _, _, _, _, _, _, _, _, _, _, _, _, _, _, _, _, _, _, _, _, _, _, _]) rfl rfl rfl rfl ?_
    refine V.istore (q := 23) (lo' := [_, _, _, _, _]) F dX6_engrave_21 rfl (Nat.le_of_ble_eq_true rfl) rfl rfl ?_
    refine V.iload (q := 25) F dX6_engrave_23 rfl rfl ?_
    refine V.iconst (q := 26) F dX6_engrave_25 rfl ?_
    refine V.icmp_eq (q := 29) (tgt := 35) F dX6_engrave_26 rfl (by decide) (by omega) (fun k26 => ?_) (fun k26 => ?_)
    · refine V.bipush (q := 37) F dX6_engrave_35 rfl (by decide) ?_
      exact V.iret F T dX6_engrave_37 ⟨⟨(_, _, _, _, _), (_, _, _), (_, _, _), (_, _, _), (_, _, _, _, _, _, _, _)⟩, (iEq (by unfold rEng; omega)), fun _ => rfl, fun h9 => absurd h9 (by unfold rEng; omega)⟩ [(A 0), (A 1), (A 2), (A 3), (A 4), (A 5), (A 6), (A 7), (A 8), (A 9), (A 10), (A 11), (A 12), (A 13), (A 14), (A 15), (A 16), (A 17), (A 18), (A 19), (A 20), (A 21), (A 22), (A 23), (A 24), (A 25), (A 26)] rfl rfl
    · refine V.iload (q := 31) F dX6_engrave_29 rfl rfl ?_
      refine V.iconst (q := 32) F dX6_engrave_31 rfl ?_
      refine V.icmp_ne (q := 35) (tgt := 38) F dX6_engrave_32 rfl (by decide) (by omega) (fun k32 => ?_) (fun k32 => ?_)
      · refine V.iload (q := 40) F dX6_engrave_38 rfl rfl ?_
        refine V.iconst (q := 41) F dX6_engrave_40 rfl ?_
        refine V.icmp_ne (q := 44) (tgt := 47) F dX6_engrave_41 rfl (by decide) (by omega) (fun k41 => ?_) (fun k41 => ?_)
        · obtain ⟨rfl, rfl, rfl, hfz⟩ := hok (by omega)
          refine V.aload_n (q := 48) F dX6_engrave_47 rfl rfl rfl ?_
          refine V.get (q := 51) F 0 1 dX6_engrave_48 rfl rfl rfl inX6_engrave_X6 (by decide) (List.mem_of_getElem? (i := 1) rfl) rfl ?_
          refine V.aload_n (q := 52) F dX6_engrave_51 rfl rfl rfl ?_
          refine V.get (q := 55) F 0 0 dX6_engrave_52 rfl rfl rfl inX6_engrave_X6 (by decide) (List.mem_of_getElem? (i := 2) rfl) rfl ?_
          refine V.callV (q := 58) F [4, 5, 1, 2] 4 dX6_engrave_55 rfl (c_X2_remember l G (A 4) (A 5) (A 1) (A 2) (A 3) _ _ _ _ (by omega) (by omega)) gX6_engrave_X2_remember rfl rfl ydX2_remember ⟨Nat.le_of_ble_eq_true rfl, Nat.le_of_ble_eq_true rfl⟩ (ci := 2) rfl rfl rfl rfl (Nat.le_of_ble_eq_true rfl) rfl rfl ⟨Nat.zero_le _, Nat.zero_le _⟩ (kkf (st' := []) (ws' := [_, _, _, _, _, _, _, _, _, _, _, _, _, _, _, _, _, _, _, _, _, _, _, _, _, _, _]) rfl rfl ?_)
          refine V.aload_n (q := 59) F dX6_engrave_58 rfl rfl rfl ?_
          refine V.get (q := 62) F 0 0 dX6_engrave_59 rfl rfl rfl inX6_engrave_X6 (by decide) (List.mem_of_getElem? (i := 2) rfl) rfl ?_
          refine V.iload_n (q := 63) F dX6_engrave_62 rfl rfl rfl ?_
          refine V.aload_n (q := 64) F dX6_engrave_63 rfl rfl rfl ?_
          refine V.get (q := 67) F 0 8 dX6_engrave_64 rfl rfl rfl inX6_engrave_X6 (by decide) (List.mem_of_getElem? (i := 3) rfl) rfl ?_
          refine V.get (q := 70) F 22 0 dX6_engrave_67 rfl rfl rfl inX6_engrave_X1 (by decide) (List.mem_of_getElem? (i := 4) rfl) rfl ?_
          refine V.aload_n (q := 71) F dX6_engrave_70 rfl rfl rfl ?_
          refine V.get (q := 74) F 0 8 dX6_engrave_71 rfl rfl rfl inX6_engrave_X6 (by decide) (List.mem_of_getElem? (i := 3) rfl) rfl ?_
          refine V.get (q := 77) F 22 3 dX6_engrave_74 rfl rfl rfl inX6_engrave_X1 (by decide) (List.mem_of_getElem? (i := 5) rfl) rfl ?_
          refine V.callV (q := 80) F [1, 2, 23, 24] 1 dX6_engrave_77 rfl (c_X0_cut l G (A 1) (A 2) (A 3) (A 23) (A 24) (A 25) (A 26) _ _ _ _ _ (by omega) hw) gX6_engrave_X0_cut rfl rfl ydX0_cut ⟨Nat.le_of_ble_eq_true rfl, Nat.le_of_ble_eq_true rfl⟩ (ci := 0) rfl rfl rfl rfl (Nat.le_of_ble_eq_true rfl) rfl rfl ⟨Nat.zero_le _, Nat.zero_le _⟩ (kkf (st' := []) (ws' := [_, _, _, _, _, _, _, _, _, _, _, _, _, _, _, _, _, _, _, _, _, _, _, _, _, _, _]) rfl rfl ?_)
          refine V.aload_n (q := 81) F dX6_engrave_80 rfl rfl rfl ?_
          refine V.get (q := 84) F 0 8 dX6_engrave_81 rfl rfl rfl inX6_engrave_X6 (by decide) (List.mem_of_getElem? (i := 3) rfl) rfl ?_
          refine V.get (q := 87) F 22 1 dX6_engrave_84 rfl rfl rfl inX6_engrave_X1 (by decide) (List.mem_of_getElem? (i := 6) rfl) rfl ?_
          exact V.iret F T dX6_engrave_87 ⟨⟨(_, _, _, _, _), (_, _, _), (_, _, _), (_, _, _), (_, _, _, _, _, _, _, _)⟩, (iEq (by unfold rEng; omega)), fun h9 => absurd h9 (by unfold rEng; omega), fun _ => by rw [cutA_congr hfz]; rfl⟩ [(A 0), (A 1), (A 2), (A 3), (A 4), (A 5), (A 6), (A 7), (A 8), (A 9), (A 10), (A 11), (A 12), (A 13), (A 14), (A 15), (A 16), (A 17), (A 18), (A 19), (A 20), (A 21), (A 22), (A 23), (A 24), (A 25), (A 26)] rfl rfl
        · refine V.bipush (q := 46) F dX6_engrave_44 rfl (by decide) ?_
          exact V.iret F T dX6_engrave_46 ⟨⟨(_, _, _, _, _), (_, _, _), (_, _, _), (_, _, _), (_, _, _, _, _, _, _, _)⟩, (iEq (by unfold rEng; omega)), fun _ => rfl, fun h9 => absurd h9 (by unfold rEng; omega)⟩ [(A 0), (A 1), (A 2), (A 3), (A 4), (A 5), (A 6), (A 7), (A 8), (A 9), (A 10), (A 11), (A 12), (A 13), (A 14), (A 15), (A 16), (A 17), (A 18), (A 19), (A 20), (A 21), (A 22), (A 23), (A 24), (A 25), (A 26)] rfl rfl
      · refine V.bipush (q := 37) F dX6_engrave_35 rfl (by decide) ?_
        exact V.iret F T dX6_engrave_37 ⟨⟨(_, _, _, _, _), (_, _, _), (_, _, _), (_, _, _), (_, _, _, _, _, _, _, _)⟩, (iEq (by unfold rEng; omega)), fun _ => rfl, fun h9 => absurd h9 (by unfold rEng; omega)⟩ [(A 0), (A 1), (A 2), (A 3), (A 4), (A 5), (A 6), (A 7), (A 8), (A 9), (A 10), (A 11), (A 12), (A 13), (A 14), (A 15), (A 16), (A 17), (A 18), (A 19), (A 20), (A 21), (A 22), (A 23), (A 24), (A 25), (A 26)] rfl rfl
  · refine V.iconst (q := 9) F dX6_engrave_8 rfl ?_
    exact V.iret F T dX6_engrave_9 ⟨⟨(_, _, _, _, _), (_, _, _), (_, _, _), (_, _, _), (_, _, _, _, _, _, _, _)⟩, (iEq (by unfold rEng; omega)), fun _ => rfl, fun h9 => absurd h9 (by unfold rEng; omega)⟩ [(A 0), (A 1), (A 2), (A 3), (A 4), (A 5), (A 6), (A 7), (A 8), (A 9), (A 10), (A 11), (A 12), (A 13), (A 14), (A 15), (A 16), (A 17), (A 18), (A 19), (A 20), (A 21), (A 22), (A 23), (A 24), (A 25), (A 26)] rfl rfl

abbrev YX6_renew (l : Launch) (G : Gx) : Sx := (cX6_renew, 5, RX6, wsX6_renew, rmD 3, l, G)
theorem ydX6_renew : ydOk yX6_renew 2 := by decide +kernel
theorem inX6_renew_X6 : ∀ w ∈ wsX60, w ∈ wsX6_renew := fun _ h => List.mem_cons_of_mem _ (List.mem_append_left _ (List.mem_append_left _ (List.mem_append_right _ h)))
set_option maxHeartbeats 1000000 in
set_option maxRecDepth 20000 in
theorem c_X6_renew (l : Launch) (G : Gx) (A : Nat → Nat) (a tt R sn t rs ds ss hs f1 m1 g1 f2 m2 g2 f3 m3 g3 : Int → Int) (o s bb n E P mi1 mi2 mi3 df dq sc p q : Int) (hI : Inv a) (ho : 0 ≤ o ∧ o < 4) (hq : 0 ≤ s ∧ s ≤ 4) (hbb : 0 ≤ bb ∧ bb ≤ 1) (hn : 0 ≤ n ∧ n ≤ 80) (ht : ∀ j, 0 ≤ t j ∧ t j < 65536) (hrp : -2147483648 ≤ p ∧ p < 2147483648) (hrq : -2147483648 ≤ q ∧ q < 2147483648) : Ct l G yX6_renew wsX6_renew (rmD 3) [.ref (A 0), .int (zI p), .int (zI q)] [((A 0), .inr (6, [.ref (A 1), .ref (A 4), .ref (A 6), .int (zI bb), .ref (A 9), .ref (A 7), .ref (A 14), .ref (A 18), .ref (A 22)])), ((A 1), .inr (0, [.ref (A 2), .ref (A 3)])), ((A 2), aI G 26181 a), ((A 3), aI G 1584 tt), ((A 4), .inr (2, [.ref (A 5), .int (zI o), .int (zI s)])), ((A 5), aI G 104724 R), ((A 6), aI G 26181 sn), ((A 7), .inr (5, [.ref (A 8), .int (zI n)])), ((A 8), aC G 80 t), ((A 9), .inr (3, [.ref (A 7), .ref (A 10), .ref (A 11), .ref (A 12), .ref (A 13), .int (zI E), .int (zI P)])), ((A 10), aI G 16 rs), ((A 11), aI G 16 ds), ((A 12), aI G 16 ss), ((A 13), aI G 16 hs), ((A 14), .inr (4, [.ref (A 15), .ref (A 16), .ref (A 17), .int (zI mi1)])), ((A 15), aI G 48 f1), ((A 16), aI G 48 m1), ((A 17), aZ G 48 g1), ((A 18), .inr (4, [.ref (A 19), .ref (A 20), .ref (A 21), .int (zI mi2)])), ((A 19), aI G 48 f2), ((A 20), aI G 48 m2), ((A 21), aZ G 48 g2), ((A 22), .inr (1, [.ref (A 23), .int (zI df), .int (zI dq), .int (zI sc)])), ((A 23), .inr (4, [.ref (A 24), .ref (A 25), .ref (A 26), .int (zI mi3)])), ((A 24), aI G 48 f3), ((A 25), aI G 48 m3), ((A 26), aZ G 48 g3)] (AcX A G a o s R bb sn t n (newA a (p * 4 + q)) (oN o s) (sN s) (RN a o s R) bb sn t n (rRen a p q)) := by
  refine Ct.intro (cc := cX6_renew) (maxL := 5) (ret := (some .int)) (lo0 := [some (.ref (A 0)), some (.int (zI p)), some (.int (zI q)), none, none]) (by decide +kernel) rfl ⟨rfl, rfl⟩ (Nat.le_of_ble_eq_true rfl) rfl ?_
  intro X F T
  change Fx X (YX6_renew l G) at F
  change V X (YX6_renew l G) 0 0 0 _ _ _
  refine V.iload_n (q := 1) F dX6_renew_0 rfl rfl rfl ?_
  refine V.iload_n (q := 2) F dX6_renew_1 rfl rfl rfl ?_
  refine V.callS (q := 5) F [] dX6_renew_2 rfl (c_X6_isRose l G  _ _ (by omega) (by omega)) gX6_renew_X6_isRose rfl ydX6_isRose ⟨Nat.le_of_ble_eq_true rfl, Nat.le_of_ble_eq_true rfl⟩ rfl rfl (Nat.le_of_ble_eq_true rfl) rfl rfl ⟨Nat.zero_le _, Nat.zero_le _⟩ (kkf (st' := [_]) (ws' := [_, _, _, _, _, _, _, _, _, _, _, _, _, _, _, _, _, _, _, _, _, _, _, _, _, _, _]) rfl rfl ?_)
  refine V.if_ne (q := 8) (tgt := 10) F dX6_renew_5 rfl (by decide) (by omega) (fun k5 => ?_) (fun k5 => ?_)
  · refine V.iload_n (q := 11) F dX6_renew_10 rfl rfl rfl ?_
    refine V.iload_n (q := 12) F dX6_renew_11 rfl rfl rfl ?_
    refine V.callS (q := 15) F [] dX6_renew_12 rfl (c_X6_roseOf l G  _ _ ) gX6_renew_X6_roseOf rfl ydX6_roseOf ⟨Nat.le_of_ble_eq_true rfl, Nat.le_of_ble_eq_true rfl⟩ rfl rfl (Nat.le_of_ble_eq_true rfl) rfl rfl ⟨Nat.zero_le _, Nat.zero_le _⟩ (kkf (st' := [_]) (ws' := [_, _, _, _, _, _, _, _, _, _, _, _, _, _, _, _, _, _, _, _, _, _, _, _, _, _, _]) rfl rfl ?_)
    refine V.istore_n (q := 16) (lo' := [_, _, _, _, _]) F dX6_renew_15 rfl rfl (Nat.le_of_ble_eq_true rfl) rfl rfl ?_
    have hr : 0 ≤ p * 4 + q ∧ p * 4 + q < 16 := by omega
    have hw := hI.w hr
    have hz1 := hI.p (j := 26160 + (p * 4 + q)) (by omega) (by omega)
    refine V.aload_n (q := 17) F dX6_renew_16 rfl rfl rfl ?_
    refine V.get (q := 20) F 0 0 dX6_renew_17 rfl rfl rfl inX6_renew_X6 (by decide) (List.mem_of_getElem? (i := 1) rfl) rfl ?_
    refine V.iload_n (q := 21) F dX6_renew_20 rfl rfl rfl ?_
    refine V.callV (q := 24) F [1, 2] 1 dX6_renew_21 rfl (c_X0_isNewPlate l G (A 1) (A 2) (A 3) _ _ (by omega) hI) gX6_renew_X0_isNewPlate rfl rfl ydX0_isNewPlate ⟨Nat.le_of_ble_eq_true rfl, Nat.le_of_ble_eq_true rfl⟩ (ci := 0) rfl rfl rfl rfl (Nat.le_of_ble_eq_true rfl) rfl rfl ⟨Nat.zero_le _, Nat.zero_le _⟩ (kkf (st' := [_]) (ws' := [_, _, _, _, _, _, _, _, _, _, _, _, _, _, _, _, _, _, _, _, _, _, _, _, _, _, _]) rfl rfl ?_)
    refine V.if_eq (q := 27) (tgt := 30) F dX6_renew_24 rfl (by decide) (by omega) (fun k24 => ?_) (fun k24 => ?_)
    · refine V.aload_n (q := 31) F dX6_renew_30 rfl rfl rfl ?_
      refine V.get (q := 34) F 0 0 dX6_renew_31 rfl rfl rfl inX6_renew_X6 (by decide) (List.mem_of_getElem? (i := 1) rfl) rfl ?_
      refine V.iload_n (q := 35) F dX6_renew_34 rfl rfl rfl ?_
      refine V.callV (q := 38) F [1, 2] 1 dX6_renew_35 rfl (c_X0_scrapes l G (A 1) (A 2) (A 3) _ _ (by omega)) gX6_renew_X0_scrapes rfl rfl ydX0_scrapes ⟨Nat.le_of_ble_eq_true rfl, Nat.le_of_ble_eq_true rfl⟩ (ci := 0) rfl rfl rfl rfl (Nat.le_of_ble_eq_true rfl) rfl rfl ⟨Nat.zero_le _, Nat.zero_le _⟩ (kkf (st' := [_]) (ws' := [_, _, _, _, _, _, _, _, _, _, _, _, _, _, _, _, _, _, _, _, _, _, _, _, _, _, _]) rfl rfl ?_)
      refine V.istore (q := 40) (lo' := [_, _, _, _, _]) F dX6_renew_38 rfl (Nat.le_of_ble_eq_true rfl) rfl rfl ?_
      refine V.aload_n (q := 41) F dX6_renew_40 rfl rfl rfl ?_
      refine V.get (q := 44) F 0 1 dX6_renew_41 rfl rfl rfl inX6_renew_X6 (by decide) (List.mem_of_getElem? (i := 2) rfl) rfl ?_
      refine V.aload_n (q := 45) F dX6_renew_44 rfl rfl rfl ?_
      refine V.get (q := 48) F 0 0 dX6_renew_45 rfl rfl rfl inX6_renew_X6 (by decide) (List.mem_of_getElem? (i := 1) rfl) rfl ?_
      refine V.callV (q := 51) F [4, 5, 1, 2] 4 dX6_renew_48 rfl (c_X2_remember l G (A 4) (A 5) (A 1) (A 2) (A 3) _ _ _ _ (by omega) (by omega)) gX6_renew_X2_remember rfl rfl ydX2_remember ⟨Nat.le_of_ble_eq_true rfl, Nat.le_of_ble_eq_true rfl⟩ (ci := 2) rfl rfl rfl rfl (Nat.le_of_ble_eq_true rfl) rfl rfl ⟨Nat.zero_le _, Nat.zero_le _⟩ (kkf (st' := []) (ws' := [_, _, _, _, _, _, _, _, _, _, _, _, _, _, _, _, _, _, _, _, _, _, _, _, _, _, _]) rfl rfl ?_)
      refine V.aload_n (q := 52) F dX6_renew_51 rfl rfl rfl ?_
      refine V.get (q := 55) F 0 0 dX6_renew_52 rfl rfl rfl inX6_renew_X6 (by decide) (List.mem_of_getElem? (i := 1) rfl) rfl ?_
      refine V.iload_n (q := 56) F dX6_renew_55 rfl rfl rfl ?_
      refine V.callV (q := 59) F [1, 2] 1 dX6_renew_56 rfl (c_X0_putNewPlate l G (A 1) (A 2) (A 3) _ _ (by omega)) gX6_renew_X0_putNewPlate rfl rfl ydX0_putNewPlate ⟨Nat.le_of_ble_eq_true rfl, Nat.le_of_ble_eq_true rfl⟩ (ci := 0) rfl rfl rfl rfl (Nat.le_of_ble_eq_true rfl) rfl rfl ⟨Nat.zero_le _, Nat.zero_le _⟩ (kkf (st' := []) (ws' := [_, _, _, _, _, _, _, _, _, _, _, _, _, _, _, _, _, _, _, _, _, _, _, _, _, _, _]) rfl rfl ?_)
      refine V.iload (q := 61) F dX6_renew_59 rfl rfl ?_
      exact V.iret F T dX6_renew_61 ⟨⟨(_, _, _, _, _), (_, _, _), (_, _, _), (_, _, _), (_, _, _, _, _, _, _, _)⟩, (iEq (by unfold rRen; omega)), fun h9 => absurd h9 (by unfold rRen; omega), fun _ => rfl⟩ [(A 0), (A 1), (A 2), (A 3), (A 4), (A 5), (A 6), (A 7), (A 8), (A 9), (A 10), (A 11), (A 12), (A 13), (A 14), (A 15), (A 16), (A 17), (A 18), (A 19), (A 20), (A 21), (A 22), (A 23), (A 24), (A 25), (A 26)] rfl rfl
    · refine V.bipush (q := 29) F dX6_renew_27 rfl (by decide) ?_
      exact V.iret F T dX6_renew_29 ⟨⟨(_, _, _, _, _), (_, _, _), (_, _, _), (_, _, _), (_, _, _, _, _, _, _, _)⟩, (iEq (by unfold rRen; omega)), fun _ => rfl, fun h9 => absurd h9 (by unfold rRen; omega)⟩ [(A 0), (A 1), (A 2), (A 3), (A 4), (A 5), (A 6), (A 7), (A 8), (A 9), (A 10), (A 11), (A 12), (A 13), (A 14), (A 15), (A 16), (A 17), (A 18), (A 19), (A 20), (A 21), (A 22), (A 23), (A 24), (A 25), (A 26)] rfl rfl
  · refine V.iconst (q := 9) F dX6_renew_8 rfl ?_
    exact V.iret F T dX6_renew_9 ⟨⟨(_, _, _, _, _), (_, _, _), (_, _, _), (_, _, _), (_, _, _, _, _, _, _, _)⟩, (iEq (by unfold rRen; omega)), fun _ => rfl, fun h9 => absurd h9 (by unfold rRen; omega)⟩ [(A 0), (A 1), (A 2), (A 3), (A 4), (A 5), (A 6), (A 7), (A 8), (A 9), (A 10), (A 11), (A 12), (A 13), (A 14), (A 15), (A 16), (A 17), (A 18), (A 19), (A 20), (A 21), (A 22), (A 23), (A 24), (A 25), (A 26)] rfl rfl



abbrev YX6_undo (l : Launch) (G : Gx) : Sx := (cX6_undo, 1, RX6, wsX6_undo, rmD 3, l, G)
theorem ydX6_undo : ydOk yX6_undo 0 := by decide +kernel
theorem inX6_undo_X2 : ∀ w ∈ wsX20, w ∈ wsX6_undo := fun _ h => List.mem_cons_of_mem _ (List.mem_append_left _ (List.mem_append_right _ h))
theorem inX6_undo_X6 : ∀ w ∈ wsX60, w ∈ wsX6_undo := fun _ h => List.mem_cons_of_mem _ (List.mem_append_left _ (List.mem_append_left _ (List.mem_append_right _ h)))
set_option maxHeartbeats 1000000 in
set_option maxRecDepth 20000 in
theorem c_X6_undo (l : Launch) (G : Gx) (A : Nat → Nat) (a tt R sn t rs ds ss hs f1 m1 g1 f2 m2 g2 f3 m3 g3 : Int → Int) (o s bb n E P mi1 mi2 mi3 df dq sc : Int) (hI : Inv a) (ho : 0 ≤ o ∧ o < 4) (hq : 0 ≤ s ∧ s ≤ 4) (hbb : 0 ≤ bb ∧ bb ≤ 1) (hn : 0 ≤ n ∧ n ≤ 80) (ht : ∀ j, 0 ≤ t j ∧ t j < 65536) : Ct l G yX6_undo wsX6_undo (rmD 3) [.ref (A 0)] [((A 0), .inr (6, [.ref (A 1), .ref (A 4), .ref (A 6), .int (zI bb), .ref (A 9), .ref (A 7), .ref (A 14), .ref (A 18), .ref (A 22)])), ((A 1), .inr (0, [.ref (A 2), .ref (A 3)])), ((A 2), aI G 26181 a), ((A 3), aI G 1584 tt), ((A 4), .inr (2, [.ref (A 5), .int (zI o), .int (zI s)])), ((A 5), aI G 104724 R), ((A 6), aI G 26181 sn), ((A 7), .inr (5, [.ref (A 8), .int (zI n)])), ((A 8), aC G 80 t), ((A 9), .inr (3, [.ref (A 7), .ref (A 10), .ref (A 11), .ref (A 12), .ref (A 13), .int (zI E), .int (zI P)])), ((A 10), aI G 16 rs), ((A 11), aI G 16 ds), ((A 12), aI G 16 ss), ((A 13), aI G 16 hs), ((A 14), .inr (4, [.ref (A 15), .ref (A 16), .ref (A 17), .int (zI mi1)])), ((A 15), aI G 48 f1), ((A 16), aI G 48 m1), ((A 17), aZ G 48 g1), ((A 18), .inr (4, [.ref (A 19), .ref (A 20), .ref (A 21), .int (zI mi2)])), ((A 19), aI G 48 f2), ((A 20), aI G 48 m2), ((A 21), aZ G 48 g2), ((A 22), .inr (1, [.ref (A 23), .int (zI df), .int (zI dq), .int (zI sc)])), ((A 23), .inr (4, [.ref (A 24), .ref (A 25), .ref (A 26), .int (zI mi3)])), ((A 24), aI G 48 f3), ((A 25), aI G 48 m3), ((A 26), aZ G 48 g3)] (AcX A G a o s R bb sn t n (cpz R a ((o + (s - 1)) % 4 * 26181) 0 26181) o (s - 1) R bb sn t n (rUndo s)) := by
  refine Ct.intro (cc := cX6_undo) (maxL := 1) (ret := (some .int)) (lo0 := [some (.ref (A 0))]) (by decide +kernel) rfl ⟨rfl, rfl⟩ (Nat.le_of_ble_eq_true rfl) rfl ?_
  intro X F T
  change Fx X (YX6_undo l G) at F
  change V X (YX6_undo l G) 0 0 0 _ _ _
  refine V.aload_n (q := 1) F dX6_undo_0 rfl rfl rfl ?_
  refine V.get (q := 4) F 0 1 dX6_undo_1 rfl rfl rfl inX6_undo_X6 (by decide) (List.mem_of_getElem? (i := 1) rfl) rfl ?_
  refine V.get (q := 7) F 4 2 dX6_undo_4 rfl rfl rfl inX6_undo_X2 (by decide) (List.mem_of_getElem? (i := 2) rfl) rfl ?_
  refine V.if_ne (q := 10) (tgt := 13) F dX6_undo_7 rfl (by decide) (by omega) (fun k7 => ?_) (fun k7 => ?_)
  · refine V.aload_n (q := 14) F dX6_undo_13 rfl rfl rfl ?_
    refine V.get (q := 17) F 0 1 dX6_undo_14 rfl rfl rfl inX6_undo_X6 (by decide) (List.mem_of_getElem? (i := 1) rfl) rfl ?_
    refine V.aload_n (q := 18) F dX6_undo_17 rfl rfl rfl ?_
    refine V.get (q := 21) F 0 0 dX6_undo_18 rfl rfl rfl inX6_undo_X6 (by decide) (List.mem_of_getElem? (i := 3) rfl) rfl ?_
    refine V.callV (q := 24) F [4, 5, 1, 2] 4 dX6_undo_21 rfl (c_X2_takeBack l G (A 4) (A 5) (A 1) (A 2) (A 3) _ _ _ _ (by omega) (by omega) (by omega)) gX6_undo_X2_takeBack rfl rfl ydX2_takeBack ⟨Nat.le_of_ble_eq_true rfl, Nat.le_of_ble_eq_true rfl⟩ (ci := 2) rfl rfl rfl rfl (Nat.le_of_ble_eq_true rfl) rfl rfl ⟨Nat.zero_le _, Nat.zero_le _⟩ (kkf (st' := []) (ws' := [_, _, _, _, _, _, _, _, _, _, _, _, _, _, _, _, _, _, _, _, _, _, _, _, _, _, _]) rfl rfl ?_)
    refine V.aload_n (q := 25) F dX6_undo_24 rfl rfl rfl ?_
    refine V.get (q := 28) F 0 1 dX6_undo_25 rfl rfl rfl inX6_undo_X6 (by decide) (List.mem_of_getElem? (i := 1) rfl) rfl ?_
    refine V.get (q := 31) F 4 2 dX6_undo_28 rfl rfl rfl inX6_undo_X2 (by decide) (List.mem_of_getElem? (i := 2) rfl) rfl ?_
    exact V.iret F T dX6_undo_31 ⟨⟨(_, _, _, _, _), (_, _, _), (_, _, _), (_, _, _), (_, _, _, _, _, _, _, _)⟩, (iEq (by unfold rUndo; omega)), fun h9 => absurd h9 (by unfold rUndo; omega), fun _ => rfl⟩ [(A 0), (A 1), (A 2), (A 3), (A 4), (A 5), (A 6), (A 7), (A 8), (A 9), (A 10), (A 11), (A 12), (A 13), (A 14), (A 15), (A 16), (A 17), (A 18), (A 19), (A 20), (A 21), (A 22), (A 23), (A 24), (A 25), (A 26)] rfl rfl
  · refine V.bipush (q := 12) F dX6_undo_10 rfl (by decide) ?_
    exact V.iret F T dX6_undo_12 ⟨⟨(_, _, _, _, _), (_, _, _), (_, _, _), (_, _, _), (_, _, _, _, _, _, _, _)⟩, (iEq (by unfold rUndo; omega)), fun _ => rfl, fun h9 => absurd h9 (by unfold rUndo; omega)⟩ [(A 0), (A 1), (A 2), (A 3), (A 4), (A 5), (A 6), (A 7), (A 8), (A 9), (A 10), (A 11), (A 12), (A 13), (A 14), (A 15), (A 16), (A 17), (A 18), (A 19), (A 20), (A 21), (A 22), (A 23), (A 24), (A 25), (A 26)] rfl rfl


abbrev YX6_restore (l : Launch) (G : Gx) : Sx := (cX6_restore, 1, RX6, wsX6_restore, rmD 3, l, G)
theorem ydX6_restore : ydOk yX6_restore 0 := by decide +kernel
theorem inX6_restore_X6 : ∀ w ∈ wsX60, w ∈ wsX6_restore := fun _ h => List.mem_cons_of_mem _ (List.mem_append_left _ (List.mem_append_left _ (List.mem_append_right _ h)))
set_option maxHeartbeats 1000000 in
set_option maxRecDepth 20000 in
theorem c_X6_restore (l : Launch) (G : Gx) (A : Nat → Nat) (a tt R sn t rs ds ss hs f1 m1 g1 f2 m2 g2 f3 m3 g3 : Int → Int) (o s bb n E P mi1 mi2 mi3 df dq sc : Int) (hI : Inv a) (ho : 0 ≤ o ∧ o < 4) (hq : 0 ≤ s ∧ s ≤ 4) (hbb : 0 ≤ bb ∧ bb ≤ 1) (hn : 0 ≤ n ∧ n ≤ 80) (ht : ∀ j, 0 ≤ t j ∧ t j < 65536) (hsn : ∀ j, 0 ≤ sn j) : Ct l G yX6_restore wsX6_restore (rmD 3) [.ref (A 0)] [((A 0), .inr (6, [.ref (A 1), .ref (A 4), .ref (A 6), .int (zI bb), .ref (A 9), .ref (A 7), .ref (A 14), .ref (A 18), .ref (A 22)])), ((A 1), .inr (0, [.ref (A 2), .ref (A 3)])), ((A 2), aI G 26181 a), ((A 3), aI G 1584 tt), ((A 4), .inr (2, [.ref (A 5), .int (zI o), .int (zI s)])), ((A 5), aI G 104724 R), ((A 6), aI G 26181 sn), ((A 7), .inr (5, [.ref (A 8), .int (zI n)])), ((A 8), aC G 80 t), ((A 9), .inr (3, [.ref (A 7), .ref (A 10), .ref (A 11), .ref (A 12), .ref (A 13), .int (zI E), .int (zI P)])), ((A 10), aI G 16 rs), ((A 11), aI G 16 ds), ((A 12), aI G 16 ss), ((A 13), aI G 16 hs), ((A 14), .inr (4, [.ref (A 15), .ref (A 16), .ref (A 17), .int (zI mi1)])), ((A 15), aI G 48 f1), ((A 16), aI G 48 m1), ((A 17), aZ G 48 g1), ((A 18), .inr (4, [.ref (A 19), .ref (A 20), .ref (A 21), .int (zI mi2)])), ((A 19), aI G 48 f2), ((A 20), aI G 48 m2), ((A 21), aZ G 48 g2), ((A 22), .inr (1, [.ref (A 23), .int (zI df), .int (zI dq), .int (zI sc)])), ((A 23), .inr (4, [.ref (A 24), .ref (A 25), .ref (A 26), .int (zI mi3)])), ((A 24), aI G 48 f3), ((A 25), aI G 48 m3), ((A 26), aZ G 48 g3)] (AcX A G a o s R bb sn t n (cpz sn a 0 0 26181) (oN o s) (sN s) (RN a o s R) bb sn t n (rRest sn a bb)) := by
  refine Ct.intro (cc := cX6_restore) (maxL := 1) (ret := (some .int)) (lo0 := [some (.ref (A 0))]) (by decide +kernel) rfl ⟨rfl, rfl⟩ (Nat.le_of_ble_eq_true rfl) rfl ?_
  intro X F T
  change Fx X (YX6_restore l G) at F
  change V X (YX6_restore l G) 0 0 0 _ _ _
  have hc1 := sumz_nonneg (cpz_nonneg hsn hI.1 0 0 26181) 25344
  have hc2 := sumz_nonneg (cpz_nonneg hsn hI.1 0 0 26181) 25360
  refine V.aload_n (q := 1) F dX6_restore_0 rfl rfl rfl ?_
  refine V.get (q := 4) F 0 3 dX6_restore_1 rfl rfl rfl inX6_restore_X6 (by decide) (List.mem_of_getElem? (i := 1) rfl) rfl ?_
  refine V.if_ne (q := 7) (tgt := 10) F dX6_restore_4 rfl (by decide) (by omega) (fun k4 => ?_) (fun k4 => ?_)
  · refine V.aload_n (q := 11) F dX6_restore_10 rfl rfl rfl ?_
    refine V.get (q := 14) F 0 1 dX6_restore_11 rfl rfl rfl inX6_restore_X6 (by decide) (List.mem_of_getElem? (i := 2) rfl) rfl ?_
    refine V.aload_n (q := 15) F dX6_restore_14 rfl rfl rfl ?_
    refine V.get (q := 18) F 0 0 dX6_restore_15 rfl rfl rfl inX6_restore_X6 (by decide) (List.mem_of_getElem? (i := 3) rfl) rfl ?_
    refine V.callV (q := 21) F [4, 5, 1, 2] 4 dX6_restore_18 rfl (c_X2_remember l G (A 4) (A 5) (A 1) (A 2) (A 3) _ _ _ _ (by omega) (by omega)) gX6_restore_X2_remember rfl rfl ydX2_remember ⟨Nat.le_of_ble_eq_true rfl, Nat.le_of_ble_eq_true rfl⟩ (ci := 2) rfl rfl rfl rfl (Nat.le_of_ble_eq_true rfl) rfl rfl ⟨Nat.zero_le _, Nat.zero_le _⟩ (kkf (st' := []) (ws' := [_, _, _, _, _, _, _, _, _, _, _, _, _, _, _, _, _, _, _, _, _, _, _, _, _, _, _]) rfl rfl ?_)
    refine V.aload_n (q := 22) F dX6_restore_21 rfl rfl rfl ?_
    refine V.get (q := 25) F 0 0 dX6_restore_22 rfl rfl rfl inX6_restore_X6 (by decide) (List.mem_of_getElem? (i := 3) rfl) rfl ?_
    refine V.aload_n (q := 26) F dX6_restore_25 rfl rfl rfl ?_
    refine V.get (q := 29) F 0 2 dX6_restore_26 rfl rfl rfl inX6_restore_X6 (by decide) (List.mem_of_getElem? (i := 4) rfl) rfl ?_
    refine V.iconst (q := 30) F dX6_restore_29 rfl ?_
    refine V.callV (q := 33) F [1, 2, 6] 1 dX6_restore_30 rfl (c_X0_loadFrom l G (A 1) (A 2) (A 3) (A 6) _ _ _ _ (by omega)) gX6_restore_X0_loadFrom rfl rfl ydX0_loadFrom ⟨Nat.le_of_ble_eq_true rfl, Nat.le_of_ble_eq_true rfl⟩ (ci := 0) rfl rfl rfl rfl (Nat.le_of_ble_eq_true rfl) rfl rfl ⟨Nat.zero_le _, Nat.zero_le _⟩ (kkf (st' := []) (ws' := [_, _, _, _, _, _, _, _, _, _, _, _, _, _, _, _, _, _, _, _, _, _, _, _, _, _, _]) rfl rfl ?_)
    refine V.aload_n (q := 34) F dX6_restore_33 rfl rfl rfl ?_
    refine V.get (q := 37) F 0 0 dX6_restore_34 rfl rfl rfl inX6_restore_X6 (by decide) (List.mem_of_getElem? (i := 3) rfl) rfl ?_
    refine V.callV (q := 40) F [1, 2] 1 dX6_restore_37 rfl (c_X0_hoursOfAll l G (A 1) (A 2) (A 3) _ ) gX6_restore_X0_hoursOfAll rfl rfl ydX0_hoursOfAll ⟨Nat.le_of_ble_eq_true rfl, Nat.le_of_ble_eq_true rfl⟩ (ci := 0) rfl rfl rfl rfl (Nat.le_of_ble_eq_true rfl) rfl rfl ⟨Nat.zero_le _, Nat.zero_le _⟩ (kkf (st' := [_]) (ws' := [_, _, _, _, _, _, _, _, _, _, _, _, _, _, _, _, _, _, _, _, _, _, _, _, _, _, _]) rfl rfl ?_)
    exact V.iret F T dX6_restore_40 ⟨⟨(_, _, _, _, _), (_, _, _), (_, _, _), (_, _, _), (_, _, _, _, _, _, _, _)⟩, (iEq (by unfold rRest; omega)), fun h9 => absurd h9 (by unfold rRest; omega), fun _ => rfl⟩ [(A 0), (A 1), (A 2), (A 3), (A 4), (A 5), (A 6), (A 7), (A 8), (A 9), (A 10), (A 11), (A 12), (A 13), (A 14), (A 15), (A 16), (A 17), (A 18), (A 19), (A 20), (A 21), (A 22), (A 23), (A 24), (A 25), (A 26)] rfl rfl
  · refine V.bipush (q := 9) F dX6_restore_7 rfl (by decide) ?_
    exact V.iret F T dX6_restore_9 ⟨⟨(_, _, _, _, _), (_, _, _), (_, _, _), (_, _, _), (_, _, _, _, _, _, _, _)⟩, (iEq (by unfold rRest; omega)), fun _ => rfl, fun h9 => absurd h9 (by unfold rRest; omega)⟩ [(A 0), (A 1), (A 2), (A 3), (A 4), (A 5), (A 6), (A 7), (A 8), (A 9), (A 10), (A 11), (A 12), (A 13), (A 14), (A 15), (A 16), (A 17), (A 18), (A 19), (A 20), (A 21), (A 22), (A 23), (A 24), (A 25), (A 26)] rfl rfl

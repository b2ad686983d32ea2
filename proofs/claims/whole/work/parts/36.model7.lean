/-! the model's acts and reads -/
def WM (hm ms mp mq mt mpa msh mo mtu : Nat) (G : Gx) (sv past : Int → Int) (kn : Int) (sq : Int → Int) (kp : Int) (t : Int → Int) (n : Int) (pa sh ot tu : Int → Int) : va_W := [(hm, .inr (7, [.ref ms, .ref mp, .int (zI kn), .ref mq, .int (zI kp), .ref mt, .int (zI n), .ref mpa, .ref msh, .ref mo, .ref mtu])), (ms, aJ G 7157 sv), (mp, aJ G 28628 past), (mq, aJ G 7157 sq), (mt, aI G 80 t), (mpa, aI G 48 pa), (msh, aI G 48 sh), (mo, aI G 48 ot), (mtu, aI G 16 tu)]
def RdM (hm ms mp mq mt mpa msh mo mtu : Nat) (G : Gx) (sv past : Int → Int) (kn : Int) (sq : Int → Int) (kp : Int) (t : Int → Int) (n res : Int) : Option Value → va_W → Prop := fun r w => ∃ pa sh ot tu : Int → Int, r = some (.int (zI res)) ∧ w = WM hm ms mp mq mt mpa msh mo mtu G sv past kn sq kp t n pa sh ot tu
def AcM (hm ms mp mq mt mpa msh mo mtu : Nat) (G : Gx) (sv past : Int → Int) (kn : Int) (sq : Int → Int) (kp : Int) (t : Int → Int) (n : Int) (Q : (Int → Int) → Prop) (past' : Int → Int) (kn' : Int) (sq' : Int → Int) (kp' : Int) (t' : Int → Int) (n' res : Int) : Option Value → va_W → Prop := fun r w => ∃ sv' pa sh ot tu : Int → Int, r = some (.int (zI res)) ∧ (res < 0 → w = WM hm ms mp mq mt mpa msh mo mtu G sv past kn sq kp t n pa sh ot tu) ∧ (0 ≤ res → Q sv' ∧ w = WM hm ms mp mq mt mpa msh mo mtu G sv' past' kn' sq' kp' t' n' pa sh ot tu)
theorem scrz_le (a : Int → Int) (r : Int) : scrz a r ≤ difz a r := by
  have h := sz_lef (f := fun p => if shr a r p < a (25376 + r * 48 + p) then (1 : Int) else 0) (g := fun p => if a (25376 + r * 48 + p) = shr a r p then (0 : Int) else 1) (a := 0) (b := 48) (fun j _ _ => by
    show (if shr a r j < a (25376 + r * 48 + j) then (1 : Int) else 0) ≤ (if a (25376 + r * 48 + j) = shr a r j then (0 : Int) else 1)
    split <;> split <;> omega)
  have h2 : (if cshz a r < a (26144 + r) then (1 : Int) else 0) ≤ (if a (26144 + r) = cshz a r then (0 : Int) else 1) := by split <;> split <;> omega
  unfold scrz difz
  omega
/-- a turned log as far as a speed and a direction -/
def turnU (a : Int → Int) (r b v i : Int) : Int → Int := fun j => if (r * 1584 ≤ j ∧ j < r * 1584 + 1584) ∧ ((j - r * 1584) % 99 + 1 < v ∨ ((j - r * 1584) % 99 + 1 = v ∧ (j - r * 1584) / 99 < i)) then a (r * 1584 + ((j - r * 1584) / 99 - b) % 16 * 99 + (j - r * 1584) % 99) else a j
theorem turnU_0 (a : Int → Int) (r b : Int) : turnU a r b 1 0 = a := by
  funext j
  exact if_neg (by omega)
theorem turnU_n (a : Int → Int) (r b v : Int) : turnU a r b v 16 = turnU a r b (v + 1) 0 := by
  funext j
  unfold turnU
  by_cases h : (r * 1584 ≤ j ∧ j < r * 1584 + 1584) ∧ ((j - r * 1584) % 99 + 1 < v ∨ ((j - r * 1584) % 99 + 1 = v ∧ (j - r * 1584) / 99 < 16))
  · rw [if_pos h, if_pos (by omega)]
  · rw [if_neg h, if_neg (by omega)]
theorem turnU_e (a : Int → Int) (r b : Int) : turnU a r b 100 0 = turnI a r b 16 := by
  funext j
  unfold turnU turnI
  by_cases h : r * 1584 ≤ j ∧ j < r * 1584 + 1584
  · rw [if_pos (by omega), if_pos (by omega)]
  · rw [if_neg (fun z => h z.1), if_neg (fun z => h z.1)]
theorem turnU_at (a : Int → Int) {r b v i : Int} (hi : 0 ≤ i ∧ i < 16) (hv : 1 ≤ v ∧ v ≤ 99) : turnU a r b v 0 (r * 1584 + i * 99 + v - 1) = a (r * 1584 + i * 99 + v - 1) := if_neg (by omega)
theorem turnU_s (a : Int → Int) {r b v i : Int} (hi : 0 ≤ i ∧ i < 16) (hv : 1 ≤ v ∧ v ≤ 99) : upz (turnU a r b v i) (r * 1584 + i * 99 + v - 1) (a (r * 1584 + (i - b) % 16 * 99 + v - 1)) = turnU a r b v (i + 1) := by
  funext j
  simp only [upz, turnU]
  by_cases hj : j = r * 1584 + i * 99 + v - 1
  · rw [if_pos hj, if_pos (by omega)]
    have e1 : (j - r * 1584) / 99 = i := by omega
    have e2 : (j - r * 1584) % 99 = v - 1 := by omega
    rw [e1, e2]
    exact congrArg a (by omega)
  · rw [if_neg hj]
    by_cases h : (r * 1584 ≤ j ∧ j < r * 1584 + 1584) ∧ ((j - r * 1584) % 99 + 1 < v ∨ ((j - r * 1584) % 99 + 1 = v ∧ (j - r * 1584) / 99 < i))
    · rw [if_pos h, if_pos (by omega)]
    · rw [if_neg h, if_neg (by omega)]
theorem turnU_bnd {a : Int → Int} (h : Bnd a) {r b v i : Int} (hr : 0 ≤ r ∧ r < 16) : Bnd (turnU a r b v i) := by
  intro j h1 h2
  unfold turnU
  split
  · exact h _ (by omega) (by omega)
  · exact h j h1 h2
def tvz (a : Int → Int) (r b v : Int) (tu : Int → Int) (i : Int) : Int → Int := fun k => if (0 ≤ k ∧ k < 16) ∧ (k - b) % 16 < i then a (r * 1584 + (k - b) % 16 * 99 + v - 1) else tu k
theorem tvz_0 (a : Int → Int) (r b v : Int) (tu : Int → Int) : tvz a r b v tu 0 = tu := by
  funext k
  exact if_neg (by omega)
theorem tvz_s (a : Int → Int) {r b v : Int} (tu : Int → Int) {i : Int} (hi : 0 ≤ i ∧ i < 16) (hb : 0 ≤ b ∧ b < 16) : upz (tvz a r b v tu i) ((i + b) % 16) (a (r * 1584 + i * 99 + v - 1)) = tvz a r b v tu (i + 1) := by
  funext k
  simp only [upz, tvz]
  by_cases hk : k = (i + b) % 16
  · rw [if_pos hk, if_pos (by omega)]
    have : (k - b) % 16 = i := by omega
    rw [this]
  · rw [if_neg hk]
    by_cases h : (0 ≤ k ∧ k < 16) ∧ (k - b) % 16 < i
    · rw [if_pos h, if_pos (by omega)]
    · rw [if_neg h, if_neg (by omega)]
theorem cpz_s0 (f g : Int → Int) (s : Int) {i : Int} (hi : 0 ≤ i) : upz (cpz f g s 0 i) i (f (s + i)) = cpz f g s 0 (i + 1) := by
  have e := cpz_s f g (s := s) (d := 0) hi
  rw [Int.zero_add] at e
  exact e

abbrev YX7_log (l : Launch) (G : Gx) : Sx := (cX7_log, 7, RX7, wsX7_log, rmD 4, l, G)
theorem ydX7_log : ydOk yX7_log 5 := by decide +kernel
set_option maxHeartbeats 1000000 in
set_option maxRecDepth 20000 in
theorem c_X7_log (l : Launch) (G : Gx) (hm ms mp mq mt mpa msh mo mtu : Nat) (a sv past sq t pa sh ot tu : Int → Int) (kn kp n p q d v h : Int) (hR : Rel a sv) (hI : Inv a) (hkn : 0 ≤ kn ∧ kn ≤ 4) (hkp : 0 ≤ kp ∧ kp ≤ 1) (hn : 0 ≤ n ∧ n ≤ 80) (ht : ∀ j, 0 ≤ t j ∧ t j < 65536) (hrp : -2147483648 ≤ p ∧ p < 2147483648) (hrq : -2147483648 ≤ q ∧ q < 2147483648) (hrd : -2147483648 ≤ d ∧ d < 2147483648) (hrv : -2147483648 ≤ v ∧ v < 2147483648) (hrh : -2147483648 ≤ h ∧ h < 2147483648) : Ct l G yX7_log wsX7_log (rmD 4) [.ref hm, .int (zI p), .int (zI q), .int (zI d), .int (zI v), .int (zI h)] [(hm, .inr (7, [.ref ms, .ref mp, .int (zI kn), .ref mq, .int (zI kp), .ref mt, .int (zI n), .ref mpa, .ref msh, .ref mo, .ref mtu])), (ms, aJ G 7157 sv), (mp, aJ G 28628 past), (mq, aJ G 7157 sq), (mt, aI G 80 t), (mpa, aI G 48 pa), (msh, aI G 48 sh), (mo, aI G 48 ot), (mtu, aI G 16 tu)] (AcM hm ms mp mq mt mpa msh mo mtu G sv past kn sq kp t n (Rel (addW a (p * 4 + q) d v h)) (PN sv kn past) (sN kn) sq kp t n (rLog a p q d v h)) := by
  refine Ct.intro (cc := cX7_log) (maxL := 7) (ret := (some .int)) (lo0 := [some (.ref hm), some (.int (zI p)), some (.int (zI q)), some (.int (zI d)), some (.int (zI v)), some (.int (zI h)), none]) (by decide +kernel) rfl ⟨rfl, rfl⟩ (Nat.le_of_ble_eq_true rfl) rfl ?_
  intro X F T
  change Fx X (YX7_log l G) at F
  change V X (YX7_log l G) 0 0 0 _ _ _
  have J16 : ∀ (x : Int) (hx : x = if ((0 ≤ p ∧ p ≤ 3) ∧ (0 ≤ q ∧ q ≤ 3)) ∧ (0 ≤ d ∧ d ≤ 15) then p * 4 + q else -1), V X (YX7_log l G) 0 0 16 [some (.ref hm), some (.int (zI p)), some (.int (zI q)), some (.int (zI d)), some (.int (zI v)), some (.int (zI h)), none] [.int (zI x)] [(hm, .inr (7, [.ref ms, .ref mp, .int (zI kn), .ref mq, .int (zI kp), .ref mt, .int (zI n), .ref mpa, .ref msh, .ref mo, .ref mtu])), (ms, aJ G 7157 sv), (mp, aJ G 28628 past), (mq, aJ G 7157 sq), (mt, aI G 80 t), (mpa, aI G 48 pa), (msh, aI G 48 sh), (mo, aI G 48 ot), (mtu, aI G 16 tu)] := by
    intro x hx
    refine V.istore (q := 18) (lo' := [_, _, _, _, _, _, _]) F dX7_log_16 rfl (Nat.le_of_ble_eq_true rfl) rfl rfl ?_
    refine V.iload (q := 20) F dX7_log_18 rfl rfl ?_
    refine V.if_ge (q := 23) (tgt := 25) F dX7_log_20 rfl (by decide) (by omega) (fun k20 => ?_) (fun k20 => ?_)
    · have hx2 : x = p * 4 + q := by omega
      subst hx2
      have hr : 0 ≤ p * 4 + q ∧ p * 4 + q < 16 := by omega
      have hw := hI.w hr
      have hset := hI.s
      have hB := hI.bnd
      have c1 := hR.clm hr
      refine V.iload (q := 27) F dX7_log_25 rfl rfl ?_
      refine V.iconst (q := 28) F dX7_log_27 rfl ?_
      refine V.bipush (q := 30) F dX7_log_28 rfl (by decide) ?_
      refine V.callS (q := 33) F [] dX7_log_30 rfl (c_X7_in l G  _ _ _ (by omega) (by omega) (by omega)) gX7_log_X7_in rfl ydX7_in ⟨Nat.le_of_ble_eq_true rfl, Nat.le_of_ble_eq_true rfl⟩ rfl rfl (Nat.le_of_ble_eq_true rfl) rfl rfl ⟨Nat.zero_le _, Nat.zero_le _⟩ (kkf (st' := [_]) (ws' := [_, _, _, _, _, _, _, _, _]) rfl rfl ?_)
      refine V.if_eq (q := 36) (tgt := 47) F dX7_log_33 rfl (by decide) (by omega) (fun k33 => ?_) (fun k33 => ?_)
      · refine V.bipush (q := 49) F dX7_log_47 rfl (by decide) ?_
        exact V.iret F T dX7_log_49 ⟨sv, _, _, _, _, (iEq (by unfold rLog; omega)), fun _ => rfl, fun h9 => absurd h9 (by unfold rLog; omega)⟩ [hm, ms, mp, mq, mt, mpa, msh, mo, mtu] rfl rfl
      · refine V.iload (q := 38) F dX7_log_36 rfl rfl ?_
        refine V.iconst (q := 39) F dX7_log_38 rfl ?_
        refine V.bipush (q := 41) F dX7_log_39 rfl (by decide) ?_
        refine V.callS (q := 44) F [] dX7_log_41 rfl (c_X7_in l G  _ _ _ (by omega) (by omega) (by omega)) gX7_log_X7_in rfl ydX7_in ⟨Nat.le_of_ble_eq_true rfl, Nat.le_of_ble_eq_true rfl⟩ rfl rfl (Nat.le_of_ble_eq_true rfl) rfl rfl ⟨Nat.zero_le _, Nat.zero_le _⟩ (kkf (st' := [_]) (ws' := [_, _, _, _, _, _, _, _, _]) rfl rfl ?_)
        refine V.if_ne (q := 47) (tgt := 50) F dX7_log_44 rfl (by decide) (by omega) (fun k44 => ?_) (fun k44 => ?_)
        · refine V.aload_n (q := 51) F dX7_log_50 rfl rfl rfl ?_
          refine V.iload (q := 53) F dX7_log_51 rfl rfl ?_
          refine V.callV (q := 56) F [0, 1, 5] 0 dX7_log_53 rfl (c_X7_hoursOf l G hm ms mp mq mt mpa msh mo mtu _ _ _ _ _ _ _ hR hI (by omega)) gX7_log_X7_hoursOf rfl rfl ydX7_hoursOf ⟨Nat.le_of_ble_eq_true rfl, Nat.le_of_ble_eq_true rfl⟩ (ci := 7) rfl rfl rfl rfl (Nat.le_of_ble_eq_true rfl) rfl rfl ⟨Nat.zero_le _, Nat.zero_le _⟩ (kkf (st' := [_]) (ws' := [_, _, _, _, _, _, _, _, _]) rfl rfl ?_)
          refine V.iload (q := 58) F dX7_log_56 rfl rfl ?_
          refine V.iadd (q := 59) F dX7_log_58 rfl ?_
          refine V.sipush (q := 62) F dX7_log_59 rfl (by decide) ?_
          refine V.icmp_le (q := 65) (tgt := 68) F dX7_log_62 rfl (by decide) (by omega) (fun k62 => ?_) (fun k62 => ?_)
          · have hd : 0 ≤ d ∧ d < 16 := by omega
            have hv : 1 ≤ v ∧ v ≤ 99 := by omega
            have hz0 := hI.1 ((p * 4 + q) * 1584 + d * 99 + v - 1)
            have hz1 : a ((p * 4 + q) * 1584 + d * 99 + v - 1) ≤ sz a ((p * 4 + q) * 1584) ((p * 4 + q) * 1584 + 1584) := sz_mem (fun j _ _ => hI.1 j) (by omega) (by omega)
            rw [← (hI.2.1 _ hr.1 hr.2).1] at hz1
            refine V.aload_n (q := 69) F dX7_log_68 rfl rfl rfl ?_
            refine V.callV (q := 72) F [0, 1, 2] 0 dX7_log_69 rfl (c_X7_remembers l G hm ms mp mq mt mpa msh mo mtu _ _ _ _ _ (by omega)) gX7_log_X7_remembers rfl rfl ydX7_remembers ⟨Nat.le_of_ble_eq_true rfl, Nat.le_of_ble_eq_true rfl⟩ (ci := 7) rfl rfl rfl rfl (Nat.le_of_ble_eq_true rfl) rfl rfl ⟨Nat.zero_le _, Nat.zero_le _⟩ (kkf (st' := []) (ws' := [_, _, _, _, _, _, _, _, _]) rfl rfl ?_)
            refine V.aload_n (q := 73) F dX7_log_72 rfl rfl rfl ?_
            refine V.iload (q := 75) F dX7_log_73 rfl rfl ?_
            refine V.iload_n (q := 76) F dX7_log_75 rfl rfl rfl ?_
            refine V.iload (q := 78) F dX7_log_76 rfl rfl ?_
            refine V.aload_n (q := 79) F dX7_log_78 rfl rfl rfl ?_
            refine V.iload (q := 81) F dX7_log_79 rfl rfl ?_
            refine V.iload_n (q := 82) F dX7_log_81 rfl rfl rfl ?_
            refine V.iload (q := 84) F dX7_log_82 rfl rfl ?_
            refine V.callV (q := 87) F [0, 1] 0 dX7_log_84 rfl (c_X7_at l G hm ms mp mq mt mpa msh mo mtu _ _ _ _ _ _ _ _ hR hB (by omega) (by omega) (by omega)) gX7_log_X7_at rfl rfl ydX7_at ⟨Nat.le_of_ble_eq_true rfl, Nat.le_of_ble_eq_true rfl⟩ (ci := 7) rfl rfl rfl rfl (Nat.le_of_ble_eq_true rfl) rfl rfl ⟨Nat.zero_le _, Nat.zero_le _⟩ (kkf (st' := [_, _, _, _, _]) (ws' := [_, _, _, _, _, _, _, _, _]) rfl rfl ?_)
            refine V.iload (q := 89) F dX7_log_87 rfl rfl ?_
            refine V.iadd (q := 90) F dX7_log_89 rfl ?_
            refine V.callV (q := 93) F [0, 1] 0 dX7_log_90 rfl (c_X7_puts l G hm ms mp mq mt mpa msh mo mtu _ _ _ _ _ _ _ _ _ hR hB (by omega) (by omega) (by omega) (by omega)) gX7_log_X7_puts rfl rfl ydX7_puts ⟨Nat.le_of_ble_eq_true rfl, Nat.le_of_ble_eq_true rfl⟩ (ci := 7) rfl rfl rfl rfl (Nat.le_of_ble_eq_true rfl) rfl rfl ⟨Nat.zero_le _, Nat.zero_le _⟩ (fun r9 w9 h9 _ => ?_)
            obtain ⟨sv, rfl, rfl, hR⟩ := h9
            refine V.eq (pc' := 93) (st' := []) (ws' := [_, _, _, _, _, _, _, _, _]) rfl rfl rfl rfl ?_
            have hR9 := Rel.addW (h := h) hr hR
            have hI9 : Inv (addW a (p * 4 + q) d v h) := hI.aW hr hd hv (by omega) (by omega)
            have hA := addW_w (a := a) (h := h) hr hd hv
            refine V.aload_n (q := 94) F dX7_log_93 rfl rfl rfl ?_
            refine V.iload (q := 96) F dX7_log_94 rfl rfl ?_
            refine V.callV (q := 99) F [0, 1, 5] 0 dX7_log_96 rfl (c_X7_hoursOf l G hm ms mp mq mt mpa msh mo mtu (addW a (p * 4 + q) d v h) _ _ _ _ _ _ hR9 hI9 (by omega)) gX7_log_X7_hoursOf rfl rfl ydX7_hoursOf ⟨Nat.le_of_ble_eq_true rfl, Nat.le_of_ble_eq_true rfl⟩ (ci := 7) rfl rfl rfl rfl (Nat.le_of_ble_eq_true rfl) rfl rfl ⟨Nat.zero_le _, Nat.zero_le _⟩ (kkf (st' := [_]) (ws' := [_, _, _, _, _, _, _, _, _]) rfl rfl ?_)
            exact V.iret F T dX7_log_99 ⟨_, _, _, _, _, (iEq (by unfold rLog; omega)), fun h9 => absurd h9 (by unfold rLog; omega), fun _ => ⟨hR9, rfl⟩⟩ [hm, ms, mp, mq, mt, mpa, msh, mo, mtu] rfl rfl
          · refine V.bipush (q := 67) F dX7_log_65 rfl (by decide) ?_
            exact V.iret F T dX7_log_67 ⟨sv, _, _, _, _, (iEq (by unfold rLog; omega)), fun _ => rfl, fun h9 => absurd h9 (by unfold rLog; omega)⟩ [hm, ms, mp, mq, mt, mpa, msh, mo, mtu] rfl rfl
        · refine V.bipush (q := 49) F dX7_log_47 rfl (by decide) ?_
          exact V.iret F T dX7_log_49 ⟨sv, _, _, _, _, (iEq (by unfold rLog; omega)), fun _ => rfl, fun h9 => absurd h9 (by unfold rLog; omega)⟩ [hm, ms, mp, mq, mt, mpa, msh, mo, mtu] rfl rfl
    · refine V.iconst (q := 24) F dX7_log_23 rfl ?_
      exact V.iret F T dX7_log_24 ⟨sv, _, _, _, _, (iEq (by unfold rLog; omega)), fun _ => rfl, fun h9 => absurd h9 (by unfold rLog; omega)⟩ [hm, ms, mp, mq, mt, mpa, msh, mo, mtu] rfl rfl
  refine V.iload_n (q := 1) F dX7_log_0 rfl rfl rfl ?_
  refine V.callS (q := 4) F [] dX7_log_1 rfl (c_X7_isDirection l G  _ (by omega)) gX7_log_X7_isDirection rfl ydX7_isDirection ⟨Nat.le_of_ble_eq_true rfl, Nat.le_of_ble_eq_true rfl⟩ rfl rfl (Nat.le_of_ble_eq_true rfl) rfl rfl ⟨Nat.zero_le _, Nat.zero_le _⟩ (kkf (st' := [_]) (ws' := [_, _, _, _, _, _, _, _, _]) rfl rfl ?_)
  refine V.if_eq (q := 7) (tgt := 15) F dX7_log_4 rfl (by decide) (by omega) (fun k4 => ?_) (fun k4 => ?_)
  · refine V.iconst (q := 16) F dX7_log_15 rfl ?_
    exact J16 _ (by omega)
  · refine V.iload_n (q := 8) F dX7_log_7 rfl rfl rfl ?_
    refine V.iload_n (q := 9) F dX7_log_8 rfl rfl rfl ?_
    refine V.callS (q := 12) F [] dX7_log_9 rfl (c_X7_roseOf l G  _ _ (by omega) (by omega)) gX7_log_X7_roseOf rfl ydX7_roseOf ⟨Nat.le_of_ble_eq_true rfl, Nat.le_of_ble_eq_true rfl⟩ rfl rfl (Nat.le_of_ble_eq_true rfl) rfl rfl ⟨Nat.zero_le _, Nat.zero_le _⟩ (kkf (st' := [_]) (ws' := [_, _, _, _, _, _, _, _, _]) rfl rfl ?_)
    refine V.goto (tgt := 16) F dX7_log_12 (by decide) ?_
    exact J16 _ (by omega)

abbrev YX7_calm (l : Launch) (G : Gx) : Sx := (cX7_calm, 5, RX7, wsX7_calm, rmD 4, l, G)
theorem ydX7_calm : ydOk yX7_calm 3 := by decide +kernel
theorem inX7_calm_X7 : ∀ w ∈ wsX70, w ∈ wsX7_calm := fun _ h => List.mem_cons_of_mem _ (List.mem_append_right _ h)
set_option maxHeartbeats 1000000 in
set_option maxRecDepth 20000 in
theorem c_X7_calm (l : Launch) (G : Gx) (hm ms mp mq mt mpa msh mo mtu : Nat) (a sv past sq t pa sh ot tu : Int → Int) (kn kp n p q h : Int) (hR : Rel a sv) (hI : Inv a) (hkn : 0 ≤ kn ∧ kn ≤ 4) (hkp : 0 ≤ kp ∧ kp ≤ 1) (hn : 0 ≤ n ∧ n ≤ 80) (ht : ∀ j, 0 ≤ t j ∧ t j < 65536) (hrp : -2147483648 ≤ p ∧ p < 2147483648) (hrq : -2147483648 ≤ q ∧ q < 2147483648) (hrh : -2147483648 ≤ h ∧ h < 2147483648) : Ct l G yX7_calm wsX7_calm (rmD 4) [.ref hm, .int (zI p), .int (zI q), .int (zI h)] [(hm, .inr (7, [.ref ms, .ref mp, .int (zI kn), .ref mq, .int (zI kp), .ref mt, .int (zI n), .ref mpa, .ref msh, .ref mo, .ref mtu])), (ms, aJ G 7157 sv), (mp, aJ G 28628 past), (mq, aJ G 7157 sq), (mt, aI G 80 t), (mpa, aI G 48 pa), (msh, aI G 48 sh), (mo, aI G 48 ot), (mtu, aI G 16 tu)] (AcM hm ms mp mq mt mpa msh mo mtu G sv past kn sq kp t n (Rel (upz a (25360 + (p * 4 + q)) (a (25360 + (p * 4 + q)) + h))) (PN sv kn past) (sN kn) sq kp t n (rCalm a p q h)) := by
  refine Ct.intro (cc := cX7_calm) (maxL := 5) (ret := (some .int)) (lo0 := [some (.ref hm), some (.int (zI p)), some (.int (zI q)), some (.int (zI h)), none]) (by decide +kernel) rfl ⟨rfl, rfl⟩ (Nat.le_of_ble_eq_true rfl) rfl ?_
  intro X F T
  change Fx X (YX7_calm l G) at F
  change V X (YX7_calm l G) 0 0 0 _ _ _
  have J5 : ∀ (x : Int) (hx : x = if (0 ≤ p ∧ p ≤ 3) ∧ (0 ≤ q ∧ q ≤ 3) then p * 4 + q else -1), V X (YX7_calm l G) 0 0 5 [some (.ref hm), some (.int (zI p)), some (.int (zI q)), some (.int (zI h)), none] [.int (zI x)] [(hm, .inr (7, [.ref ms, .ref mp, .int (zI kn), .ref mq, .int (zI kp), .ref mt, .int (zI n), .ref mpa, .ref msh, .ref mo, .ref mtu])), (ms, aJ G 7157 sv), (mp, aJ G 28628 past), (mq, aJ G 7157 sq), (mt, aI G 80 t), (mpa, aI G 48 pa), (msh, aI G 48 sh), (mo, aI G 48 ot), (mtu, aI G 16 tu)] := by
    intro x hx
    refine V.istore (q := 7) (lo' := [_, _, _, _, _]) F dX7_calm_5 rfl (Nat.le_of_ble_eq_true rfl) rfl rfl ?_
    refine V.iload (q := 9) F dX7_calm_7 rfl rfl ?_
    refine V.if_ge (q := 12) (tgt := 14) F dX7_calm_9 rfl (by decide) (by omega) (fun k9 => ?_) (fun k9 => ?_)
    · have hx2 : x = p * 4 + q := by omega
      subst hx2
      have hr : 0 ≤ p * 4 + q ∧ p * 4 + q < 16 := by omega
      have hw := hI.w hr
      have hset := hI.s
      have hB := hI.bnd
      have c1 := hR.clm hr
      refine V.iload_n (q := 15) F dX7_calm_14 rfl rfl rfl ?_
      refine V.iconst (q := 16) F dX7_calm_15 rfl ?_
      refine V.bipush (q := 18) F dX7_calm_16 rfl (by decide) ?_
      refine V.callS (q := 21) F [] dX7_calm_18 rfl (c_X7_in l G  _ _ _ (by omega) (by omega) (by omega)) gX7_calm_X7_in rfl ydX7_in ⟨Nat.le_of_ble_eq_true rfl, Nat.le_of_ble_eq_true rfl⟩ rfl rfl (Nat.le_of_ble_eq_true rfl) rfl rfl ⟨Nat.zero_le _, Nat.zero_le _⟩ (kkf (st' := [_]) (ws' := [_, _, _, _, _, _, _, _, _]) rfl rfl ?_)
      refine V.if_ne (q := 24) (tgt := 27) F dX7_calm_21 rfl (by decide) (by omega) (fun k21 => ?_) (fun k21 => ?_)
      · refine V.aload_n (q := 28) F dX7_calm_27 rfl rfl rfl ?_
        refine V.iload (q := 30) F dX7_calm_28 rfl rfl ?_
        refine V.callV (q := 33) F [0, 1, 5] 0 dX7_calm_30 rfl (c_X7_hoursOf l G hm ms mp mq mt mpa msh mo mtu _ _ _ _ _ _ _ hR hI (by omega)) gX7_calm_X7_hoursOf rfl rfl ydX7_hoursOf ⟨Nat.le_of_ble_eq_true rfl, Nat.le_of_ble_eq_true rfl⟩ (ci := 7) rfl rfl rfl rfl (Nat.le_of_ble_eq_true rfl) rfl rfl ⟨Nat.zero_le _, Nat.zero_le _⟩ (kkf (st' := [_]) (ws' := [_, _, _, _, _, _, _, _, _]) rfl rfl ?_)
        refine V.iload_n (q := 34) F dX7_calm_33 rfl rfl rfl ?_
        refine V.iadd (q := 35) F dX7_calm_34 rfl ?_
        refine V.sipush (q := 38) F dX7_calm_35 rfl (by decide) ?_
        refine V.icmp_le (q := 41) (tgt := 44) F dX7_calm_38 rfl (by decide) (by omega) (fun k38 => ?_) (fun k38 => ?_)
        · refine V.aload_n (q := 45) F dX7_calm_44 rfl rfl rfl ?_
          refine V.callV (q := 48) F [0, 1, 2] 0 dX7_calm_45 rfl (c_X7_remembers l G hm ms mp mq mt mpa msh mo mtu _ _ _ _ _ (by omega)) gX7_calm_X7_remembers rfl rfl ydX7_remembers ⟨Nat.le_of_ble_eq_true rfl, Nat.le_of_ble_eq_true rfl⟩ (ci := 7) rfl rfl rfl rfl (Nat.le_of_ble_eq_true rfl) rfl rfl ⟨Nat.zero_le _, Nat.zero_le _⟩ (kkf (st' := []) (ws' := [_, _, _, _, _, _, _, _, _]) rfl rfl ?_)
          refine V.aload_n (q := 49) F dX7_calm_48 rfl rfl rfl ?_
          refine V.get (q := 52) F 0 0 dX7_calm_49 rfl rfl rfl inX7_calm_X7 (by decide) (List.mem_of_getElem? (i := 1) rfl) rfl ?_
          refine V.sipush (q := 55) F dX7_calm_52 rfl (by decide) ?_
          refine V.iload (q := 57) F dX7_calm_55 rfl rfl ?_
          refine V.iadd (q := 58) F dX7_calm_57 rfl ?_
          refine V.dup2 (q := 59) F dX7_calm_58 rfl rfl rfl ?_
          refine V.lald (q := 60) F 1 dX7_calm_59 rfl rfl (by decide) (by omega) ?_
          refine V.iload_n (q := 61) F dX7_calm_60 rfl rfl rfl ?_
          refine V.i2l (q := 62) F dX7_calm_61 rfl (by omega) ?_
          refine V.ladd (q := 63) F dX7_calm_62 rfl ?_
          refine V.last (q := 64) (ws' := [_, _, _, _, _, _, _, _, _]) F 1 dX7_calm_63 rfl rfl (by decide) (by omega) rfl ?_
          have hR9 : Rel (upz a (25360 + (p * 4 + q)) (a (25360 + (p * 4 + q)) + h)) (upz sv (6336 + (p * 4 + q)) (sv (6336 + (p * 4 + q)) + h)) := by
            have e := hR.put (k := 6336 + (p * 4 + q)) (v := a (25360 + (p * 4 + q)) + h) (by omega)
            rw [show 6336 + (p * 4 + q) + 19024 = 25360 + (p * 4 + q) by omega] at e
            rw [c1]
            exact e
          have hI9 : Inv (upz a (25360 + (p * 4 + q)) (a (25360 + (p * 4 + q)) + h)) := hI.calm hr (by omega) (by omega)
          have hA1 : upz a (25360 + (p * 4 + q)) (a (25360 + (p * 4 + q)) + h) (25344 + (p * 4 + q)) = a (25344 + (p * 4 + q)) := upz_ne _ _ _ (by omega)
          have hA2 : upz a (25360 + (p * 4 + q)) (a (25360 + (p * 4 + q)) + h) (25360 + (p * 4 + q)) = a (25360 + (p * 4 + q)) + h := upz_eq _ _ _
          refine V.aload_n (q := 65) F dX7_calm_64 rfl rfl rfl ?_
          refine V.iload (q := 67) F dX7_calm_65 rfl rfl ?_
          refine V.callV (q := 70) F [0, 1, 5] 0 dX7_calm_67 rfl (c_X7_hoursOf l G hm ms mp mq mt mpa msh mo mtu (upz a (25360 + (p * 4 + q)) (a (25360 + (p * 4 + q)) + h)) _ _ _ _ _ _ hR9 hI9 (by omega)) gX7_calm_X7_hoursOf rfl rfl ydX7_hoursOf ⟨Nat.le_of_ble_eq_true rfl, Nat.le_of_ble_eq_true rfl⟩ (ci := 7) rfl rfl rfl rfl (Nat.le_of_ble_eq_true rfl) rfl rfl ⟨Nat.zero_le _, Nat.zero_le _⟩ (kkf (st' := [_]) (ws' := [_, _, _, _, _, _, _, _, _]) rfl rfl ?_)
          exact V.iret F T dX7_calm_70 ⟨_, _, _, _, _, (iEq (by unfold rCalm; omega)), fun h9 => absurd h9 (by unfold rCalm; omega), fun _ => ⟨hR9, rfl⟩⟩ [hm, ms, mp, mq, mt, mpa, msh, mo, mtu] rfl rfl
        · refine V.bipush (q := 43) F dX7_calm_41 rfl (by decide) ?_
          exact V.iret F T dX7_calm_43 ⟨sv, _, _, _, _, (iEq (by unfold rCalm; omega)), fun _ => rfl, fun h9 => absurd h9 (by unfold rCalm; omega)⟩ [hm, ms, mp, mq, mt, mpa, msh, mo, mtu] rfl rfl
      · refine V.bipush (q := 26) F dX7_calm_24 rfl (by decide) ?_
        exact V.iret F T dX7_calm_26 ⟨sv, _, _, _, _, (iEq (by unfold rCalm; omega)), fun _ => rfl, fun h9 => absurd h9 (by unfold rCalm; omega)⟩ [hm, ms, mp, mq, mt, mpa, msh, mo, mtu] rfl rfl
    · refine V.iconst (q := 13) F dX7_calm_12 rfl ?_
      exact V.iret F T dX7_calm_13 ⟨sv, _, _, _, _, (iEq (by unfold rCalm; omega)), fun _ => rfl, fun h9 => absurd h9 (by unfold rCalm; omega)⟩ [hm, ms, mp, mq, mt, mpa, msh, mo, mtu] rfl rfl
  refine V.iload_n (q := 1) F dX7_calm_0 rfl rfl rfl ?_
  refine V.iload_n (q := 2) F dX7_calm_1 rfl rfl rfl ?_
  refine V.callS (q := 5) F [] dX7_calm_2 rfl (c_X7_roseOf l G  _ _ (by omega) (by omega)) gX7_calm_X7_roseOf rfl ydX7_roseOf ⟨Nat.le_of_ble_eq_true rfl, Nat.le_of_ble_eq_true rfl⟩ rfl rfl (Nat.le_of_ble_eq_true rfl) rfl rfl ⟨Nat.zero_le _, Nat.zero_le _⟩ (kkf (st' := [_]) (ws' := [_, _, _, _, _, _, _, _, _]) rfl rfl ?_)
  exact J5 _ (by omega)

abbrev YX7_strike (l : Launch) (G : Gx) : Sx := (cX7_strike, 7, RX7, wsX7_strike, rmD 3, l, G)
theorem ydX7_strike : ydOk yX7_strike 4 := by decide +kernel
set_option maxHeartbeats 1000000 in
set_option maxRecDepth 20000 in
theorem c_X7_strike (l : Launch) (G : Gx) (hm ms mp mq mt mpa msh mo mtu : Nat) (a sv past sq t pa sh ot tu : Int → Int) (kn kp n p q d v : Int) (hR : Rel a sv) (hI : Inv a) (hkn : 0 ≤ kn ∧ kn ≤ 4) (hkp : 0 ≤ kp ∧ kp ≤ 1) (hn : 0 ≤ n ∧ n ≤ 80) (ht : ∀ j, 0 ≤ t j ∧ t j < 65536) (hrp : -2147483648 ≤ p ∧ p < 2147483648) (hrq : -2147483648 ≤ q ∧ q < 2147483648) (hrd : -2147483648 ≤ d ∧ d < 2147483648) (hrv : -2147483648 ≤ v ∧ v < 2147483648) : Ct l G yX7_strike wsX7_strike (rmD 3) [.ref hm, .int (zI p), .int (zI q), .int (zI d), .int (zI v)] [(hm, .inr (7, [.ref ms, .ref mp, .int (zI kn), .ref mq, .int (zI kp), .ref mt, .int (zI n), .ref mpa, .ref msh, .ref mo, .ref mtu])), (ms, aJ G 7157 sv), (mp, aJ G 28628 past), (mq, aJ G 7157 sq), (mt, aI G 80 t), (mpa, aI G 48 pa), (msh, aI G 48 sh), (mo, aI G 48 ot), (mtu, aI G 16 tu)] (AcM hm ms mp mq mt mpa msh mo mtu G sv past kn sq kp t n (Rel (addW a (p * 4 + q) d v (-(a ((p * 4 + q) * 1584 + d * 99 + v - 1))))) (PN sv kn past) (sN kn) sq kp t n (rStrike a p q d v)) := by
  refine Ct.intro (cc := cX7_strike) (maxL := 7) (ret := (some .int)) (lo0 := [some (.ref hm), some (.int (zI p)), some (.int (zI q)), some (.int (zI d)), some (.int (zI v)), none, none]) (by decide +kernel) rfl ⟨rfl, rfl⟩ (Nat.le_of_ble_eq_true rfl) rfl ?_
  intro X F T
  change Fx X (YX7_strike l G) at F
  change V X (YX7_strike l G) 0 0 0 _ _ _
  have J16 : ∀ (x : Int) (hx : x = if ((0 ≤ p ∧ p ≤ 3) ∧ (0 ≤ q ∧ q ≤ 3)) ∧ (0 ≤ d ∧ d ≤ 15) then p * 4 + q else -1), V X (YX7_strike l G) 0 0 16 [some (.ref hm), some (.int (zI p)), some (.int (zI q)), some (.int (zI d)), some (.int (zI v)), none, none] [.int (zI x)] [(hm, .inr (7, [.ref ms, .ref mp, .int (zI kn), .ref mq, .int (zI kp), .ref mt, .int (zI n), .ref mpa, .ref msh, .ref mo, .ref mtu])), (ms, aJ G 7157 sv), (mp, aJ G 28628 past), (mq, aJ G 7157 sq), (mt, aI G 80 t), (mpa, aI G 48 pa), (msh, aI G 48 sh), (mo, aI G 48 ot), (mtu, aI G 16 tu)] := by
    intro x hx
    refine V.istore (q := 18) (lo' := [_, _, _, _, _, _, _]) F dX7_strike_16 rfl (Nat.le_of_ble_eq_true rfl) rfl rfl ?_
    refine V.iload (q := 20) F dX7_strike_18 rfl rfl ?_
    refine V.if_ge (q := 23) (tgt := 25) F dX7_strike_20 rfl (by decide) (by omega) (fun k20 => ?_) (fun k20 => ?_)
    · have hx2 : x = p * 4 + q := by omega
      subst hx2
      have hr : 0 ≤ p * 4 + q ∧ p * 4 + q < 16 := by omega
      have hw := hI.w hr
      have hset := hI.s
      have hB := hI.bnd
      have c1 := hR.clm hr
      refine V.iload (q := 27) F dX7_strike_25 rfl rfl ?_
      refine V.iconst (q := 28) F dX7_strike_27 rfl ?_
      refine V.bipush (q := 30) F dX7_strike_28 rfl (by decide) ?_
      refine V.callS (q := 33) F [] dX7_strike_30 rfl (c_X7_in l G  _ _ _ (by omega) (by omega) (by omega)) gX7_strike_X7_in rfl ydX7_in ⟨Nat.le_of_ble_eq_true rfl, Nat.le_of_ble_eq_true rfl⟩ rfl rfl (Nat.le_of_ble_eq_true rfl) rfl rfl ⟨Nat.zero_le _, Nat.zero_le _⟩ (kkf (st' := [_]) (ws' := [_, _, _, _, _, _, _, _, _]) rfl rfl ?_)
      refine V.if_ne (q := 36) (tgt := 39) F dX7_strike_33 rfl (by decide) (by omega) (fun k33 => ?_) (fun k33 => ?_)
      · have hd : 0 ≤ d ∧ d < 16 := by omega
        have hv : 1 ≤ v ∧ v ≤ 99 := by omega
        have hz0 := hI.1 ((p * 4 + q) * 1584 + d * 99 + v - 1)
        have hz1 : a ((p * 4 + q) * 1584 + d * 99 + v - 1) ≤ sz a ((p * 4 + q) * 1584) ((p * 4 + q) * 1584 + 1584) := sz_mem (fun j _ _ => hI.1 j) (by omega) (by omega)
        rw [← (hI.2.1 _ hr.1 hr.2).1] at hz1
        refine V.aload_n (q := 40) F dX7_strike_39 rfl rfl rfl ?_
        refine V.iload (q := 42) F dX7_strike_40 rfl rfl ?_
        refine V.iload_n (q := 43) F dX7_strike_42 rfl rfl rfl ?_
        refine V.iload (q := 45) F dX7_strike_43 rfl rfl ?_
        refine V.callV (q := 48) F [0, 1] 0 dX7_strike_45 rfl (c_X7_at l G hm ms mp mq mt mpa msh mo mtu _ _ _ _ _ _ _ _ hR hB (by omega) (by omega) (by omega)) gX7_strike_X7_at rfl rfl ydX7_at ⟨Nat.le_of_ble_eq_true rfl, Nat.le_of_ble_eq_true rfl⟩ (ci := 7) rfl rfl rfl rfl (Nat.le_of_ble_eq_true rfl) rfl rfl ⟨Nat.zero_le _, Nat.zero_le _⟩ (kkf (st' := [_]) (ws' := [_, _, _, _, _, _, _, _, _]) rfl rfl ?_)
        refine V.istore (q := 50) (lo' := [_, _, _, _, _, _, _]) F dX7_strike_48 rfl (Nat.le_of_ble_eq_true rfl) rfl rfl ?_
        refine V.iload (q := 52) F dX7_strike_50 rfl rfl ?_
        refine V.if_ne (q := 55) (tgt := 58) F dX7_strike_52 rfl (by decide) (by omega) (fun k52 => ?_) (fun k52 => ?_)
        · refine V.aload_n (q := 59) F dX7_strike_58 rfl rfl rfl ?_
          refine V.callV (q := 62) F [0, 1, 2] 0 dX7_strike_59 rfl (c_X7_remembers l G hm ms mp mq mt mpa msh mo mtu _ _ _ _ _ (by omega)) gX7_strike_X7_remembers rfl rfl ydX7_remembers ⟨Nat.le_of_ble_eq_true rfl, Nat.le_of_ble_eq_true rfl⟩ (ci := 7) rfl rfl rfl rfl (Nat.le_of_ble_eq_true rfl) rfl rfl ⟨Nat.zero_le _, Nat.zero_le _⟩ (kkf (st' := []) (ws' := [_, _, _, _, _, _, _, _, _]) rfl rfl ?_)
          refine V.aload_n (q := 63) F dX7_strike_62 rfl rfl rfl ?_
          refine V.iload (q := 65) F dX7_strike_63 rfl rfl ?_
          refine V.iload_n (q := 66) F dX7_strike_65 rfl rfl rfl ?_
          refine V.iload (q := 68) F dX7_strike_66 rfl rfl ?_
          refine V.iconst (q := 69) F dX7_strike_68 rfl ?_
          refine V.callV (q := 72) F [0, 1] 0 dX7_strike_69 rfl (c_X7_puts l G hm ms mp mq mt mpa msh mo mtu _ _ _ _ _ _ _ _ _ hR hB (by omega) (by omega) (by omega) (by omega)) gX7_strike_X7_puts rfl rfl ydX7_puts ⟨Nat.le_of_ble_eq_true rfl, Nat.le_of_ble_eq_true rfl⟩ (ci := 7) rfl rfl rfl rfl (Nat.le_of_ble_eq_true rfl) rfl rfl ⟨Nat.zero_le _, Nat.zero_le _⟩ (fun r9 w9 h9 _ => ?_)
          obtain ⟨sv, rfl, rfl, hR⟩ := h9
          refine V.eq (pc' := 72) (st' := []) (ws' := [_, _, _, _, _, _, _, _, _]) rfl rfl rfl rfl ?_
          have hR9 : Rel (addW a (p * 4 + q) d v (-(a ((p * 4 + q) * 1584 + d * 99 + v - 1)))) sv := by
            refine Rel.addW hr ?_
            rw [show a ((p * 4 + q) * 1584 + d * 99 + v - 1) + -(a ((p * 4 + q) * 1584 + d * 99 + v - 1)) = 0 by omega]
            exact hR
          refine V.iload (q := 74) F dX7_strike_72 rfl rfl ?_
          exact V.iret F T dX7_strike_74 ⟨_, _, _, _, _, (iEq (by unfold rStrike; omega)), fun h9 => absurd h9 (by unfold rStrike; omega), fun _ => ⟨hR9, rfl⟩⟩ [hm, ms, mp, mq, mt, mpa, msh, mo, mtu] rfl rfl
        · refine V.bipush (q := 57) F dX7_strike_55 rfl (by decide) ?_
          exact V.iret F T dX7_strike_57 ⟨sv, _, _, _, _, (iEq (by unfold rStrike; omega)), fun _ => rfl, fun h9 => absurd h9 (by unfold rStrike; omega)⟩ [hm, ms, mp, mq, mt, mpa, msh, mo, mtu] rfl rfl
      · refine V.bipush (q := 38) F dX7_strike_36 rfl (by decide) ?_
        exact V.iret F T dX7_strike_38 ⟨sv, _, _, _, _, (iEq (by unfold rStrike; omega)), fun _ => rfl, fun h9 => absurd h9 (by unfold rStrike; omega)⟩ [hm, ms, mp, mq, mt, mpa, msh, mo, mtu] rfl rfl
    · refine V.iconst (q := 24) F dX7_strike_23 rfl ?_
      exact V.iret F T dX7_strike_24 ⟨sv, _, _, _, _, (iEq (by unfold rStrike; omega)), fun _ => rfl, fun h9 => absurd h9 (by unfold rStrike; omega)⟩ [hm, ms, mp, mq, mt, mpa, msh, mo, mtu] rfl rfl
  refine V.iload_n (q := 1) F dX7_strike_0 rfl rfl rfl ?_
  refine V.callS (q := 4) F [] dX7_strike_1 rfl (c_X7_isDirection l G  _ (by omega)) gX7_strike_X7_isDirection rfl ydX7_isDirection ⟨Nat.le_of_ble_eq_true rfl, Nat.le_of_ble_eq_true rfl⟩ rfl rfl (Nat.le_of_ble_eq_true rfl) rfl rfl ⟨Nat.zero_le _, Nat.zero_le _⟩ (kkf (st' := [_]) (ws' := [_, _, _, _, _, _, _, _, _]) rfl rfl ?_)
  refine V.if_eq (q := 7) (tgt := 15) F dX7_strike_4 rfl (by decide) (by omega) (fun k4 => ?_) (fun k4 => ?_)
  · refine V.iconst (q := 16) F dX7_strike_15 rfl ?_
    exact J16 _ (by omega)
  · refine V.iload_n (q := 8) F dX7_strike_7 rfl rfl rfl ?_
    refine V.iload_n (q := 9) F dX7_strike_8 rfl rfl rfl ?_
    refine V.callS (q := 12) F [] dX7_strike_9 rfl (c_X7_roseOf l G  _ _ (by omega) (by omega)) gX7_strike_X7_roseOf rfl ydX7_roseOf ⟨Nat.le_of_ble_eq_true rfl, Nat.le_of_ble_eq_true rfl⟩ rfl rfl (Nat.le_of_ble_eq_true rfl) rfl rfl ⟨Nat.zero_le _, Nat.zero_le _⟩ (kkf (st' := [_]) (ws' := [_, _, _, _, _, _, _, _, _]) rfl rfl ?_)
    refine V.goto (tgt := 16) F dX7_strike_12 (by decide) ?_
    exact J16 _ (by omega)

abbrev YX7_turn (l : Launch) (G : Gx) : Sx := (cX7_turn, 8, RX7, wsX7_turn, rmD 3, l, G)
theorem ydX7_turn : ydOk yX7_turn 3 := by decide +kernel
theorem inX7_turn_X7 : ∀ w ∈ wsX70, w ∈ wsX7_turn := fun _ h => List.mem_cons_of_mem _ (List.mem_append_right _ h)
set_option maxHeartbeats 1000000 in
set_option maxRecDepth 20000 in
theorem c_X7_turn (l : Launch) (G : Gx) (hm ms mp mq mt mpa msh mo mtu : Nat) (a sv past sq t pa sh ot tu : Int → Int) (kn kp n p q b : Int) (hR : Rel a sv) (hI : Inv a) (hkn : 0 ≤ kn ∧ kn ≤ 4) (hkp : 0 ≤ kp ∧ kp ≤ 1) (hn : 0 ≤ n ∧ n ≤ 80) (ht : ∀ j, 0 ≤ t j ∧ t j < 65536) (hrp : -2147483648 ≤ p ∧ p < 2147483648) (hrq : -2147483648 ≤ q ∧ q < 2147483648) (hrb : -2147483648 ≤ b ∧ b < 2147483648) : Ct l G yX7_turn wsX7_turn (rmD 3) [.ref hm, .int (zI p), .int (zI q), .int (zI b)] [(hm, .inr (7, [.ref ms, .ref mp, .int (zI kn), .ref mq, .int (zI kp), .ref mt, .int (zI n), .ref mpa, .ref msh, .ref mo, .ref mtu])), (ms, aJ G 7157 sv), (mp, aJ G 28628 past), (mq, aJ G 7157 sq), (mt, aI G 80 t), (mpa, aI G 48 pa), (msh, aI G 48 sh), (mo, aI G 48 ot), (mtu, aI G 16 tu)] (AcM hm ms mp mq mt mpa msh mo mtu G sv past kn sq kp t n (Rel (turnI a (p * 4 + q) b 16)) (PN sv kn past) (sN kn) sq kp t n (rTurn a p q b)) := by
  refine Ct.intro (cc := cX7_turn) (maxL := 8) (ret := (some .int)) (lo0 := [some (.ref hm), some (.int (zI p)), some (.int (zI q)), some (.int (zI b)), none, none, none, none]) (by decide +kernel) rfl ⟨rfl, rfl⟩ (Nat.le_of_ble_eq_true rfl) rfl ?_
  intro X F T
  change Fx X (YX7_turn l G) at F
  change V X (YX7_turn l G) 0 0 0 _ _ _
  have J5 : ∀ (x : Int) (hx : x = if (0 ≤ p ∧ p ≤ 3) ∧ (0 ≤ q ∧ q ≤ 3) then p * 4 + q else -1), V X (YX7_turn l G) 0 0 5 [some (.ref hm), some (.int (zI p)), some (.int (zI q)), some (.int (zI b)), none, none, none, none] [.int (zI x)] [(hm, .inr (7, [.ref ms, .ref mp, .int (zI kn), .ref mq, .int (zI kp), .ref mt, .int (zI n), .ref mpa, .ref msh, .ref mo, .ref mtu])), (ms, aJ G 7157 sv), (mp, aJ G 28628 past), (mq, aJ G 7157 sq), (mt, aI G 80 t), (mpa, aI G 48 pa), (msh, aI G 48 sh), (mo, aI G 48 ot), (mtu, aI G 16 tu)] := by
    intro x hx
    refine V.istore (q := 7) (lo' := [_, _, _, _, _, _, _, _]) F dX7_turn_5 rfl (Nat.le_of_ble_eq_true rfl) rfl rfl ?_
    refine V.iload (q := 9) F dX7_turn_7 rfl rfl ?_
    refine V.if_ge (q := 12) (tgt := 14) F dX7_turn_9 rfl (by decide) (by omega) (fun k9 => ?_) (fun k9 => ?_)
    · have hx2 : x = p * 4 + q := by omega
      subst hx2
      have hr : 0 ≤ p * 4 + q ∧ p * 4 + q < 16 := by omega
      have hw := hI.w hr
      have hset := hI.s
      have hB := hI.bnd
      have c1 := hR.clm hr
      refine V.iload_n (q := 15) F dX7_turn_14 rfl rfl rfl ?_
      refine V.iconst (q := 16) F dX7_turn_15 rfl ?_
      refine V.bipush (q := 18) F dX7_turn_16 rfl (by decide) ?_
      refine V.callS (q := 21) F [] dX7_turn_18 rfl (c_X7_in l G  _ _ _ (by omega) (by omega) (by omega)) gX7_turn_X7_in rfl ydX7_in ⟨Nat.le_of_ble_eq_true rfl, Nat.le_of_ble_eq_true rfl⟩ rfl rfl (Nat.le_of_ble_eq_true rfl) rfl rfl ⟨Nat.zero_le _, Nat.zero_le _⟩ (kkf (st' := [_]) (ws' := [_, _, _, _, _, _, _, _, _]) rfl rfl ?_)
      refine V.if_ne (q := 24) (tgt := 27) F dX7_turn_21 rfl (by decide) (by omega) (fun k21 => ?_) (fun k21 => ?_)
      · refine V.aload_n (q := 28) F dX7_turn_27 rfl rfl rfl ?_
        refine V.iload (q := 30) F dX7_turn_28 rfl rfl ?_
        refine V.callV (q := 33) F [0, 1, 5] 0 dX7_turn_30 rfl (c_X7_looks l G hm ms mp mq mt mpa msh mo mtu _ _ _ _ _ _ _ hR hI (by omega)) gX7_turn_X7_looks rfl rfl ydX7_looks ⟨Nat.le_of_ble_eq_true rfl, Nat.le_of_ble_eq_true rfl⟩ (ci := 7) rfl rfl rfl rfl (Nat.le_of_ble_eq_true rfl) rfl rfl ⟨Nat.zero_le _, Nat.zero_le _⟩ (kkf (st' := [_]) (ws' := [_, _, _, _, _, _, _, _, _]) rfl rfl ?_)
        refine V.istore (q := 35) (lo' := [_, _, _, _, _, _, _, _]) F dX7_turn_33 rfl (Nat.le_of_ble_eq_true rfl) rfl rfl ?_
        refine V.iload (q := 37) F dX7_turn_35 rfl rfl ?_
        refine V.if_ne (q := 40) (tgt := 43) F dX7_turn_37 rfl (by decide) (by omega) (fun k37 => ?_) (fun k37 => ?_)
        · refine V.aload_n (q := 44) F dX7_turn_43 rfl rfl rfl ?_
          refine V.callV (q := 47) F [0, 1, 2] 0 dX7_turn_44 rfl (c_X7_remembers l G hm ms mp mq mt mpa msh mo mtu _ _ _ _ _ (by omega)) gX7_turn_X7_remembers rfl rfl ydX7_remembers ⟨Nat.le_of_ble_eq_true rfl, Nat.le_of_ble_eq_true rfl⟩ (ci := 7) rfl rfl rfl rfl (Nat.le_of_ble_eq_true rfl) rfl rfl ⟨Nat.zero_le _, Nat.zero_le _⟩ (kkf (st' := []) (ws' := [_, _, _, _, _, _, _, _, _]) rfl rfl ?_)
          refine V.iconst (q := 48) F dX7_turn_47 rfl ?_
          refine V.istore (q := 50) (lo' := [_, _, _, _, _, _, _, _]) F dX7_turn_48 rfl (Nat.le_of_ble_eq_true rfl) rfl rfl ?_
          have L50 : ∀ (nq : Nat) (v : Int) (sv2 tu2 : Int → Int) (hv : 1 ≤ v ∧ v ≤ 100) (hR2 : Rel (turnU a (p * 4 + q) b v 0) sv2), (100 - v).toNat < nq → V X (YX7_turn l G) 0 0 50 [some (.ref hm), some (.int (zI p)), some (.int (zI q)), some (.int (zI b)), some (.int (zI (p * 4 + q))), some (.int (zI (a (25344 + (p * 4 + q))))), some (.int (zI v)), none] [] [(hm, .inr (7, [.ref ms, .ref mp, .int (zI (sN kn)), .ref mq, .int (zI kp), .ref mt, .int (zI n), .ref mpa, .ref msh, .ref mo, .ref mtu])), (ms, aJ G 7157 sv2), (mp, aJ G 28628 (PN sv kn past)), (mq, aJ G 7157 sq), (mt, aI G 80 t), (mpa, aI G 48 (fil (pthz a (p * 4 + q)) pa 48)), (msh, aI G 48 sh), (mo, aI G 48 ot), (mtu, aI G 16 tu2)] := by
            intro n50
            induction n50 with
            | zero => intro v sv2 tu2 hv hR2 hm50; exact absurd hm50 (Nat.not_lt_zero _)
            | succ n50 ih50 =>
              intro v sv2 tu2 hv hR2 hm50
              refine V.iload (q := 52) F dX7_turn_50 rfl rfl ?_
              refine V.bipush (q := 54) F dX7_turn_52 rfl (by decide) ?_
              refine V.icmp_gt (q := 57) (tgt := 134) F dX7_turn_54 rfl (by decide) (by omega) (fun k54 => ?_) (fun k54 => ?_)
              · have hv100 : v = 100 := by omega
                subst hv100
                rw [turnU_e] at hR2
                refine V.iload (q := 136) F dX7_turn_134 rfl rfl ?_
                exact V.iret F T dX7_turn_136 ⟨_, _, _, _, _, (iEq (by unfold rTurn; omega)), fun h9 => absurd h9 (by unfold rTurn; omega), fun _ => ⟨hR2, rfl⟩⟩ [hm, ms, mp, mq, mt, mpa, msh, mo, mtu] rfl rfl
              · refine V.iconst (q := 58) F dX7_turn_57 rfl ?_
                refine V.istore (q := 60) (lo' := [_, _, _, _, _, _, _, _]) F dX7_turn_58 rfl (Nat.le_of_ble_eq_true rfl) rfl rfl ?_
                have L60 : ∀ (nq : Nat) (i : Int) (tu3 : Int → Int) (hi : 0 ≤ i ∧ i ≤ 16) (htu : tu3 = tvz a (p * 4 + q) b v tu2 i), (16 - i).toNat < nq → V X (YX7_turn l G) 0 0 60 [some (.ref hm), some (.int (zI p)), some (.int (zI q)), some (.int (zI b)), some (.int (zI (p * 4 + q))), some (.int (zI (a (25344 + (p * 4 + q))))), some (.int (zI v)), some (.int (zI i))] [] [(hm, .inr (7, [.ref ms, .ref mp, .int (zI (sN kn)), .ref mq, .int (zI kp), .ref mt, .int (zI n), .ref mpa, .ref msh, .ref mo, .ref mtu])), (ms, aJ G 7157 sv2), (mp, aJ G 28628 (PN sv kn past)), (mq, aJ G 7157 sq), (mt, aI G 80 t), (mpa, aI G 48 (fil (pthz a (p * 4 + q)) pa 48)), (msh, aI G 48 sh), (mo, aI G 48 ot), (mtu, aI G 16 tu3)] := by
                  intro n60
                  induction n60 with
                  | zero => intro i tu3 hi htu hm60; exact absurd hm60 (Nat.not_lt_zero _)
                  | succ n60 ih60 =>
                    intro i tu3 hi htu hm60
                    refine V.iload (q := 62) F dX7_turn_60 rfl rfl ?_
                    refine V.bipush (q := 64) F dX7_turn_62 rfl (by decide) ?_
                    refine V.icmp_ge (q := 67) (tgt := 95) F dX7_turn_64 rfl (by decide) (by omega) (fun k64 => ?_) (fun k64 => ?_)
                    · have hi16 : i = 16 := by omega
                      refine V.iconst (q := 96) F dX7_turn_95 rfl ?_
                      refine V.istore (q := 98) (lo' := [_, _, _, _, _, _, _, _]) F dX7_turn_96 rfl (Nat.le_of_ble_eq_true rfl) rfl rfl ?_
                      have L98 : ∀ (nq : Nat) (i : Int) (sv3 : Int → Int) (hi2 : 0 ≤ i ∧ i ≤ 16) (hR3 : Rel (turnU a (p * 4 + q) b v i) sv3), (16 - i).toNat < nq → V X (YX7_turn l G) 0 0 98 [some (.ref hm), some (.int (zI p)), some (.int (zI q)), some (.int (zI b)), some (.int (zI (p * 4 + q))), some (.int (zI (a (25344 + (p * 4 + q))))), some (.int (zI v)), some (.int (zI i))] [] [(hm, .inr (7, [.ref ms, .ref mp, .int (zI (sN kn)), .ref mq, .int (zI kp), .ref mt, .int (zI n), .ref mpa, .ref msh, .ref mo, .ref mtu])), (ms, aJ G 7157 sv3), (mp, aJ G 28628 (PN sv kn past)), (mq, aJ G 7157 sq), (mt, aI G 80 t), (mpa, aI G 48 (fil (pthz a (p * 4 + q)) pa 48)), (msh, aI G 48 sh), (mo, aI G 48 ot), (mtu, aI G 16 tu3)] := by
                        intro n98
                        induction n98 with
                        | zero => intro i sv3 hi2 hR3 hm98; exact absurd hm98 (Nat.not_lt_zero _)
                        | succ n98 ih98 =>
                          intro i sv3 hi2 hR3 hm98
                          have hB9 := fun h : i < 16 => hB ((p * 4 + q) * 1584 + (i - b) % 16 * 99 + v - 1) (by omega) (by omega)
                          refine V.iload (q := 100) F dX7_turn_98 rfl rfl ?_
                          refine V.bipush (q := 102) F dX7_turn_100 rfl (by decide) ?_
                          refine V.icmp_ge (q := 105) (tgt := 128) F dX7_turn_102 rfl (by decide) (by omega) (fun k102 => ?_) (fun k102 => ?_)
                          · refine V.iinc (q := 131) (lo' := [_, _, _, _, _, _, _, _]) F dX7_turn_128 rfl rfl (Nat.le_of_ble_eq_true rfl) rfl rfl ?_
                            refine V.goto (tgt := 50) F dX7_turn_131 (by decide) ?_
                            refine V.mask [true, true, true, true, true, true, true, false] (lo' := [_, _, _, _, _, _, _, _]) rfl ?_
                            exact ih50 (v + 1) _ _ (by omega) (by rw [← turnU_n, show (16 : Int) = i by omega]; exact hR3) (by omega)
                          · refine V.aload_n (q := 106) F dX7_turn_105 rfl rfl rfl ?_
                            refine V.iload (q := 108) F dX7_turn_106 rfl rfl ?_
                            refine V.iload (q := 110) F dX7_turn_108 rfl rfl ?_
                            refine V.iload (q := 112) F dX7_turn_110 rfl rfl ?_
                            refine V.aload_n (q := 113) F dX7_turn_112 rfl rfl rfl ?_
                            refine V.get (q := 116) F 0 10 dX7_turn_113 rfl rfl rfl inX7_turn_X7 (by decide) (List.mem_of_getElem? (i := 1) rfl) rfl ?_
                            refine V.iload (q := 118) F dX7_turn_116 rfl rfl ?_
                            refine V.iald (q := 119) F 8 dX7_turn_118 rfl rfl (by decide) (by omega) ?_
                            rw [show tu3 i = a ((p * 4 + q) * 1584 + (i - b) % 16 * 99 + v - 1) by rw [htu]; exact if_pos (by omega)]
                            refine V.callV (q := 122) F [0, 1] 0 dX7_turn_119 rfl (c_X7_puts l G hm ms mp mq mt mpa msh mo mtu (turnU a (p * 4 + q) b v i) _ _ _ _ _ _ _ _ hR3 (turnU_bnd hB hr) (by omega) (by omega) (by omega) (by omega)) gX7_turn_X7_puts rfl rfl ydX7_puts ⟨Nat.le_of_ble_eq_true rfl, Nat.le_of_ble_eq_true rfl⟩ (ci := 7) rfl rfl rfl rfl (Nat.le_of_ble_eq_true rfl) rfl rfl ⟨Nat.zero_le _, Nat.zero_le _⟩ (fun r9 w9 h9 _ => ?_)
                            obtain ⟨sv, rfl, rfl, hR⟩ := h9
                            refine V.eq (pc' := 122) (st' := []) (ws' := [_, _, _, _, _, _, _, _, _]) rfl rfl rfl rfl ?_
                            refine V.iinc (q := 125) (lo' := [_, _, _, _, _, _, _, _]) F dX7_turn_122 rfl rfl (Nat.le_of_ble_eq_true rfl) rfl rfl ?_
                            refine V.goto (tgt := 98) F dX7_turn_125 (by decide) ?_
                            exact ih98 (i + 1) _ (by omega) (by rw [← turnU_s a (by omega) (by omega)]; exact hR) (by omega)
                      exact L98 _ 0 _ (by omega) hR2 (Nat.lt_succ_self _)
                    · refine V.aload_n (q := 68) F dX7_turn_67 rfl rfl rfl ?_
                      refine V.get (q := 71) F 0 10 dX7_turn_68 rfl rfl rfl inX7_turn_X7 (by decide) (List.mem_of_getElem? (i := 1) rfl) rfl ?_
                      refine V.iload (q := 73) F dX7_turn_71 rfl rfl ?_
                      refine V.iload_n (q := 74) F dX7_turn_73 rfl rfl rfl ?_
                      refine V.iadd (q := 75) F dX7_turn_74 rfl ?_
                      refine V.bipush (q := 77) F dX7_turn_75 rfl (by decide) ?_
                      refine V.irem (q := 78) F dX7_turn_77 rfl (by omega) ?_
                      refine V.aload_n (q := 79) F dX7_turn_78 rfl rfl rfl ?_
                      refine V.iload (q := 81) F dX7_turn_79 rfl rfl ?_
                      refine V.iload (q := 83) F dX7_turn_81 rfl rfl ?_
                      refine V.iload (q := 85) F dX7_turn_83 rfl rfl ?_
                      refine V.callV (q := 88) F [0, 1] 0 dX7_turn_85 rfl (c_X7_at l G hm ms mp mq mt mpa msh mo mtu (turnU a (p * 4 + q) b v 0) _ _ _ _ _ _ _ hR2 (turnU_bnd hB hr) (by omega) (by omega) (by omega)) gX7_turn_X7_at rfl rfl ydX7_at ⟨Nat.le_of_ble_eq_true rfl, Nat.le_of_ble_eq_true rfl⟩ (ci := 7) rfl rfl rfl rfl (Nat.le_of_ble_eq_true rfl) rfl rfl ⟨Nat.zero_le _, Nat.zero_le _⟩ (kkf (st' := [_, _, _]) (ws' := [_, _, _, _, _, _, _, _, _]) rfl rfl ?_)
                      refine V.iast (q := 89) (ws' := [_, _, _, _, _, _, _, _, _]) F 8 dX7_turn_88 rfl rfl (by decide) (by omega) rfl ?_
                      refine V.iinc (q := 92) (lo' := [_, _, _, _, _, _, _, _]) F dX7_turn_89 rfl rfl (Nat.le_of_ble_eq_true rfl) rfl rfl ?_
                      refine V.goto (tgt := 60) F dX7_turn_92 (by decide) ?_
                      exact ih60 (i + 1) _ (by omega) (by rw [htu, turnU_at a (by omega) (by omega)]; exact tvz_s a tu2 (by omega) (by omega)) (by omega)
                exact L60 _ 0 _ (by omega) (tvz_0 _ _ _ _ _).symm (Nat.lt_succ_self _)
          refine V.mask [true, true, true, true, true, true, true, false] (lo' := [_, _, _, _, _, _, _, _]) rfl ?_
          exact L50 _ 1 _ _ (by omega) (by rw [turnU_0]; exact hR) (Nat.lt_succ_self _)
        · refine V.bipush (q := 42) F dX7_turn_40 rfl (by decide) ?_
          exact V.iret F T dX7_turn_42 ⟨sv, _, _, _, _, (iEq (by unfold rTurn; omega)), fun _ => rfl, fun h9 => absurd h9 (by unfold rTurn; omega)⟩ [hm, ms, mp, mq, mt, mpa, msh, mo, mtu] rfl rfl
      · refine V.bipush (q := 26) F dX7_turn_24 rfl (by decide) ?_
        exact V.iret F T dX7_turn_26 ⟨sv, _, _, _, _, (iEq (by unfold rTurn; omega)), fun _ => rfl, fun h9 => absurd h9 (by unfold rTurn; omega)⟩ [hm, ms, mp, mq, mt, mpa, msh, mo, mtu] rfl rfl
    · refine V.iconst (q := 13) F dX7_turn_12 rfl ?_
      exact V.iret F T dX7_turn_13 ⟨sv, _, _, _, _, (iEq (by unfold rTurn; omega)), fun _ => rfl, fun h9 => absurd h9 (by unfold rTurn; omega)⟩ [hm, ms, mp, mq, mt, mpa, msh, mo, mtu] rfl rfl
  refine V.iload_n (q := 1) F dX7_turn_0 rfl rfl rfl ?_
  refine V.iload_n (q := 2) F dX7_turn_1 rfl rfl rfl ?_
  refine V.callS (q := 5) F [] dX7_turn_2 rfl (c_X7_roseOf l G  _ _ (by omega) (by omega)) gX7_turn_X7_roseOf rfl ydX7_roseOf ⟨Nat.le_of_ble_eq_true rfl, Nat.le_of_ble_eq_true rfl⟩ rfl rfl (Nat.le_of_ble_eq_true rfl) rfl rfl ⟨Nat.zero_le _, Nat.zero_le _⟩ (kkf (st' := [_]) (ws' := [_, _, _, _, _, _, _, _, _]) rfl rfl ?_)
  exact J5 _ (by omega)

abbrev YX7_set (l : Launch) (G : Gx) : Sx := (cX7_set, 6, RX7, wsX7_set, rmD 1, l, G)
theorem ydX7_set : ydOk yX7_set 2 := by decide +kernel
theorem inX7_set_X7 : ∀ w ∈ wsX70, w ∈ wsX7_set := fun _ h => List.mem_cons_of_mem _ (List.mem_append_right _ h)
set_option maxHeartbeats 1000000 in
set_option maxRecDepth 20000 in
theorem c_X7_set (l : Launch) (G : Gx) (hm ms mp mq mt mpa msh mo mtu : Nat) (a sv past sq t pa sh ot tu : Int → Int) (kn kp n w v : Int) (hR : Rel a sv) (hI : Inv a) (hkn : 0 ≤ kn ∧ kn ≤ 4) (hkp : 0 ≤ kp ∧ kp ≤ 1) (hn : 0 ≤ n ∧ n ≤ 80) (ht : ∀ j, 0 ≤ t j ∧ t j < 65536) (hrw : -2147483648 ≤ w ∧ w < 2147483648) (hrv : -2147483648 ≤ v ∧ v < 2147483648) : Ct l G yX7_set wsX7_set (rmD 1) [.ref hm, .int (zI w), .int (zI v)] [(hm, .inr (7, [.ref ms, .ref mp, .int (zI kn), .ref mq, .int (zI kp), .ref mt, .int (zI n), .ref mpa, .ref msh, .ref mo, .ref mtu])), (ms, aJ G 7157 sv), (mp, aJ G 28628 past), (mq, aJ G 7157 sq), (mt, aI G 80 t), (mpa, aI G 48 pa), (msh, aI G 48 sh), (mo, aI G 48 ot), (mtu, aI G 16 tu)] (AcM hm ms mp mq mt mpa msh mo mtu G sv past kn sq kp t n (Rel (upz a (26176 + w) v)) (PN sv kn past) (sN kn) sq kp t n (rSet a w v)) := by
  refine Ct.intro (cc := cX7_set) (maxL := 6) (ret := (some .int)) (lo0 := [some (.ref hm), some (.int (zI w)), some (.int (zI v)), none, none, none]) (by decide +kernel) rfl ⟨rfl, rfl⟩ (Nat.le_of_ble_eq_true rfl) rfl ?_
  intro X F T
  change Fx X (YX7_set l G) at F
  change V X (YX7_set l G) 0 0 0 _ _ _
  refine V.iload_n (q := 1) F dX7_set_0 rfl rfl rfl ?_
  refine V.iconst (q := 2) F dX7_set_1 rfl ?_
  refine V.iconst (q := 3) F dX7_set_2 rfl ?_
  refine V.callS (q := 6) F [] dX7_set_3 rfl (c_X7_in l G  _ _ _ (by omega) (by omega) (by omega)) gX7_set_X7_in rfl ydX7_in ⟨Nat.le_of_ble_eq_true rfl, Nat.le_of_ble_eq_true rfl⟩ rfl rfl (Nat.le_of_ble_eq_true rfl) rfl rfl ⟨Nat.zero_le _, Nat.zero_le _⟩ (kkf (st' := [_]) (ws' := [_, _, _, _, _, _, _, _, _]) rfl rfl ?_)
  refine V.if_ne (q := 9) (tgt := 11) F dX7_set_6 rfl (by decide) (by omega) (fun k6 => ?_) (fun k6 => ?_)
  · have hset := hI.s
    have hs2 := hI.2.2.1.2.2.2
    have hs3 := hI.1 26178
    have hs4 : 0 ≤ a (26176 + w) ∧ a (26176 + w) ≤ 99 := by
      rcases (show w = 0 ∨ w = 1 ∨ w = 2 by omega) with rfl | rfl | rfl
      · show 0 ≤ a 26176 ∧ a 26176 ≤ 99; omega
      · show 0 ≤ a 26177 ∧ a 26177 ≤ 99; omega
      · show 0 ≤ a 26178 ∧ a 26178 ≤ 99; omega
    have g1 : sv 7152 = a 26176 := hR.at (by omega)
    have g2 : sv 7153 = a 26177 := hR.at (by omega)
    have g3 : sv (7152 + w) = a (26176 + w) := by
      rw [hR.at (by omega)]
      exact congrArg a (by omega)
    have J33 : ∀ (x : Int) (hx : x = if (w = 2 ∧ 0 ≤ v ∧ v ≤ 9) ∨ (w ≠ 2 ∧ 1 ≤ v ∧ v ≤ 99) then 1 else 0), V X (YX7_set l G) 0 0 33 [some (.ref hm), some (.int (zI w)), some (.int (zI v)), none, none, none] [.int (zI x)] [(hm, .inr (7, [.ref ms, .ref mp, .int (zI kn), .ref mq, .int (zI kp), .ref mt, .int (zI n), .ref mpa, .ref msh, .ref mo, .ref mtu])), (ms, aJ G 7157 sv), (mp, aJ G 28628 past), (mq, aJ G 7157 sq), (mt, aI G 80 t), (mpa, aI G 48 pa), (msh, aI G 48 sh), (mo, aI G 48 ot), (mtu, aI G 16 tu)] := by
      intro x hx
      refine V.istore_n (q := 34) (lo' := [_, _, _, _, _, _]) F dX7_set_33 rfl rfl (Nat.le_of_ble_eq_true rfl) rfl rfl ?_
      refine V.iload_n (q := 35) F dX7_set_34 rfl rfl rfl ?_
      refine V.if_ne (q := 38) (tgt := 41) F dX7_set_35 rfl (by decide) (by omega) (fun k35 => ?_) (fun k35 => ?_)
      · have J83 : ∀ (y : Int) (hy : y = if (w = 0 ∧ a 26177 ≤ v) ∨ (w = 1 ∧ v ≤ a 26176) then 1 else 0), V X (YX7_set l G) 0 0 83 [some (.ref hm), some (.int (zI w)), some (.int (zI v)), some (.int (zI x)), none, none] [.int (zI y)] [(hm, .inr (7, [.ref ms, .ref mp, .int (zI kn), .ref mq, .int (zI kp), .ref mt, .int (zI n), .ref mpa, .ref msh, .ref mo, .ref mtu])), (ms, aJ G 7157 sv), (mp, aJ G 28628 past), (mq, aJ G 7157 sq), (mt, aI G 80 t), (mpa, aI G 48 pa), (msh, aI G 48 sh), (mo, aI G 48 ot), (mtu, aI G 16 tu)] := by
          intro y hy
          refine V.istore (q := 85) (lo' := [_, _, _, _, _, _]) F dX7_set_83 rfl (Nat.le_of_ble_eq_true rfl) rfl rfl ?_
          refine V.iload (q := 87) F dX7_set_85 rfl rfl ?_
          refine V.if_eq (q := 90) (tgt := 93) F dX7_set_87 rfl (by decide) (by omega) (fun k87 => ?_) (fun k87 => ?_)
          · refine V.aload_n (q := 94) F dX7_set_93 rfl rfl rfl ?_
            refine V.sipush (q := 97) F dX7_set_94 rfl (by decide) ?_
            refine V.iload_n (q := 98) F dX7_set_97 rfl rfl rfl ?_
            refine V.iadd (q := 99) F dX7_set_98 rfl ?_
            refine V.callV (q := 102) F [0, 1] 0 dX7_set_99 rfl (c_X7_num l G hm ms mp mq mt mpa msh mo mtu _ _ _ _ _ (by omega)) gX7_set_X7_num rfl rfl ydX7_num ⟨Nat.le_of_ble_eq_true rfl, Nat.le_of_ble_eq_true rfl⟩ (ci := 7) rfl rfl rfl rfl (Nat.le_of_ble_eq_true rfl) rfl rfl ⟨Nat.zero_le _, Nat.zero_le _⟩ (kkf (st' := [_]) (ws' := [_, _, _, _, _, _, _, _, _]) rfl rfl ?_)
            refine V.istore (q := 104) (lo' := [_, _, _, _, _, _]) F dX7_set_102 rfl (Nat.le_of_ble_eq_true rfl) rfl rfl ?_
            refine V.iload (q := 106) F dX7_set_104 rfl rfl ?_
            refine V.iload_n (q := 107) F dX7_set_106 rfl rfl rfl ?_
            refine V.icmp_ne (q := 110) (tgt := 113) F dX7_set_107 rfl (by decide) (by omega) (fun k107 => ?_) (fun k107 => ?_)
            · refine V.aload_n (q := 114) F dX7_set_113 rfl rfl rfl ?_
              refine V.callV (q := 117) F [0, 1, 2] 0 dX7_set_114 rfl (c_X7_remembers l G hm ms mp mq mt mpa msh mo mtu _ _ _ _ _ (by omega)) gX7_set_X7_remembers rfl rfl ydX7_remembers ⟨Nat.le_of_ble_eq_true rfl, Nat.le_of_ble_eq_true rfl⟩ (ci := 7) rfl rfl rfl rfl (Nat.le_of_ble_eq_true rfl) rfl rfl ⟨Nat.zero_le _, Nat.zero_le _⟩ (kkf (st' := []) (ws' := [_, _, _, _, _, _, _, _, _]) rfl rfl ?_)
              refine V.aload_n (q := 118) F dX7_set_117 rfl rfl rfl ?_
              refine V.get (q := 121) F 0 0 dX7_set_118 rfl rfl rfl inX7_set_X7 (by decide) (List.mem_of_getElem? (i := 1) rfl) rfl ?_
              refine V.sipush (q := 124) F dX7_set_121 rfl (by decide) ?_
              refine V.iload_n (q := 125) F dX7_set_124 rfl rfl rfl ?_
              refine V.iadd (q := 126) F dX7_set_125 rfl ?_
              refine V.iload_n (q := 127) F dX7_set_126 rfl rfl rfl ?_
              refine V.i2l (q := 128) F dX7_set_127 rfl (by omega) ?_
              refine V.last (q := 129) (ws' := [_, _, _, _, _, _, _, _, _]) F 1 dX7_set_128 rfl rfl (by decide) (by omega) rfl ?_
              have hR9 : Rel (upz a (26176 + w) v) (upz sv (7152 + w) v) := by
                have e := hR.put (k := 7152 + w) (v := v) (by omega)
                rw [show 7152 + w + 19024 = 26176 + w by omega] at e
                exact e
              refine V.iload (q := 131) F dX7_set_129 rfl rfl ?_
              exact V.iret F T dX7_set_131 ⟨_, _, _, _, _, (iEq (by unfold rSet; omega)), fun h9 => absurd h9 (by unfold rSet; omega), fun _ => ⟨hR9, rfl⟩⟩ [hm, ms, mp, mq, mt, mpa, msh, mo, mtu] rfl rfl
            · refine V.bipush (q := 112) F dX7_set_110 rfl (by decide) ?_
              exact V.iret F T dX7_set_112 ⟨sv, _, _, _, _, (iEq (by unfold rSet; omega)), fun _ => rfl, fun h9 => absurd h9 (by unfold rSet; omega)⟩ [hm, ms, mp, mq, mt, mpa, msh, mo, mtu] rfl rfl
          · refine V.bipush (q := 92) F dX7_set_90 rfl (by decide) ?_
            exact V.iret F T dX7_set_92 ⟨sv, _, _, _, _, (iEq (by unfold rSet; omega)), fun _ => rfl, fun h9 => absurd h9 (by unfold rSet; omega)⟩ [hm, ms, mp, mq, mt, mpa, msh, mo, mtu] rfl rfl
        refine V.iload_n (q := 42) F dX7_set_41 rfl rfl rfl ?_
        refine V.if_ne (q := 45) (tgt := 59) F dX7_set_42 rfl (by decide) (by omega) (fun k42 => ?_) (fun k42 => ?_)
        · refine V.iload_n (q := 60) F dX7_set_59 rfl rfl rfl ?_
          refine V.iconst (q := 61) F dX7_set_60 rfl ?_
          refine V.icmp_ne (q := 64) (tgt := 82) F dX7_set_61 rfl (by decide) (by omega) (fun k61 => ?_) (fun k61 => ?_)
          · refine V.iconst (q := 83) F dX7_set_82 rfl ?_
            exact J83 _ (by omega)
          · refine V.iload_n (q := 65) F dX7_set_64 rfl rfl rfl ?_
            refine V.i2l (q := 66) F dX7_set_65 rfl (by omega) ?_
            refine V.aload_n (q := 67) F dX7_set_66 rfl rfl rfl ?_
            refine V.get (q := 70) F 0 0 dX7_set_67 rfl rfl rfl inX7_set_X7 (by decide) (List.mem_of_getElem? (i := 1) rfl) rfl ?_
            refine V.sipush (q := 73) F dX7_set_70 rfl (by decide) ?_
            refine V.lald (q := 74) F 1 dX7_set_73 rfl rfl (by decide) (by omega) ?_
            refine V.lcmp (q := 75) F dX7_set_74 rfl (by omega) (fun c74 c74a c74b c74c c74d => ?_)
            refine V.if_gt (q := 78) (tgt := 82) F dX7_set_75 rfl (by decide) (by omega) (fun k75 => ?_) (fun k75 => ?_)
            · refine V.iconst (q := 83) F dX7_set_82 rfl ?_
              exact J83 _ (by omega)
            · refine V.iconst (q := 79) F dX7_set_78 rfl ?_
              refine V.goto (tgt := 83) F dX7_set_79 (by decide) ?_
              exact J83 _ (by omega)
        · refine V.iload_n (q := 46) F dX7_set_45 rfl rfl rfl ?_
          refine V.i2l (q := 47) F dX7_set_46 rfl (by omega) ?_
          refine V.aload_n (q := 48) F dX7_set_47 rfl rfl rfl ?_
          refine V.get (q := 51) F 0 0 dX7_set_48 rfl rfl rfl inX7_set_X7 (by decide) (List.mem_of_getElem? (i := 1) rfl) rfl ?_
          refine V.sipush (q := 54) F dX7_set_51 rfl (by decide) ?_
          refine V.lald (q := 55) F 1 dX7_set_54 rfl rfl (by decide) (by omega) ?_
          refine V.lcmp (q := 56) F dX7_set_55 rfl (by omega) (fun c55 c55a c55b c55c c55d => ?_)
          refine V.if_ge (q := 59) (tgt := 78) F dX7_set_56 rfl (by decide) (by omega) (fun k56 => ?_) (fun k56 => ?_)
          · refine V.iconst (q := 79) F dX7_set_78 rfl ?_
            refine V.goto (tgt := 83) F dX7_set_79 (by decide) ?_
            exact J83 _ (by omega)
          · refine V.iload_n (q := 60) F dX7_set_59 rfl rfl rfl ?_
            refine V.iconst (q := 61) F dX7_set_60 rfl ?_
            refine V.icmp_ne (q := 64) (tgt := 82) F dX7_set_61 rfl (by decide) (by omega) (fun k61 => ?_) (fun k61 => ?_)
            · refine V.iconst (q := 83) F dX7_set_82 rfl ?_
              exact J83 _ (by omega)
            · refine V.iload_n (q := 65) F dX7_set_64 rfl rfl rfl ?_
              refine V.i2l (q := 66) F dX7_set_65 rfl (by omega) ?_
              refine V.aload_n (q := 67) F dX7_set_66 rfl rfl rfl ?_
              refine V.get (q := 70) F 0 0 dX7_set_67 rfl rfl rfl inX7_set_X7 (by decide) (List.mem_of_getElem? (i := 1) rfl) rfl ?_
              refine V.sipush (q := 73) F dX7_set_70 rfl (by decide) ?_
              refine V.lald (q := 74) F 1 dX7_set_73 rfl rfl (by decide) (by omega) ?_
              refine V.lcmp (q := 75) F dX7_set_74 rfl (by omega) (fun c74 c74a c74b c74c c74d => ?_)
              refine V.if_gt (q := 78) (tgt := 82) F dX7_set_75 rfl (by decide) (by omega) (fun k75 => ?_) (fun k75 => ?_)
              · refine V.iconst (q := 83) F dX7_set_82 rfl ?_
                exact J83 _ (by omega)
              · refine V.iconst (q := 79) F dX7_set_78 rfl ?_
                refine V.goto (tgt := 83) F dX7_set_79 (by decide) ?_
                exact J83 _ (by omega)
      · refine V.bipush (q := 40) F dX7_set_38 rfl (by decide) ?_
        exact V.iret F T dX7_set_40 ⟨sv, _, _, _, _, (iEq (by unfold rSet; omega)), fun _ => rfl, fun h9 => absurd h9 (by unfold rSet; omega)⟩ [hm, ms, mp, mq, mt, mpa, msh, mo, mtu] rfl rfl
    refine V.iload_n (q := 12) F dX7_set_11 rfl rfl rfl ?_
    refine V.iconst (q := 13) F dX7_set_12 rfl ?_
    refine V.icmp_ne (q := 16) (tgt := 26) F dX7_set_13 rfl (by decide) (by omega) (fun k13 => ?_) (fun k13 => ?_)
    · refine V.iload_n (q := 27) F dX7_set_26 rfl rfl rfl ?_
      refine V.iconst (q := 28) F dX7_set_27 rfl ?_
      refine V.bipush (q := 30) F dX7_set_28 rfl (by decide) ?_
      refine V.callS (q := 33) F [] dX7_set_30 rfl (c_X7_in l G  _ _ _ (by omega) (by omega) (by omega)) gX7_set_X7_in rfl ydX7_in ⟨Nat.le_of_ble_eq_true rfl, Nat.le_of_ble_eq_true rfl⟩ rfl rfl (Nat.le_of_ble_eq_true rfl) rfl rfl ⟨Nat.zero_le _, Nat.zero_le _⟩ (kkf (st' := [_]) (ws' := [_, _, _, _, _, _, _, _, _]) rfl rfl ?_)
      exact J33 _ (by omega)
    · refine V.iload_n (q := 17) F dX7_set_16 rfl rfl rfl ?_
      refine V.iconst (q := 18) F dX7_set_17 rfl ?_
      refine V.bipush (q := 20) F dX7_set_18 rfl (by decide) ?_
      refine V.callS (q := 23) F [] dX7_set_20 rfl (c_X7_in l G  _ _ _ (by omega) (by omega) (by omega)) gX7_set_X7_in rfl ydX7_in ⟨Nat.le_of_ble_eq_true rfl, Nat.le_of_ble_eq_true rfl⟩ rfl rfl (Nat.le_of_ble_eq_true rfl) rfl rfl ⟨Nat.zero_le _, Nat.zero_le _⟩ (kkf (st' := [_]) (ws' := [_, _, _, _, _, _, _, _, _]) rfl rfl ?_)
      refine V.goto (tgt := 33) F dX7_set_23 (by decide) ?_
      exact J33 _ (by omega)
  · refine V.iconst (q := 10) F dX7_set_9 rfl ?_
    exact V.iret F T dX7_set_10 ⟨sv, _, _, _, _, (iEq (by unfold rSet; omega)), fun _ => rfl, fun h9 => absurd h9 (by unfold rSet; omega)⟩ [hm, ms, mp, mq, mt, mpa, msh, mo, mtu] rfl rfl

abbrev YX7_engrave (l : Launch) (G : Gx) : Sx := (cX7_engrave, 6, RX7, wsX7_engrave, rmD 7, l, G)
theorem ydX7_engrave : ydOk yX7_engrave 2 := by decide +kernel
theorem inX7_engrave_X7 : ∀ w ∈ wsX70, w ∈ wsX7_engrave := fun _ h => List.mem_cons_of_mem _ (List.mem_append_right _ h)
set_option maxHeartbeats 1000000 in
set_option maxRecDepth 20000 in
theorem c_X7_engrave (l : Launch) (G : Gx) (hm ms mp mq mt mpa msh mo mtu : Nat) (a sv past sq t pa sh ot tu : Int → Int) (kn kp n p q : Int) (hR : Rel a sv) (hI : Inv a) (hkn : 0 ≤ kn ∧ kn ≤ 4) (hkp : 0 ≤ kp ∧ kp ≤ 1) (hn : 0 ≤ n ∧ n ≤ 80) (ht : ∀ j, 0 ≤ t j ∧ t j < 65536) (hrp : -2147483648 ≤ p ∧ p < 2147483648) (hrq : -2147483648 ≤ q ∧ q < 2147483648) : Ct l G yX7_engrave wsX7_engrave (rmD 7) [.ref hm, .int (zI p), .int (zI q)] [(hm, .inr (7, [.ref ms, .ref mp, .int (zI kn), .ref mq, .int (zI kp), .ref mt, .int (zI n), .ref mpa, .ref msh, .ref mo, .ref mtu])), (ms, aJ G 7157 sv), (mp, aJ G 28628 past), (mq, aJ G 7157 sq), (mt, aI G 80 t), (mpa, aI G 48 pa), (msh, aI G 48 sh), (mo, aI G 48 ot), (mtu, aI G 16 tu)] (AcM hm ms mp mq mt mpa msh mo mtu G sv past kn sq kp t n (Rel (cutA a (p * 4 + q) (shr a (p * 4 + q)) (scrz a (p * 4 + q)))) (PN sv kn past) (sN kn) sq kp t n (rEng a p q)) := by
  refine Ct.intro (cc := cX7_engrave) (maxL := 6) (ret := (some .int)) (lo0 := [some (.ref hm), some (.int (zI p)), some (.int (zI q)), none, none, none]) (by decide +kernel) rfl ⟨rfl, rfl⟩ (Nat.le_of_ble_eq_true rfl) rfl ?_
  intro X F T
  change Fx X (YX7_engrave l G) at F
  change V X (YX7_engrave l G) 0 0 0 _ _ _
  have J5 : ∀ (x : Int) (hx : x = if (0 ≤ p ∧ p ≤ 3) ∧ (0 ≤ q ∧ q ≤ 3) then p * 4 + q else -1), V X (YX7_engrave l G) 0 0 5 [some (.ref hm), some (.int (zI p)), some (.int (zI q)), none, none, none] [.int (zI x)] [(hm, .inr (7, [.ref ms, .ref mp, .int (zI kn), .ref mq, .int (zI kp), .ref mt, .int (zI n), .ref mpa, .ref msh, .ref mo, .ref mtu])), (ms, aJ G 7157 sv), (mp, aJ G 28628 past), (mq, aJ G 7157 sq), (mt, aI G 80 t), (mpa, aI G 48 pa), (msh, aI G 48 sh), (mo, aI G 48 ot), (mtu, aI G 16 tu)] := by
    intro x hx
    refine V.istore_n (q := 6) (lo' := [_, _, _, _, _, _]) F dX7_engrave_5 rfl rfl (Nat.le_of_ble_eq_true rfl) rfl rfl ?_
    refine V.iload_n (q := 7) F dX7_engrave_6 rfl rfl rfl ?_
    refine V.if_ge (q := 10) (tgt := 12) F dX7_engrave_7 rfl (by decide) (by omega) (fun k7 => ?_) (fun k7 => ?_)
    · have hx2 : x = p * 4 + q := by omega
      subst hx2
      have hr : 0 ≤ p * 4 + q ∧ p * 4 + q < 16 := by omega
      have hw := hI.w hr
      have hset := hI.s
      have hB := hI.bnd
      have c1 := hR.clm hr
      have hsr := scrz_rng (a := a) (p * 4 + q)
      have hdr := difz_rng (a := a) (p * 4 + q)
      have hle := scrz_le a (p * 4 + q)
      have c3 := hR.scr hr
      have c4 := hR.cir hr
      have eo : obsz a (p * 4 + q) = if allz a (p * 4 + q) = 0 then 1 else if difz a (p * 4 + q) = 0 then 2 else if 0 < scrz a (p * 4 + q) ∧ a 26178 < a (26160 + (p * 4 + q)) + scrz a (p * 4 + q) then 3 else 0 := rfl
      have ea : allz a (p * 4 + q) = a (25344 + (p * 4 + q)) + a (25360 + (p * 4 + q)) := rfl
      refine V.aload_n (q := 13) F dX7_engrave_12 rfl rfl rfl ?_
      refine V.iload_n (q := 14) F dX7_engrave_13 rfl rfl rfl ?_
      refine V.callV (q := 17) F [0, 1, 5] 0 dX7_engrave_14 rfl (c_X7_hoursOf l G hm ms mp mq mt mpa msh mo mtu _ _ _ _ _ _ _ hR hI (by omega)) gX7_engrave_X7_hoursOf rfl rfl ydX7_hoursOf ⟨Nat.le_of_ble_eq_true rfl, Nat.le_of_ble_eq_true rfl⟩ (ci := 7) rfl rfl rfl rfl (Nat.le_of_ble_eq_true rfl) rfl rfl ⟨Nat.zero_le _, Nat.zero_le _⟩ (kkf (st' := [_]) (ws' := [_, _, _, _, _, _, _, _, _]) rfl rfl ?_)
      refine V.if_eq (q := 20) (tgt := 28) F dX7_engrave_17 rfl (by decide) (by omega) (fun k17 => ?_) (fun k17 => ?_)
      · refine V.bipush (q := 30) F dX7_engrave_28 rfl (by decide) ?_
        exact V.iret F T dX7_engrave_30 ⟨sv, _, _, _, _, (iEq (by unfold rEng; omega)), fun _ => rfl, fun h9 => absurd h9 (by unfold rEng; omega)⟩ [hm, ms, mp, mq, mt, mpa, msh, mo, mtu] rfl rfl
      · refine V.aload_n (q := 21) F dX7_engrave_20 rfl rfl rfl ?_
        refine V.iload_n (q := 22) F dX7_engrave_21 rfl rfl rfl ?_
        refine V.callV (q := 25) F [0, 1, 5, 6] 0 dX7_engrave_22 rfl (c_X7_isTooMuch l G hm ms mp mq mt mpa msh mo mtu _ _ _ _ _ _ _ _ hR hI (by omega)) gX7_engrave_X7_isTooMuch rfl rfl ydX7_isTooMuch ⟨Nat.le_of_ble_eq_true rfl, Nat.le_of_ble_eq_true rfl⟩ (ci := 7) rfl rfl rfl rfl (Nat.le_of_ble_eq_true rfl) rfl rfl ⟨Nat.zero_le _, Nat.zero_le _⟩ (kkf (st' := [_]) (ws' := [_, _, _, _, _, _, _, _, _]) rfl rfl ?_)
        refine V.if_eq (q := 28) (tgt := 31) F dX7_engrave_25 rfl (by decide) (by omega) (fun k25 => ?_) (fun k25 => ?_)
        · refine V.aload_n (q := 32) F dX7_engrave_31 rfl rfl rfl ?_
          refine V.iload_n (q := 33) F dX7_engrave_32 rfl rfl rfl ?_
          refine V.callV (q := 36) F [0, 1, 5, 6] 0 dX7_engrave_33 rfl (c_X7_differs l G hm ms mp mq mt mpa msh mo mtu _ _ _ _ _ _ _ _ hR hI (by omega)) gX7_engrave_X7_differs rfl rfl ydX7_differs ⟨Nat.le_of_ble_eq_true rfl, Nat.le_of_ble_eq_true rfl⟩ (ci := 7) rfl rfl rfl rfl (Nat.le_of_ble_eq_true rfl) rfl rfl ⟨Nat.zero_le _, Nat.zero_le _⟩ (kkf (st' := [_]) (ws' := [_, _, _, _, _, _, _, _, _]) rfl rfl ?_)
          refine V.istore (q := 38) (lo' := [_, _, _, _, _, _]) F dX7_engrave_36 rfl (Nat.le_of_ble_eq_true rfl) rfl rfl ?_
          refine V.iload (q := 40) F dX7_engrave_38 rfl rfl ?_
          refine V.if_ne (q := 43) (tgt := 46) F dX7_engrave_40 rfl (by decide) (by omega) (fun k40 => ?_) (fun k40 => ?_)
          · have hgc := hI.p (j := 26160 + (p * 4 + q)) (by omega) (by omega)
            have hset4 := hI.2.2.1.2.2.2
            have hset5 := hI.1 26178
            have hcs := cshz_rng hI hr
            have hI2 : Inv (upz a (26160 + (p * 4 + q)) (a (26160 + (p * 4 + q)) + scrz a (p * 4 + q))) := hI.u1 (by omega) (by omega)
            have hL2 : Low a (upz a (26160 + (p * 4 + q)) (a (26160 + (p * 4 + q)) + scrz a (p * 4 + q))) := Low.rfl.up (by omega)
            have hI3 : Inv (upz (upz a (26160 + (p * 4 + q)) (a (26160 + (p * 4 + q)) + scrz a (p * 4 + q))) (26144 + (p * 4 + q)) (cshz a (p * 4 + q))) := hI2.u1 (by omega) (by omega)
            have hL3 : Low a (upz (upz a (26160 + (p * 4 + q)) (a (26160 + (p * 4 + q)) + scrz a (p * 4 + q))) (26144 + (p * 4 + q)) (cshz a (p * 4 + q))) := hL2.up (by omega)
            have hR2 : Rel (upz a (26160 + (p * 4 + q)) (a (26160 + (p * 4 + q)) + scrz a (p * 4 + q))) (upz sv (7136 + (p * 4 + q)) (a (26160 + (p * 4 + q)) + scrz a (p * 4 + q))) := by
              have e := hR.put (k := 7136 + (p * 4 + q)) (v := a (26160 + (p * 4 + q)) + scrz a (p * 4 + q)) (by omega)
              rw [show 7136 + (p * 4 + q) + 19024 = 26160 + (p * 4 + q) by omega] at e
              exact e
            have hR3 : Rel (upz (upz a (26160 + (p * 4 + q)) (a (26160 + (p * 4 + q)) + scrz a (p * 4 + q))) (26144 + (p * 4 + q)) (cshz a (p * 4 + q))) (upz (upz sv (7136 + (p * 4 + q)) (a (26160 + (p * 4 + q)) + scrz a (p * 4 + q))) (7120 + (p * 4 + q)) (cshz a (p * 4 + q))) := by
              have e := hR2.put (k := 7120 + (p * 4 + q)) (v := cshz a (p * 4 + q)) (by omega)
              rw [show 7120 + (p * 4 + q) + 19024 = 26144 + (p * 4 + q) by omega] at e
              exact e
            have hRe := Rel.eng0 hr hR
            refine V.aload_n (q := 47) F dX7_engrave_46 rfl rfl rfl ?_
            refine V.callV (q := 50) F [0, 1, 2] 0 dX7_engrave_47 rfl (c_X7_remembers l G hm ms mp mq mt mpa msh mo mtu _ _ _ _ _ (by omega)) gX7_engrave_X7_remembers rfl rfl ydX7_remembers ⟨Nat.le_of_ble_eq_true rfl, Nat.le_of_ble_eq_true rfl⟩ (ci := 7) rfl rfl rfl rfl (Nat.le_of_ble_eq_true rfl) rfl rfl ⟨Nat.zero_le _, Nat.zero_le _⟩ (kkf (st' := []) (ws' := [_, _, _, _, _, _, _, _, _]) rfl rfl ?_)
            refine V.aload_n (q := 51) F dX7_engrave_50 rfl rfl rfl ?_
            refine V.get (q := 54) F 0 0 dX7_engrave_51 rfl rfl rfl inX7_engrave_X7 (by decide) (List.mem_of_getElem? (i := 1) rfl) rfl ?_
            refine V.sipush (q := 57) F dX7_engrave_54 rfl (by decide) ?_
            refine V.iload_n (q := 58) F dX7_engrave_57 rfl rfl rfl ?_
            refine V.iadd (q := 59) F dX7_engrave_58 rfl ?_
            refine V.dup2 (q := 60) F dX7_engrave_59 rfl rfl rfl ?_
            refine V.lald (q := 61) F 1 dX7_engrave_60 rfl rfl (by decide) (by omega) ?_
            refine V.aload_n (q := 62) F dX7_engrave_61 rfl rfl rfl ?_
            refine V.iload_n (q := 63) F dX7_engrave_62 rfl rfl rfl ?_
            refine V.callV (q := 66) F [0, 1, 5, 6] 0 dX7_engrave_63 rfl (c_X7_needs l G hm ms mp mq mt mpa msh mo mtu _ _ _ _ _ _ _ _ hR hI (by omega)) gX7_engrave_X7_needs rfl rfl ydX7_needs ⟨Nat.le_of_ble_eq_true rfl, Nat.le_of_ble_eq_true rfl⟩ (ci := 7) rfl rfl rfl rfl (Nat.le_of_ble_eq_true rfl) rfl rfl ⟨Nat.zero_le _, Nat.zero_le _⟩ (kkf (st' := [_, _, _, _]) (ws' := [_, _, _, _, _, _, _, _, _]) rfl rfl ?_)
            refine V.i2l (q := 67) F dX7_engrave_66 rfl (by omega) ?_
            refine V.ladd (q := 68) F dX7_engrave_67 rfl ?_
            refine V.last (q := 69) (ws' := [_, _, _, _, _, _, _, _, _]) F 1 dX7_engrave_68 rfl rfl (by decide) (by omega) rfl ?_
            rw [c3]
            refine V.aload_n (q := 70) F dX7_engrave_69 rfl rfl rfl ?_
            refine V.get (q := 73) F 0 0 dX7_engrave_70 rfl rfl rfl inX7_engrave_X7 (by decide) (List.mem_of_getElem? (i := 1) rfl) rfl ?_
            refine V.sipush (q := 76) F dX7_engrave_73 rfl (by decide) ?_
            refine V.iload_n (q := 77) F dX7_engrave_76 rfl rfl rfl ?_
            refine V.iadd (q := 78) F dX7_engrave_77 rfl ?_
            refine V.aload_n (q := 79) F dX7_engrave_78 rfl rfl rfl ?_
            refine V.iload_n (q := 80) F dX7_engrave_79 rfl rfl rfl ?_
            refine V.callV (q := 83) F [0, 1, 5] 0 dX7_engrave_80 rfl (c_X7_calmShare l G hm ms mp mq mt mpa msh mo mtu (upz a (26160 + (p * 4 + q)) (a (26160 + (p * 4 + q)) + scrz a (p * 4 + q))) _ _ _ _ _ _ hR2 hI2 (by omega)) gX7_engrave_X7_calmShare rfl rfl ydX7_calmShare ⟨Nat.le_of_ble_eq_true rfl, Nat.le_of_ble_eq_true rfl⟩ (ci := 7) rfl rfl rfl rfl (Nat.le_of_ble_eq_true rfl) rfl rfl ⟨Nat.zero_le _, Nat.zero_le _⟩ (kkf (st' := [_, _, _]) (ws' := [_, _, _, _, _, _, _, _, _]) rfl rfl ?_)
            rw [cshz_congr hL2 hr]
            refine V.i2l (q := 84) F dX7_engrave_83 rfl (by omega) ?_
            refine V.last (q := 85) (ws' := [_, _, _, _, _, _, _, _, _]) F 1 dX7_engrave_84 rfl rfl (by decide) (by omega) rfl ?_
            refine V.aload_n (q := 86) F dX7_engrave_85 rfl rfl rfl ?_
            refine V.iload_n (q := 87) F dX7_engrave_86 rfl rfl rfl ?_
            refine V.callV (q := 90) F [0, 1, 5, 6] 0 dX7_engrave_87 rfl (c_X7_finds l G hm ms mp mq mt mpa msh mo mtu (upz (upz a (26160 + (p * 4 + q)) (a (26160 + (p * 4 + q)) + scrz a (p * 4 + q))) (26144 + (p * 4 + q)) (cshz a (p * 4 + q))) _ _ _ _ _ _ _ hR3 hI3 (by omega)) gX7_engrave_X7_finds rfl rfl ydX7_finds ⟨Nat.le_of_ble_eq_true rfl, Nat.le_of_ble_eq_true rfl⟩ (ci := 7) rfl rfl rfl rfl (Nat.le_of_ble_eq_true rfl) rfl rfl ⟨Nat.zero_le _, Nat.zero_le _⟩ (kkf (st' := []) (ws' := [_, _, _, _, _, _, _, _, _]) rfl rfl ?_)
            refine V.iconst (q := 91) F dX7_engrave_90 rfl ?_
            refine V.istore (q := 93) (lo' := [_, _, _, _, _, _]) F dX7_engrave_91 rfl (Nat.le_of_ble_eq_true rfl) rfl rfl ?_
            have L93 : ∀ (nq : Nat) (i : Int) (sv5 : Int → Int) (pa5 sh5 : Int → Int) (hi : 0 ≤ i ∧ i ≤ 48) (hR5 : Rel (engB a (p * 4 + q) i) sv5) (hs5 : ∀ j, 0 ≤ j → j < 48 → sh5 j = shr a (p * 4 + q) j), (48 - i).toNat < nq → V X (YX7_engrave l G) 0 0 93 [some (.ref hm), some (.int (zI p)), some (.int (zI q)), some (.int (zI (p * 4 + q))), some (.int (zI (difz a (p * 4 + q)))), some (.int (zI i))] [] [(hm, .inr (7, [.ref ms, .ref mp, .int (zI (sN kn)), .ref mq, .int (zI kp), .ref mt, .int (zI n), .ref mpa, .ref msh, .ref mo, .ref mtu])), (ms, aJ G 7157 sv5), (mp, aJ G 28628 (PN sv kn past)), (mq, aJ G 7157 sq), (mt, aI G 80 t), (mpa, aI G 48 pa5), (msh, aI G 48 sh5), (mo, aI G 48 ot), (mtu, aI G 16 tu)] := by
              intro n93
              induction n93 with
              | zero => intro i sv5 pa5 sh5 hi hR5 hs5 hm93; exact absurd hm93 (Nat.not_lt_zero _)
              | succ n93 ih93 =>
                intro i sv5 pa5 sh5 hi hR5 hs5 hm93
                refine V.iload (q := 95) F dX7_engrave_93 rfl rfl ?_
                refine V.bipush (q := 97) F dX7_engrave_95 rfl (by decide) ?_
                refine V.icmp_ge (q := 100) (tgt := 130) F dX7_engrave_97 rfl (by decide) (by omega) (fun k97 => ?_) (fun k97 => ?_)
                · have hi48 : i = 48 := by omega
                  subst hi48
                  have hR9 := Rel.engE hr hR5
                  refine V.aload_n (q := 131) F dX7_engrave_130 rfl rfl rfl ?_
                  refine V.get (q := 134) F 0 0 dX7_engrave_131 rfl rfl rfl inX7_engrave_X7 (by decide) (List.mem_of_getElem? (i := 1) rfl) rfl ?_
                  refine V.sipush (q := 137) F dX7_engrave_134 rfl (by decide) ?_
                  refine V.dup2 (q := 138) F dX7_engrave_137 rfl rfl rfl ?_
                  refine V.lald (q := 139) F 1 dX7_engrave_138 rfl rfl (by decide) (by omega) ?_
                  refine V.lconst (q := 140) (z := 1) F dX7_engrave_139 rfl (by decide +kernel) ?_
                  refine V.ladd (q := 141) F dX7_engrave_140 rfl ?_
                  refine V.last (q := 142) (ws' := [_, _, _, _, _, _, _, _, _]) F 1 dX7_engrave_141 rfl rfl (by decide) (by omega) rfl ?_
                  refine V.iload (q := 144) F dX7_engrave_142 rfl rfl ?_
                  exact V.iret F T dX7_engrave_144 ⟨_, _, _, _, _, (iEq (by unfold rEng; omega)), fun h9 => absurd h9 (by unfold rEng; omega), fun _ => ⟨hR9, rfl⟩⟩ [hm, ms, mp, mq, mt, mpa, msh, mo, mtu] rfl rfl
                · refine V.aload_n (q := 101) F dX7_engrave_100 rfl rfl rfl ?_
                  refine V.get (q := 104) F 0 0 dX7_engrave_101 rfl rfl rfl inX7_engrave_X7 (by decide) (List.mem_of_getElem? (i := 1) rfl) rfl ?_
                  refine V.sipush (q := 107) F dX7_engrave_104 rfl (by decide) ?_
                  refine V.bipush (q := 109) F dX7_engrave_107 rfl (by decide) ?_
                  refine V.iload_n (q := 110) F dX7_engrave_109 rfl rfl rfl ?_
                  refine V.imul (q := 111) F dX7_engrave_110 rfl ?_
                  refine V.iadd (q := 112) F dX7_engrave_111 rfl ?_
                  refine V.iload (q := 114) F dX7_engrave_112 rfl rfl ?_
                  refine V.iadd (q := 115) F dX7_engrave_114 rfl ?_
                  refine V.aload_n (q := 116) F dX7_engrave_115 rfl rfl rfl ?_
                  refine V.get (q := 119) F 0 8 dX7_engrave_116 rfl rfl rfl inX7_engrave_X7 (by decide) (List.mem_of_getElem? (i := 2) rfl) rfl ?_
                  skip
                  refine V.iload (q := 121) F dX7_engrave_119 rfl rfl ?_
                  refine V.iald (q := 122) F 6 dX7_engrave_121 rfl rfl (by decide) (by omega) ?_
                  rw [hs5 i (by omega) (by omega)]
                  have g6 := shr_100 hI hr (p := i) (by omega)
                  refine V.i2l (q := 123) F dX7_engrave_122 rfl (by omega) ?_
                  refine V.last (q := 124) (ws' := [_, _, _, _, _, _, _, _, _]) F 1 dX7_engrave_123 rfl rfl (by decide) (by omega) rfl ?_
                  refine V.iinc (q := 127) (lo' := [_, _, _, _, _, _]) F dX7_engrave_124 rfl rfl (Nat.le_of_ble_eq_true rfl) rfl rfl ?_
                  refine V.goto (tgt := 93) F dX7_engrave_127 (by decide) ?_
                  exact ih93 (i + 1) _ _ _ (by omega) (Rel.eng hr (by omega) hR5) hs5 (by omega)
            exact L93 _ 0 _ _ _ (by omega) hRe (fun j h1 h2 => by rw [fil_in _ _ h1 h2, shr_congr hL3 hI hr ⟨h1, h2⟩]) (Nat.lt_succ_self _)
          · refine V.bipush (q := 45) F dX7_engrave_43 rfl (by decide) ?_
            exact V.iret F T dX7_engrave_45 ⟨sv, _, _, _, _, (iEq (by unfold rEng; omega)), fun _ => rfl, fun h9 => absurd h9 (by unfold rEng; omega)⟩ [hm, ms, mp, mq, mt, mpa, msh, mo, mtu] rfl rfl
        · refine V.bipush (q := 30) F dX7_engrave_28 rfl (by decide) ?_
          exact V.iret F T dX7_engrave_30 ⟨sv, _, _, _, _, (iEq (by unfold rEng; omega)), fun _ => rfl, fun h9 => absurd h9 (by unfold rEng; omega)⟩ [hm, ms, mp, mq, mt, mpa, msh, mo, mtu] rfl rfl
    · refine V.iconst (q := 11) F dX7_engrave_10 rfl ?_
      exact V.iret F T dX7_engrave_11 ⟨sv, _, _, _, _, (iEq (by unfold rEng; omega)), fun _ => rfl, fun h9 => absurd h9 (by unfold rEng; omega)⟩ [hm, ms, mp, mq, mt, mpa, msh, mo, mtu] rfl rfl
  refine V.iload_n (q := 1) F dX7_engrave_0 rfl rfl rfl ?_
  refine V.iload_n (q := 2) F dX7_engrave_1 rfl rfl rfl ?_
  refine V.callS (q := 5) F [] dX7_engrave_2 rfl (c_X7_roseOf l G  _ _ (by omega) (by omega)) gX7_engrave_X7_roseOf rfl ydX7_roseOf ⟨Nat.le_of_ble_eq_true rfl, Nat.le_of_ble_eq_true rfl⟩ rfl rfl (Nat.le_of_ble_eq_true rfl) rfl rfl ⟨Nat.zero_le _, Nat.zero_le _⟩ (kkf (st' := [_]) (ws' := [_, _, _, _, _, _, _, _, _]) rfl rfl ?_)
  exact J5 _ (by omega)

abbrev YX7_renew (l : Launch) (G : Gx) : Sx := (cX7_renew, 6, RX7, wsX7_renew, rmD 3, l, G)
theorem ydX7_renew : ydOk yX7_renew 2 := by decide +kernel
theorem inX7_renew_X7 : ∀ w ∈ wsX70, w ∈ wsX7_renew := fun _ h => List.mem_cons_of_mem _ (List.mem_append_right _ h)
set_option maxHeartbeats 1000000 in
set_option maxRecDepth 20000 in
theorem c_X7_renew (l : Launch) (G : Gx) (hm ms mp mq mt mpa msh mo mtu : Nat) (a sv past sq t pa sh ot tu : Int → Int) (kn kp n p q : Int) (hR : Rel a sv) (hI : Inv a) (hkn : 0 ≤ kn ∧ kn ≤ 4) (hkp : 0 ≤ kp ∧ kp ≤ 1) (hn : 0 ≤ n ∧ n ≤ 80) (ht : ∀ j, 0 ≤ t j ∧ t j < 65536) (hrp : -2147483648 ≤ p ∧ p < 2147483648) (hrq : -2147483648 ≤ q ∧ q < 2147483648) : Ct l G yX7_renew wsX7_renew (rmD 3) [.ref hm, .int (zI p), .int (zI q)] [(hm, .inr (7, [.ref ms, .ref mp, .int (zI kn), .ref mq, .int (zI kp), .ref mt, .int (zI n), .ref mpa, .ref msh, .ref mo, .ref mtu])), (ms, aJ G 7157 sv), (mp, aJ G 28628 past), (mq, aJ G 7157 sq), (mt, aI G 80 t), (mpa, aI G 48 pa), (msh, aI G 48 sh), (mo, aI G 48 ot), (mtu, aI G 16 tu)] (AcM hm ms mp mq mt mpa msh mo mtu G sv past kn sq kp t n (Rel (newA a (p * 4 + q))) (PN sv kn past) (sN kn) sq kp t n (rRen a p q)) := by
  refine Ct.intro (cc := cX7_renew) (maxL := 6) (ret := (some .int)) (lo0 := [some (.ref hm), some (.int (zI p)), some (.int (zI q)), none, none, none]) (by decide +kernel) rfl ⟨rfl, rfl⟩ (Nat.le_of_ble_eq_true rfl) rfl ?_
  intro X F T
  change Fx X (YX7_renew l G) at F
  change V X (YX7_renew l G) 0 0 0 _ _ _
  have J5 : ∀ (x : Int) (hx : x = if (0 ≤ p ∧ p ≤ 3) ∧ (0 ≤ q ∧ q ≤ 3) then p * 4 + q else -1), V X (YX7_renew l G) 0 0 5 [some (.ref hm), some (.int (zI p)), some (.int (zI q)), none, none, none] [.int (zI x)] [(hm, .inr (7, [.ref ms, .ref mp, .int (zI kn), .ref mq, .int (zI kp), .ref mt, .int (zI n), .ref mpa, .ref msh, .ref mo, .ref mtu])), (ms, aJ G 7157 sv), (mp, aJ G 28628 past), (mq, aJ G 7157 sq), (mt, aI G 80 t), (mpa, aI G 48 pa), (msh, aI G 48 sh), (mo, aI G 48 ot), (mtu, aI G 16 tu)] := by
    intro x hx
    refine V.istore_n (q := 6) (lo' := [_, _, _, _, _, _]) F dX7_renew_5 rfl rfl (Nat.le_of_ble_eq_true rfl) rfl rfl ?_
    refine V.iload_n (q := 7) F dX7_renew_6 rfl rfl rfl ?_
    refine V.if_ge (q := 10) (tgt := 12) F dX7_renew_7 rfl (by decide) (by omega) (fun k7 => ?_) (fun k7 => ?_)
    · have hx2 : x = p * 4 + q := by omega
      subst hx2
      have hr : 0 ≤ p * 4 + q ∧ p * 4 + q < 16 := by omega
      have hw := hI.w hr
      have hset := hI.s
      have hB := hI.bnd
      have c1 := hR.clm hr
      have c3 := hR.scr hr
      have c4 := hR.cir hr
      have g3 := hI.p (j := 26160 + (p * 4 + q)) (by omega) (by omega)
      have g4 := hI.p (j := 26144 + (p * 4 + q)) (by omega) (by omega)
      have hcz : 0 ≤ cutz a (p * 4 + q) ∧ cutz a (p * 4 + q) ≤ 48 := sz_cnt (by omega) (fun j _ _ => by split <;> omega)
      have hRe := Rel.ren0 hr hR
      refine V.aload_n (q := 13) F dX7_renew_12 rfl rfl rfl ?_
      refine V.sipush (q := 16) F dX7_renew_13 rfl (by decide) ?_
      refine V.iload_n (q := 17) F dX7_renew_16 rfl rfl rfl ?_
      refine V.iadd (q := 18) F dX7_renew_17 rfl ?_
      refine V.callV (q := 21) F [0, 1] 0 dX7_renew_18 rfl (c_X7_num l G hm ms mp mq mt mpa msh mo mtu _ _ _ _ _ (by omega)) gX7_renew_X7_num rfl rfl ydX7_num ⟨Nat.le_of_ble_eq_true rfl, Nat.le_of_ble_eq_true rfl⟩ (ci := 7) rfl rfl rfl rfl (Nat.le_of_ble_eq_true rfl) rfl rfl ⟨Nat.zero_le _, Nat.zero_le _⟩ (kkf (st' := [_]) (ws' := [_, _, _, _, _, _, _, _, _]) rfl rfl ?_)
      rw [c3]
      refine V.istore (q := 23) (lo' := [_, _, _, _, _, _]) F dX7_renew_21 rfl (Nat.le_of_ble_eq_true rfl) rfl rfl ?_
      refine V.iload (q := 25) F dX7_renew_23 rfl rfl ?_
      refine V.if_ne (q := 28) (tgt := 54) F dX7_renew_25 rfl (by decide) (by omega) (fun k25 => ?_) (fun k25 => ?_)
      · refine V.aload_n (q := 55) F dX7_renew_54 rfl rfl rfl ?_
        refine V.callV (q := 58) F [0, 1, 2] 0 dX7_renew_55 rfl (c_X7_remembers l G hm ms mp mq mt mpa msh mo mtu _ _ _ _ _ (by omega)) gX7_renew_X7_remembers rfl rfl ydX7_remembers ⟨Nat.le_of_ble_eq_true rfl, Nat.le_of_ble_eq_true rfl⟩ (ci := 7) rfl rfl rfl rfl (Nat.le_of_ble_eq_true rfl) rfl rfl ⟨Nat.zero_le _, Nat.zero_le _⟩ (kkf (st' := []) (ws' := [_, _, _, _, _, _, _, _, _]) rfl rfl ?_)
        refine V.aload_n (q := 59) F dX7_renew_58 rfl rfl rfl ?_
        refine V.get (q := 62) F 0 0 dX7_renew_59 rfl rfl rfl inX7_renew_X7 (by decide) (List.mem_of_getElem? (i := 1) rfl) rfl ?_
        refine V.sipush (q := 65) F dX7_renew_62 rfl (by decide) ?_
        refine V.iload_n (q := 66) F dX7_renew_65 rfl rfl rfl ?_
        refine V.iadd (q := 67) F dX7_renew_66 rfl ?_
        refine V.lconst (q := 68) (z := 0) F dX7_renew_67 rfl (by decide +kernel) ?_
        refine V.last (q := 69) (ws' := [_, _, _, _, _, _, _, _, _]) F 1 dX7_renew_68 rfl rfl (by decide) (by omega) rfl ?_
        refine V.aload_n (q := 70) F dX7_renew_69 rfl rfl rfl ?_
        refine V.get (q := 73) F 0 0 dX7_renew_70 rfl rfl rfl inX7_renew_X7 (by decide) (List.mem_of_getElem? (i := 1) rfl) rfl ?_
        refine V.sipush (q := 76) F dX7_renew_73 rfl (by decide) ?_
        refine V.iload_n (q := 77) F dX7_renew_76 rfl rfl rfl ?_
        refine V.iadd (q := 78) F dX7_renew_77 rfl ?_
        refine V.lconst (q := 79) (z := 0) F dX7_renew_78 rfl (by decide +kernel) ?_
        refine V.last (q := 80) (ws' := [_, _, _, _, _, _, _, _, _]) F 1 dX7_renew_79 rfl rfl (by decide) (by omega) rfl ?_
        refine V.iconst (q := 81) F dX7_renew_80 rfl ?_
        refine V.istore (q := 83) (lo' := [_, _, _, _, _, _]) F dX7_renew_81 rfl (Nat.le_of_ble_eq_true rfl) rfl rfl ?_
        have L83 : ∀ (nq : Nat) (i : Int) (sv5 : Int → Int) (hi : 0 ≤ i ∧ i ≤ 48) (hR5 : Rel (renB a (p * 4 + q) i) sv5), (48 - i).toNat < nq → V X (YX7_renew l G) 0 0 83 [some (.ref hm), some (.int (zI p)), some (.int (zI q)), some (.int (zI (p * 4 + q))), some (.int (zI (a (26160 + (p * 4 + q))))), some (.int (zI i))] [] [(hm, .inr (7, [.ref ms, .ref mp, .int (zI (sN kn)), .ref mq, .int (zI kp), .ref mt, .int (zI n), .ref mpa, .ref msh, .ref mo, .ref mtu])), (ms, aJ G 7157 sv5), (mp, aJ G 28628 (PN sv kn past)), (mq, aJ G 7157 sq), (mt, aI G 80 t), (mpa, aI G 48 pa), (msh, aI G 48 sh), (mo, aI G 48 ot), (mtu, aI G 16 tu)] := by
          intro n83
          induction n83 with
          | zero => intro i sv5 hi hR5 hm83; exact absurd hm83 (Nat.not_lt_zero _)
          | succ n83 ih83 =>
            intro i sv5 hi hR5 hm83
            refine V.iload (q := 85) F dX7_renew_83 rfl rfl ?_
            refine V.bipush (q := 87) F dX7_renew_85 rfl (by decide) ?_
            refine V.icmp_ge (q := 90) (tgt := 113) F dX7_renew_87 rfl (by decide) (by omega) (fun k87 => ?_) (fun k87 => ?_)
            · have hi48 : i = 48 := by omega
              subst hi48
              have hR9 := Rel.renE hr hR5
              refine V.aload_n (q := 114) F dX7_renew_113 rfl rfl rfl ?_
              refine V.get (q := 117) F 0 0 dX7_renew_114 rfl rfl rfl inX7_renew_X7 (by decide) (List.mem_of_getElem? (i := 1) rfl) rfl ?_
              refine V.sipush (q := 120) F dX7_renew_117 rfl (by decide) ?_
              refine V.dup2 (q := 121) F dX7_renew_120 rfl rfl rfl ?_
              refine V.lald (q := 122) F 1 dX7_renew_121 rfl rfl (by decide) (by omega) ?_
              refine V.lconst (q := 123) (z := 1) F dX7_renew_122 rfl (by decide +kernel) ?_
              refine V.ladd (q := 124) F dX7_renew_123 rfl ?_
              refine V.last (q := 125) (ws' := [_, _, _, _, _, _, _, _, _]) F 1 dX7_renew_124 rfl rfl (by decide) (by omega) rfl ?_
              refine V.iload (q := 127) F dX7_renew_125 rfl rfl ?_
              exact V.iret F T dX7_renew_127 ⟨_, _, _, _, _, (iEq (by unfold rRen; omega)), fun h9 => absurd h9 (by unfold rRen; omega), fun _ => ⟨hR9, rfl⟩⟩ [hm, ms, mp, mq, mt, mpa, msh, mo, mtu] rfl rfl
            · refine V.aload_n (q := 91) F dX7_renew_90 rfl rfl rfl ?_
              refine V.get (q := 94) F 0 0 dX7_renew_91 rfl rfl rfl inX7_renew_X7 (by decide) (List.mem_of_getElem? (i := 1) rfl) rfl ?_
              refine V.sipush (q := 97) F dX7_renew_94 rfl (by decide) ?_
              refine V.bipush (q := 99) F dX7_renew_97 rfl (by decide) ?_
              refine V.iload_n (q := 100) F dX7_renew_99 rfl rfl rfl ?_
              refine V.imul (q := 101) F dX7_renew_100 rfl ?_
              refine V.iadd (q := 102) F dX7_renew_101 rfl ?_
              refine V.iload (q := 104) F dX7_renew_102 rfl rfl ?_
              refine V.iadd (q := 105) F dX7_renew_104 rfl ?_
              refine V.lconst (q := 106) (z := 0) F dX7_renew_105 rfl (by decide +kernel) ?_
              refine V.last (q := 107) (ws' := [_, _, _, _, _, _, _, _, _]) F 1 dX7_renew_106 rfl rfl (by decide) (by omega) rfl ?_
              refine V.iinc (q := 110) (lo' := [_, _, _, _, _, _]) F dX7_renew_107 rfl rfl (Nat.le_of_ble_eq_true rfl) rfl rfl ?_
              refine V.goto (tgt := 83) F dX7_renew_110 (by decide) ?_
              exact ih83 (i + 1) _ (by omega) (Rel.ren hr (by omega) hR5) (by omega)
        exact L83 _ 0 _ (by omega) hRe (Nat.lt_succ_self _)
      · have J54 : ∀  (hne : ¬ (cutz a (p * 4 + q) = 0 ∧ a (26144 + (p * 4 + q)) = 0 ∧ a (26160 + (p * 4 + q)) = 0)), V X (YX7_renew l G) 0 0 54 [some (.ref hm), some (.int (zI p)), some (.int (zI q)), some (.int (zI (p * 4 + q))), some (.int (zI (a (26160 + (p * 4 + q))))), none] [] [(hm, .inr (7, [.ref ms, .ref mp, .int (zI kn), .ref mq, .int (zI kp), .ref mt, .int (zI n), .ref mpa, .ref msh, .ref mo, .ref mtu])), (ms, aJ G 7157 sv), (mp, aJ G 28628 past), (mq, aJ G 7157 sq), (mt, aI G 80 t), (mpa, aI G 48 pa), (msh, aI G 48 sh), (mo, aI G 48 ot), (mtu, aI G 16 tu)] := by
          intro  hne
          refine V.aload_n (q := 55) F dX7_renew_54 rfl rfl rfl ?_
          refine V.callV (q := 58) F [0, 1, 2] 0 dX7_renew_55 rfl (c_X7_remembers l G hm ms mp mq mt mpa msh mo mtu _ _ _ _ _ (by omega)) gX7_renew_X7_remembers rfl rfl ydX7_remembers ⟨Nat.le_of_ble_eq_true rfl, Nat.le_of_ble_eq_true rfl⟩ (ci := 7) rfl rfl rfl rfl (Nat.le_of_ble_eq_true rfl) rfl rfl ⟨Nat.zero_le _, Nat.zero_le _⟩ (kkf (st' := []) (ws' := [_, _, _, _, _, _, _, _, _]) rfl rfl ?_)
          refine V.aload_n (q := 59) F dX7_renew_58 rfl rfl rfl ?_
          refine V.get (q := 62) F 0 0 dX7_renew_59 rfl rfl rfl inX7_renew_X7 (by decide) (List.mem_of_getElem? (i := 1) rfl) rfl ?_
          refine V.sipush (q := 65) F dX7_renew_62 rfl (by decide) ?_
          refine V.iload_n (q := 66) F dX7_renew_65 rfl rfl rfl ?_
          refine V.iadd (q := 67) F dX7_renew_66 rfl ?_
          refine V.lconst (q := 68) (z := 0) F dX7_renew_67 rfl (by decide +kernel) ?_
          refine V.last (q := 69) (ws' := [_, _, _, _, _, _, _, _, _]) F 1 dX7_renew_68 rfl rfl (by decide) (by omega) rfl ?_
          refine V.aload_n (q := 70) F dX7_renew_69 rfl rfl rfl ?_
          refine V.get (q := 73) F 0 0 dX7_renew_70 rfl rfl rfl inX7_renew_X7 (by decide) (List.mem_of_getElem? (i := 1) rfl) rfl ?_
          refine V.sipush (q := 76) F dX7_renew_73 rfl (by decide) ?_
          refine V.iload_n (q := 77) F dX7_renew_76 rfl rfl rfl ?_
          refine V.iadd (q := 78) F dX7_renew_77 rfl ?_
          refine V.lconst (q := 79) (z := 0) F dX7_renew_78 rfl (by decide +kernel) ?_
          refine V.last (q := 80) (ws' := [_, _, _, _, _, _, _, _, _]) F 1 dX7_renew_79 rfl rfl (by decide) (by omega) rfl ?_
          refine V.iconst (q := 81) F dX7_renew_80 rfl ?_
          refine V.istore (q := 83) (lo' := [_, _, _, _, _, _]) F dX7_renew_81 rfl (Nat.le_of_ble_eq_true rfl) rfl rfl ?_
          have L83 : ∀ (nq : Nat) (i : Int) (sv5 : Int → Int) (hi : 0 ≤ i ∧ i ≤ 48) (hR5 : Rel (renB a (p * 4 + q) i) sv5), (48 - i).toNat < nq → V X (YX7_renew l G) 0 0 83 [some (.ref hm), some (.int (zI p)), some (.int (zI q)), some (.int (zI (p * 4 + q))), some (.int (zI (a (26160 + (p * 4 + q))))), some (.int (zI i))] [] [(hm, .inr (7, [.ref ms, .ref mp, .int (zI (sN kn)), .ref mq, .int (zI kp), .ref mt, .int (zI n), .ref mpa, .ref msh, .ref mo, .ref mtu])), (ms, aJ G 7157 sv5), (mp, aJ G 28628 (PN sv kn past)), (mq, aJ G 7157 sq), (mt, aI G 80 t), (mpa, aI G 48 pa), (msh, aI G 48 sh), (mo, aI G 48 ot), (mtu, aI G 16 tu)] := by
            intro n83
            induction n83 with
            | zero => intro i sv5 hi hR5 hm83; exact absurd hm83 (Nat.not_lt_zero _)
            | succ n83 ih83 =>
              intro i sv5 hi hR5 hm83
              refine V.iload (q := 85) F dX7_renew_83 rfl rfl ?_
              refine V.bipush (q := 87) F dX7_renew_85 rfl (by decide) ?_
              refine V.icmp_ge (q := 90) (tgt := 113) F dX7_renew_87 rfl (by decide) (by omega) (fun k87 => ?_) (fun k87 => ?_)
              · have hi48 : i = 48 := by omega
                subst hi48
                have hR9 := Rel.renE hr hR5
                refine V.aload_n (q := 114) F dX7_renew_113 rfl rfl rfl ?_
                refine V.get (q := 117) F 0 0 dX7_renew_114 rfl rfl rfl inX7_renew_X7 (by decide) (List.mem_of_getElem? (i := 1) rfl) rfl ?_
                refine V.sipush (q := 120) F dX7_renew_117 rfl (by decide) ?_
                refine V.dup2 (q := 121) F dX7_renew_120 rfl rfl rfl ?_
                refine V.lald (q := 122) F 1 dX7_renew_121 rfl rfl (by decide) (by omega) ?_
                refine V.lconst (q := 123) (z := 1) F dX7_renew_122 rfl (by decide +kernel) ?_
                refine V.ladd (q := 124) F dX7_renew_123 rfl ?_
                refine V.last (q := 125) (ws' := [_, _, _, _, _, _, _, _, _]) F 1 dX7_renew_124 rfl rfl (by decide) (by omega) rfl ?_
                refine V.iload (q := 127) F dX7_renew_125 rfl rfl ?_
                exact V.iret F T dX7_renew_127 ⟨_, _, _, _, _, (iEq (by unfold rRen; omega)), fun h9 => absurd h9 (by unfold rRen; omega), fun _ => ⟨hR9, rfl⟩⟩ [hm, ms, mp, mq, mt, mpa, msh, mo, mtu] rfl rfl
              · refine V.aload_n (q := 91) F dX7_renew_90 rfl rfl rfl ?_
                refine V.get (q := 94) F 0 0 dX7_renew_91 rfl rfl rfl inX7_renew_X7 (by decide) (List.mem_of_getElem? (i := 1) rfl) rfl ?_
                refine V.sipush (q := 97) F dX7_renew_94 rfl (by decide) ?_
                refine V.bipush (q := 99) F dX7_renew_97 rfl (by decide) ?_
                refine V.iload_n (q := 100) F dX7_renew_99 rfl rfl rfl ?_
                refine V.imul (q := 101) F dX7_renew_100 rfl ?_
                refine V.iadd (q := 102) F dX7_renew_101 rfl ?_
                refine V.iload (q := 104) F dX7_renew_102 rfl rfl ?_
                refine V.iadd (q := 105) F dX7_renew_104 rfl ?_
                refine V.lconst (q := 106) (z := 0) F dX7_renew_105 rfl (by decide +kernel) ?_
                refine V.last (q := 107) (ws' := [_, _, _, _, _, _, _, _, _]) F 1 dX7_renew_106 rfl rfl (by decide) (by omega) rfl ?_
                refine V.iinc (q := 110) (lo' := [_, _, _, _, _, _]) F dX7_renew_107 rfl rfl (Nat.le_of_ble_eq_true rfl) rfl rfl ?_
                refine V.goto (tgt := 83) F dX7_renew_110 (by decide) ?_
                exact ih83 (i + 1) _ (by omega) (Rel.ren hr (by omega) hR5) (by omega)
          exact L83 _ 0 _ (by omega) hRe (Nat.lt_succ_self _)
        refine V.aload_n (q := 29) F dX7_renew_28 rfl rfl rfl ?_
        refine V.get (q := 32) F 0 0 dX7_renew_29 rfl rfl rfl inX7_renew_X7 (by decide) (List.mem_of_getElem? (i := 1) rfl) rfl ?_
        refine V.sipush (q := 35) F dX7_renew_32 rfl (by decide) ?_
        refine V.iload_n (q := 36) F dX7_renew_35 rfl rfl rfl ?_
        refine V.iadd (q := 37) F dX7_renew_36 rfl ?_
        refine V.lald (q := 38) F 1 dX7_renew_37 rfl rfl (by decide) (by omega) ?_
        refine V.lconst (q := 39) (z := 0) F dX7_renew_38 rfl (by decide +kernel) ?_
        refine V.lcmp (q := 40) F dX7_renew_39 rfl (by omega) (fun c39 c39a c39b c39c c39d => ?_)
        refine V.if_ne (q := 43) (tgt := 54) F dX7_renew_40 rfl (by decide) (by omega) (fun k40 => ?_) (fun k40 => ?_)
        · exact J54 (by omega)
        · refine V.aload_n (q := 44) F dX7_renew_43 rfl rfl rfl ?_
          refine V.iload_n (q := 45) F dX7_renew_44 rfl rfl rfl ?_
          refine V.callV (q := 48) F [0, 1] 0 dX7_renew_45 rfl (c_X7_petals l G hm ms mp mq mt mpa msh mo mtu _ _ _ _ _ _ hR hI (by omega)) gX7_renew_X7_petals rfl rfl ydX7_petals ⟨Nat.le_of_ble_eq_true rfl, Nat.le_of_ble_eq_true rfl⟩ (ci := 7) rfl rfl rfl rfl (Nat.le_of_ble_eq_true rfl) rfl rfl ⟨Nat.zero_le _, Nat.zero_le _⟩ (kkf (st' := [_]) (ws' := [_, _, _, _, _, _, _, _, _]) rfl rfl ?_)
          refine V.if_ne (q := 51) (tgt := 54) F dX7_renew_48 rfl (by decide) (by omega) (fun k48 => ?_) (fun k48 => ?_)
          · exact J54 (by omega)
          · refine V.bipush (q := 53) F dX7_renew_51 rfl (by decide) ?_
            exact V.iret F T dX7_renew_53 ⟨sv, _, _, _, _, (iEq (by unfold rRen; omega)), fun _ => rfl, fun h9 => absurd h9 (by unfold rRen; omega)⟩ [hm, ms, mp, mq, mt, mpa, msh, mo, mtu] rfl rfl
    · refine V.iconst (q := 11) F dX7_renew_10 rfl ?_
      exact V.iret F T dX7_renew_11 ⟨sv, _, _, _, _, (iEq (by unfold rRen; omega)), fun _ => rfl, fun h9 => absurd h9 (by unfold rRen; omega)⟩ [hm, ms, mp, mq, mt, mpa, msh, mo, mtu] rfl rfl
  refine V.iload_n (q := 1) F dX7_renew_0 rfl rfl rfl ?_
  refine V.iload_n (q := 2) F dX7_renew_1 rfl rfl rfl ?_
  refine V.callS (q := 5) F [] dX7_renew_2 rfl (c_X7_roseOf l G  _ _ (by omega) (by omega)) gX7_renew_X7_roseOf rfl ydX7_roseOf ⟨Nat.le_of_ble_eq_true rfl, Nat.le_of_ble_eq_true rfl⟩ rfl rfl (Nat.le_of_ble_eq_true rfl) rfl rfl ⟨Nat.zero_le _, Nat.zero_le _⟩ (kkf (st' := [_]) (ws' := [_, _, _, _, _, _, _, _, _]) rfl rfl ?_)
  exact J5 _ (by omega)

abbrev YX7_type (l : Launch) (G : Gx) : Sx := (cX7_type, 2, RX7, wsX7_type, rmD 0, l, G)
theorem ydX7_type : ydOk yX7_type 1 := by decide +kernel
theorem inX7_type_X7 : ∀ w ∈ wsX70, w ∈ wsX7_type := fun _ h => List.mem_cons_of_mem _ (List.mem_append_right _ h)
set_option maxHeartbeats 1000000 in
set_option maxRecDepth 20000 in
theorem c_X7_type (l : Launch) (G : Gx) (hm ms mp mq mt mpa msh mo mtu : Nat) (a sv past sq t pa sh ot tu : Int → Int) (kn kp n c : Int) (hR : Rel a sv) (hI : Inv a) (hkn : 0 ≤ kn ∧ kn ≤ 4) (hkp : 0 ≤ kp ∧ kp ≤ 1) (hn : 0 ≤ n ∧ n ≤ 80) (ht : ∀ j, 0 ≤ t j ∧ t j < 65536) (hrc : -2147483648 ≤ c ∧ c < 2147483648) (hc : 0 ≤ c ∧ c < 65536) : Ct l G yX7_type wsX7_type (rmD 0) [.ref hm, .int (zI c)] [(hm, .inr (7, [.ref ms, .ref mp, .int (zI kn), .ref mq, .int (zI kp), .ref mt, .int (zI n), .ref mpa, .ref msh, .ref mo, .ref mtu])), (ms, aJ G 7157 sv), (mp, aJ G 28628 past), (mq, aJ G 7157 sq), (mt, aI G 80 t), (mpa, aI G 48 pa), (msh, aI G 48 sh), (mo, aI G 48 ot), (mtu, aI G 16 tu)] (AcM hm ms mp mq mt mpa msh mo mtu G sv past kn sq kp t n (fun z => z = sv) past kn sq kp (upz t n c) (n + 1) (rType n)) := by
  refine Ct.intro (cc := cX7_type) (maxL := 2) (ret := (some .int)) (lo0 := [some (.ref hm), some (.int (zI c))]) (by decide +kernel) rfl ⟨rfl, rfl⟩ (Nat.le_of_ble_eq_true rfl) rfl ?_
  intro X F T
  change Fx X (YX7_type l G) at F
  change V X (YX7_type l G) 0 0 0 _ _ _
  refine V.aload_n (q := 1) F dX7_type_0 rfl rfl rfl ?_
  refine V.get (q := 4) F 0 6 dX7_type_1 rfl rfl rfl inX7_type_X7 (by decide) (List.mem_of_getElem? (i := 1) rfl) rfl ?_
  refine V.bipush (q := 6) F dX7_type_4 rfl (by decide) ?_
  refine V.icmp_ne (q := 9) (tgt := 12) F dX7_type_6 rfl (by decide) (by omega) (fun k6 => ?_) (fun k6 => ?_)
  · refine V.aload_n (q := 13) F dX7_type_12 rfl rfl rfl ?_
    refine V.get (q := 16) F 0 5 dX7_type_13 rfl rfl rfl inX7_type_X7 (by decide) (List.mem_of_getElem? (i := 2) rfl) rfl ?_
    refine V.aload_n (q := 17) F dX7_type_16 rfl rfl rfl ?_
    refine V.get (q := 20) F 0 6 dX7_type_17 rfl rfl rfl inX7_type_X7 (by decide) (List.mem_of_getElem? (i := 1) rfl) rfl ?_
    refine V.iload_n (q := 21) F dX7_type_20 rfl rfl rfl ?_
    refine V.iast (q := 22) (ws' := [_, _, _, _, _, _, _, _, _]) F 4 dX7_type_21 rfl rfl (by decide) (by omega) rfl ?_
    refine V.aload_n (q := 23) F dX7_type_22 rfl rfl rfl ?_
    refine V.dup (q := 24) F dX7_type_23 rfl rfl ?_
    refine V.get (q := 27) F 0 6 dX7_type_24 rfl rfl rfl inX7_type_X7 (by decide) (List.mem_of_getElem? (i := 1) rfl) rfl ?_
    refine V.iconst (q := 28) F dX7_type_27 rfl ?_
    refine V.iadd (q := 29) F dX7_type_28 rfl ?_
    refine V.put (q := 32) (ws' := [_, _, _, _, _, _, _, _, _]) (fs' := [_, _, _, _, _, _, _, _, _, _, _]) F 0 6 dX7_type_29 rfl rfl rfl inX7_type_X7 tyX7 tyX7_ok nmX7 (by decide) (List.mem_of_getElem? (i := 1) rfl) rfl rfl rfl rfl (Nat.le_of_ble_eq_true rfl) rfl rfl ?_
    refine V.aload_n (q := 33) F dX7_type_32 rfl rfl rfl ?_
    refine V.get (q := 36) F 0 6 dX7_type_33 rfl rfl rfl inX7_type_X7 (by decide) (List.mem_of_getElem? (i := 1) rfl) rfl ?_
    exact V.iret F T dX7_type_36 ⟨_, _, _, _, _, (iEq (by unfold rType; omega)), fun h9 => absurd h9 (by unfold rType; omega), fun _ => ⟨rfl, rfl⟩⟩ [hm, ms, mp, mq, mt, mpa, msh, mo, mtu] rfl rfl
  · refine V.bipush (q := 11) F dX7_type_9 rfl (by decide) ?_
    exact V.iret F T dX7_type_11 ⟨sv, _, _, _, _, (iEq (by unfold rType; omega)), fun _ => rfl, fun h9 => absurd h9 (by unfold rType; omega)⟩ [hm, ms, mp, mq, mt, mpa, msh, mo, mtu] rfl rfl

abbrev YX7_clearText (l : Launch) (G : Gx) : Sx := (cX7_clearText, 2, RX7, wsX7_clearText, rmD 0, l, G)
theorem ydX7_clearText : ydOk yX7_clearText 0 := by decide +kernel
theorem inX7_clearText_X7 : ∀ w ∈ wsX70, w ∈ wsX7_clearText := fun _ h => List.mem_cons_of_mem _ (List.mem_append_right _ h)
set_option maxHeartbeats 1000000 in
set_option maxRecDepth 20000 in
theorem c_X7_clearText (l : Launch) (G : Gx) (hm ms mp mq mt mpa msh mo mtu : Nat) (a sv past sq t pa sh ot tu : Int → Int) (kn kp n : Int) (hR : Rel a sv) (hI : Inv a) (hkn : 0 ≤ kn ∧ kn ≤ 4) (hkp : 0 ≤ kp ∧ kp ≤ 1) (hn : 0 ≤ n ∧ n ≤ 80) (ht : ∀ j, 0 ≤ t j ∧ t j < 65536) : Ct l G yX7_clearText wsX7_clearText (rmD 0) [.ref hm] [(hm, .inr (7, [.ref ms, .ref mp, .int (zI kn), .ref mq, .int (zI kp), .ref mt, .int (zI n), .ref mpa, .ref msh, .ref mo, .ref mtu])), (ms, aJ G 7157 sv), (mp, aJ G 28628 past), (mq, aJ G 7157 sq), (mt, aI G 80 t), (mpa, aI G 48 pa), (msh, aI G 48 sh), (mo, aI G 48 ot), (mtu, aI G 16 tu)] (AcM hm ms mp mq mt mpa msh mo mtu G sv past kn sq kp t n (fun z => z = sv) past kn sq kp t 0 (n)) := by
  refine Ct.intro (cc := cX7_clearText) (maxL := 2) (ret := (some .int)) (lo0 := [some (.ref hm), none]) (by decide +kernel) rfl ⟨rfl, rfl⟩ (Nat.le_of_ble_eq_true rfl) rfl ?_
  intro X F T
  change Fx X (YX7_clearText l G) at F
  change V X (YX7_clearText l G) 0 0 0 _ _ _
  refine V.aload_n (q := 1) F dX7_clearText_0 rfl rfl rfl ?_
  refine V.get (q := 4) F 0 6 dX7_clearText_1 rfl rfl rfl inX7_clearText_X7 (by decide) (List.mem_of_getElem? (i := 1) rfl) rfl ?_
  refine V.istore_n (q := 5) (lo' := [_, _]) F dX7_clearText_4 rfl rfl (Nat.le_of_ble_eq_true rfl) rfl rfl ?_
  refine V.aload_n (q := 6) F dX7_clearText_5 rfl rfl rfl ?_
  refine V.iconst (q := 7) F dX7_clearText_6 rfl ?_
  refine V.put (q := 10) (ws' := [_, _, _, _, _, _, _, _, _]) (fs' := [_, _, _, _, _, _, _, _, _, _, _]) F 0 6 dX7_clearText_7 rfl rfl rfl inX7_clearText_X7 tyX7 tyX7_ok nmX7 (by decide) (List.mem_of_getElem? (i := 1) rfl) rfl rfl rfl rfl (Nat.le_of_ble_eq_true rfl) rfl rfl ?_
  refine V.iload_n (q := 11) F dX7_clearText_10 rfl rfl rfl ?_
  exact V.iret F T dX7_clearText_11 ⟨_, _, _, _, _, (iEq (by omega)), fun h9 => absurd h9 (by omega), fun _ => ⟨rfl, rfl⟩⟩ [hm, ms, mp, mq, mt, mpa, msh, mo, mtu] rfl rfl

abbrev YX7_undo (l : Launch) (G : Gx) : Sx := (cX7_undo, 2, RX7, wsX7_undo, rmD 0, l, G)
theorem ydX7_undo : ydOk yX7_undo 0 := by decide +kernel
theorem inX7_undo_X7 : ∀ w ∈ wsX70, w ∈ wsX7_undo := fun _ h => List.mem_cons_of_mem _ (List.mem_append_right _ h)
set_option maxHeartbeats 1000000 in
set_option maxRecDepth 20000 in
theorem c_X7_undo (l : Launch) (G : Gx) (hm ms mp mq mt mpa msh mo mtu : Nat) (a sv past sq t pa sh ot tu : Int → Int) (kn kp n : Int) (hR : Rel a sv) (hI : Inv a) (hkn : 0 ≤ kn ∧ kn ≤ 4) (hkp : 0 ≤ kp ∧ kp ≤ 1) (hn : 0 ≤ n ∧ n ≤ 80) (ht : ∀ j, 0 ≤ t j ∧ t j < 65536) : Ct l G yX7_undo wsX7_undo (rmD 0) [.ref hm] [(hm, .inr (7, [.ref ms, .ref mp, .int (zI kn), .ref mq, .int (zI kp), .ref mt, .int (zI n), .ref mpa, .ref msh, .ref mo, .ref mtu])), (ms, aJ G 7157 sv), (mp, aJ G 28628 past), (mq, aJ G 7157 sq), (mt, aI G 80 t), (mpa, aI G 48 pa), (msh, aI G 48 sh), (mo, aI G 48 ot), (mtu, aI G 16 tu)] (AcM hm ms mp mq mt mpa msh mo mtu G sv past kn sq kp t n (fun z => z = cpz past sv (7157 * (kn - 1)) 0 7157) past (kn - 1) sq kp t n (rUndo kn)) := by
  refine Ct.intro (cc := cX7_undo) (maxL := 2) (ret := (some .int)) (lo0 := [some (.ref hm), none]) (by decide +kernel) rfl ⟨rfl, rfl⟩ (Nat.le_of_ble_eq_true rfl) rfl ?_
  intro X F T
  change Fx X (YX7_undo l G) at F
  change V X (YX7_undo l G) 0 0 0 _ _ _
  refine V.aload_n (q := 1) F dX7_undo_0 rfl rfl rfl ?_
  refine V.get (q := 4) F 0 2 dX7_undo_1 rfl rfl rfl inX7_undo_X7 (by decide) (List.mem_of_getElem? (i := 1) rfl) rfl ?_
  refine V.if_ne (q := 7) (tgt := 10) F dX7_undo_4 rfl (by decide) (by omega) (fun k4 => ?_) (fun k4 => ?_)
  · refine V.aload_n (q := 11) F dX7_undo_10 rfl rfl rfl ?_
    refine V.dup (q := 12) F dX7_undo_11 rfl rfl ?_
    refine V.get (q := 15) F 0 2 dX7_undo_12 rfl rfl rfl inX7_undo_X7 (by decide) (List.mem_of_getElem? (i := 1) rfl) rfl ?_
    refine V.iconst (q := 16) F dX7_undo_15 rfl ?_
    refine V.isub (q := 17) F dX7_undo_16 rfl ?_
    refine V.put (q := 20) (ws' := [_, _, _, _, _, _, _, _, _]) (fs' := [_, _, _, _, _, _, _, _, _, _, _]) F 0 2 dX7_undo_17 rfl rfl rfl inX7_undo_X7 tyX7 tyX7_ok nmX7 (by decide) (List.mem_of_getElem? (i := 1) rfl) rfl rfl rfl rfl (Nat.le_of_ble_eq_true rfl) rfl rfl ?_
    refine V.iconst (q := 21) F dX7_undo_20 rfl ?_
    refine V.istore_n (q := 22) (lo' := [_, _]) F dX7_undo_21 rfl rfl (Nat.le_of_ble_eq_true rfl) rfl rfl ?_
    have L22 : ∀ (nq : Nat) (i : Int) (g2 : Int → Int) (hi : 0 ≤ i ∧ i ≤ 7157) (hg : g2 = cpz past sv (7157 * (kn - 1)) 0 i), (7157 - i).toNat < nq → V X (YX7_undo l G) 0 0 22 [some (.ref hm), some (.int (zI i))] [] [(hm, .inr (7, [.ref ms, .ref mp, .int (zI (kn - 1)), .ref mq, .int (zI kp), .ref mt, .int (zI n), .ref mpa, .ref msh, .ref mo, .ref mtu])), (ms, aJ G 7157 g2), (mp, aJ G 28628 past), (mq, aJ G 7157 sq), (mt, aI G 80 t), (mpa, aI G 48 pa), (msh, aI G 48 sh), (mo, aI G 48 ot), (mtu, aI G 16 tu)] := by
      intro n22
      induction n22 with
      | zero => intro i g2 hi hg hm22; exact absurd hm22 (Nat.not_lt_zero _)
      | succ n22 ih22 =>
        intro i g2 hi hg hm22
        refine V.iload_n (q := 23) F dX7_undo_22 rfl rfl rfl ?_
        refine V.sipush (q := 26) F dX7_undo_23 rfl (by decide) ?_
        refine V.icmp_ge (q := 29) (tgt := 56) F dX7_undo_26 rfl (by decide) (by omega) (fun k26 => ?_) (fun k26 => ?_)
        · refine V.aload_n (q := 57) F dX7_undo_56 rfl rfl rfl ?_
          refine V.get (q := 60) F 0 2 dX7_undo_57 rfl rfl rfl inX7_undo_X7 (by decide) (List.mem_of_getElem? (i := 1) rfl) rfl ?_
          exact V.iret F T dX7_undo_60 ⟨_, _, _, _, _, (iEq (by unfold rUndo; omega)), fun h9 => absurd h9 (by unfold rUndo; omega), fun _ => ⟨(by rw [hg, show i = 7157 by omega]), rfl⟩⟩ [hm, ms, mp, mq, mt, mpa, msh, mo, mtu] rfl rfl
        · refine V.aload_n (q := 30) F dX7_undo_29 rfl rfl rfl ?_
          refine V.get (q := 33) F 0 0 dX7_undo_30 rfl rfl rfl inX7_undo_X7 (by decide) (List.mem_of_getElem? (i := 2) rfl) rfl ?_
          refine V.iload_n (q := 34) F dX7_undo_33 rfl rfl rfl ?_
          refine V.aload_n (q := 35) F dX7_undo_34 rfl rfl rfl ?_
          refine V.get (q := 38) F 0 1 dX7_undo_35 rfl rfl rfl inX7_undo_X7 (by decide) (List.mem_of_getElem? (i := 3) rfl) rfl ?_
          refine V.sipush (q := 41) F dX7_undo_38 rfl (by decide) ?_
          refine V.aload_n (q := 42) F dX7_undo_41 rfl rfl rfl ?_
          refine V.get (q := 45) F 0 2 dX7_undo_42 rfl rfl rfl inX7_undo_X7 (by decide) (List.mem_of_getElem? (i := 1) rfl) rfl ?_
          refine V.imul (q := 46) F dX7_undo_45 rfl ?_
          refine V.iload_n (q := 47) F dX7_undo_46 rfl rfl rfl ?_
          refine V.iadd (q := 48) F dX7_undo_47 rfl ?_
          refine V.lald (q := 49) F 2 dX7_undo_48 rfl rfl (by decide) (by omega) ?_
          refine V.last (q := 50) (ws' := [_, _, _, _, _, _, _, _, _]) F 1 dX7_undo_49 rfl rfl (by decide) (by omega) rfl ?_
          refine V.iinc (q := 53) (lo' := [_, _]) F dX7_undo_50 rfl rfl (Nat.le_of_ble_eq_true rfl) rfl rfl ?_
          refine V.goto (tgt := 22) F dX7_undo_53 (by decide) ?_
          exact ih22 (i + 1) _ (by omega) (by rw [hg]; exact cpz_s0 past sv _ hi.1) (by omega)
    exact L22 _ 0 _ (by omega) (cpz_0 _ _ _ _).symm (Nat.lt_succ_self _)
  · refine V.bipush (q := 9) F dX7_undo_7 rfl (by decide) ?_
    exact V.iret F T dX7_undo_9 ⟨sv, _, _, _, _, (iEq (by unfold rUndo; omega)), fun _ => rfl, fun h9 => absurd h9 (by unfold rUndo; omega)⟩ [hm, ms, mp, mq, mt, mpa, msh, mo, mtu] rfl rfl

abbrev YX7_keep (l : Launch) (G : Gx) : Sx := (cX7_keep, 2, RX7, wsX7_keep, rmD 5, l, G)
theorem ydX7_keep : ydOk yX7_keep 0 := by decide +kernel
theorem inX7_keep_X7 : ∀ w ∈ wsX70, w ∈ wsX7_keep := fun _ h => List.mem_cons_of_mem _ (List.mem_append_right _ h)
set_option maxHeartbeats 1000000 in
set_option maxRecDepth 20000 in
theorem c_X7_keep (l : Launch) (G : Gx) (hm ms mp mq mt mpa msh mo mtu : Nat) (a sv past sq t pa sh ot tu : Int → Int) (kn kp n : Int) (hR : Rel a sv) (hI : Inv a) (hkn : 0 ≤ kn ∧ kn ≤ 4) (hkp : 0 ≤ kp ∧ kp ≤ 1) (hn : 0 ≤ n ∧ n ≤ 80) (ht : ∀ j, 0 ≤ t j ∧ t j < 65536) : Ct l G yX7_keep wsX7_keep (rmD 5) [.ref hm] [(hm, .inr (7, [.ref ms, .ref mp, .int (zI kn), .ref mq, .int (zI kp), .ref mt, .int (zI n), .ref mpa, .ref msh, .ref mo, .ref mtu])), (ms, aJ G 7157 sv), (mp, aJ G 28628 past), (mq, aJ G 7157 sq), (mt, aI G 80 t), (mpa, aI G 48 pa), (msh, aI G 48 sh), (mo, aI G 48 ot), (mtu, aI G 16 tu)] (AcM hm ms mp mq mt mpa msh mo mtu G sv past kn sq kp t n (fun z => z = sv) past kn (cpz sv sq 0 0 7157) 1 t n (rKeep a)) := by
  refine Ct.intro (cc := cX7_keep) (maxL := 2) (ret := (some .int)) (lo0 := [some (.ref hm), none]) (by decide +kernel) rfl ⟨rfl, rfl⟩ (Nat.le_of_ble_eq_true rfl) rfl ?_
  intro X F T
  change Fx X (YX7_keep l G) at F
  change V X (YX7_keep l G) 0 0 0 _ _ _
  refine V.iconst (q := 1) F dX7_keep_0 rfl ?_
  refine V.istore_n (q := 2) (lo' := [_, _]) F dX7_keep_1 rfl rfl (Nat.le_of_ble_eq_true rfl) rfl rfl ?_
  have L2 : ∀ (nq : Nat) (i : Int) (g2 : Int → Int) (hi : 0 ≤ i ∧ i ≤ 7157) (hg : g2 = cpz sv sq 0 0 i), (7157 - i).toNat < nq → V X (YX7_keep l G) 0 0 2 [some (.ref hm), some (.int (zI i))] [] [(hm, .inr (7, [.ref ms, .ref mp, .int (zI kn), .ref mq, .int (zI kp), .ref mt, .int (zI n), .ref mpa, .ref msh, .ref mo, .ref mtu])), (ms, aJ G 7157 sv), (mp, aJ G 28628 past), (mq, aJ G 7157 g2), (mt, aI G 80 t), (mpa, aI G 48 pa), (msh, aI G 48 sh), (mo, aI G 48 ot), (mtu, aI G 16 tu)] := by
    intro n2
    induction n2 with
    | zero => intro i g2 hi hg hm2; exact absurd hm2 (Nat.not_lt_zero _)
    | succ n2 ih2 =>
      intro i g2 hi hg hm2
      refine V.iload_n (q := 3) F dX7_keep_2 rfl rfl rfl ?_
      refine V.sipush (q := 6) F dX7_keep_3 rfl (by decide) ?_
      refine V.icmp_ge (q := 9) (tgt := 27) F dX7_keep_6 rfl (by decide) (by omega) (fun k6 => ?_) (fun k6 => ?_)
      · have hi71 : i = 7157 := by omega
        subst hi71
        rw [hg]
        refine V.aload_n (q := 28) F dX7_keep_27 rfl rfl rfl ?_
        refine V.iconst (q := 29) F dX7_keep_28 rfl ?_
        refine V.put (q := 32) (ws' := [_, _, _, _, _, _, _, _, _]) (fs' := [_, _, _, _, _, _, _, _, _, _, _]) F 0 4 dX7_keep_29 rfl rfl rfl inX7_keep_X7 tyX7 tyX7_ok nmX7 (by decide) (List.mem_of_getElem? (i := 3) rfl) rfl rfl rfl rfl (Nat.le_of_ble_eq_true rfl) rfl rfl ?_
        refine V.aload_n (q := 33) F dX7_keep_32 rfl rfl rfl ?_
        refine V.iconst (q := 34) F dX7_keep_33 rfl ?_
        refine V.callV (q := 37) F [0, 1, 5] 0 dX7_keep_34 rfl (c_X7_allHours l G hm ms mp mq mt mpa msh mo mtu a _ _ _ _ _ _ hR hI (by omega)) gX7_keep_X7_allHours rfl rfl ydX7_allHours ⟨Nat.le_of_ble_eq_true rfl, Nat.le_of_ble_eq_true rfl⟩ (ci := 7) rfl rfl rfl rfl (Nat.le_of_ble_eq_true rfl) rfl rfl ⟨Nat.zero_le _, Nat.zero_le _⟩ (fun r9 w9 h9 _ => ?_)
        obtain ⟨pa, rfl, rfl⟩ := h9
        refine V.eq (pc' := 37) (st' := [_]) (ws' := [_, _, _, _, _, _, _, _, _]) rfl rfl rfl rfl ?_
        exact V.iret F T dX7_keep_37 ⟨_, _, _, _, _, (iEq (by unfold rKeep; rfl)), fun h9 => absurd h9 (by have h8 := sumz_nonneg hI.1 25344; have h9 := sumz_nonneg hI.1 25360; unfold rKeep; omega), fun _ => ⟨rfl, rfl⟩⟩ [hm, ms, mp, mq, mt, mpa, msh, mo, mtu] rfl rfl
      · refine V.aload_n (q := 10) F dX7_keep_9 rfl rfl rfl ?_
        refine V.get (q := 13) F 0 3 dX7_keep_10 rfl rfl rfl inX7_keep_X7 (by decide) (List.mem_of_getElem? (i := 1) rfl) rfl ?_
        refine V.iload_n (q := 14) F dX7_keep_13 rfl rfl rfl ?_
        refine V.aload_n (q := 15) F dX7_keep_14 rfl rfl rfl ?_
        refine V.get (q := 18) F 0 0 dX7_keep_15 rfl rfl rfl inX7_keep_X7 (by decide) (List.mem_of_getElem? (i := 2) rfl) rfl ?_
        refine V.iload_n (q := 19) F dX7_keep_18 rfl rfl rfl ?_
        refine V.lald (q := 20) F 1 dX7_keep_19 rfl rfl (by decide) (by omega) ?_
        refine V.last (q := 21) (ws' := [_, _, _, _, _, _, _, _, _]) F 3 dX7_keep_20 rfl rfl (by decide) (by omega) rfl ?_
        refine V.iinc (q := 24) (lo' := [_, _]) F dX7_keep_21 rfl rfl (Nat.le_of_ble_eq_true rfl) rfl rfl ?_
        refine V.goto (tgt := 2) F dX7_keep_24 (by decide) ?_
        exact ih2 (i + 1) _ (by omega) (by rw [hg]; have e9 := cpz_s0 sv sq 0 hi.1; rw [Int.zero_add] at e9; exact e9) (by omega)
  exact L2 _ 0 _ (by omega) (cpz_0 _ _ _ _).symm (Nat.lt_succ_self _)

abbrev YX7_restore (l : Launch) (G : Gx) : Sx := (cX7_restore, 2, RX7, wsX7_restore, rmD 5, l, G)
theorem ydX7_restore : ydOk yX7_restore 0 := by decide +kernel
theorem inX7_restore_X7 : ∀ w ∈ wsX70, w ∈ wsX7_restore := fun _ h => List.mem_cons_of_mem _ (List.mem_append_right _ h)
set_option maxHeartbeats 1000000 in
set_option maxRecDepth 20000 in
theorem c_X7_restore (l : Launch) (G : Gx) (hm ms mp mq mt mpa msh mo mtu : Nat) (a sv past sq t pa sh ot tu : Int → Int) (kn kp n : Int) (an : Int → Int) (hR : Rel a sv) (hI : Inv a) (hkn : 0 ≤ kn ∧ kn ≤ 4) (hkp : 0 ≤ kp ∧ kp ≤ 1) (hn : 0 ≤ n ∧ n ≤ 80) (ht : ∀ j, 0 ≤ t j ∧ t j < 65536) (hRn : kp = 1 → Rel an sq) (hIn : kp = 1 → Inv an) : Ct l G yX7_restore wsX7_restore (rmD 5) [.ref hm] [(hm, .inr (7, [.ref ms, .ref mp, .int (zI kn), .ref mq, .int (zI kp), .ref mt, .int (zI n), .ref mpa, .ref msh, .ref mo, .ref mtu])), (ms, aJ G 7157 sv), (mp, aJ G 28628 past), (mq, aJ G 7157 sq), (mt, aI G 80 t), (mpa, aI G 48 pa), (msh, aI G 48 sh), (mo, aI G 48 ot), (mtu, aI G 16 tu)] (AcM hm ms mp mq mt mpa msh mo mtu G sv past kn sq kp t n (Rel an) (PN sv kn past) (sN kn) sq kp t n ((if kp = 0 then -5 else sumz an 25344 + sumz an 25360))) := by
  refine Ct.intro (cc := cX7_restore) (maxL := 2) (ret := (some .int)) (lo0 := [some (.ref hm), none]) (by decide +kernel) rfl ⟨rfl, rfl⟩ (Nat.le_of_ble_eq_true rfl) rfl ?_
  intro X F T
  change Fx X (YX7_restore l G) at F
  change V X (YX7_restore l G) 0 0 0 _ _ _
  refine V.aload_n (q := 1) F dX7_restore_0 rfl rfl rfl ?_
  refine V.get (q := 4) F 0 4 dX7_restore_1 rfl rfl rfl inX7_restore_X7 (by decide) (List.mem_of_getElem? (i := 1) rfl) rfl ?_
  refine V.if_ne (q := 7) (tgt := 10) F dX7_restore_4 rfl (by decide) (by omega) (fun k4 => ?_) (fun k4 => ?_)
  · have hR8 := hRn (by omega)
    have hI9 := hIn (by omega)
    refine V.aload_n (q := 11) F dX7_restore_10 rfl rfl rfl ?_
    refine V.callV (q := 14) F [0, 1, 2] 0 dX7_restore_11 rfl (c_X7_remembers l G hm ms mp mq mt mpa msh mo mtu _ _ _ _ _ (by omega)) gX7_restore_X7_remembers rfl rfl ydX7_remembers ⟨Nat.le_of_ble_eq_true rfl, Nat.le_of_ble_eq_true rfl⟩ (ci := 7) rfl rfl rfl rfl (Nat.le_of_ble_eq_true rfl) rfl rfl ⟨Nat.zero_le _, Nat.zero_le _⟩ (kkf (st' := []) (ws' := [_, _, _, _, _, _, _, _, _]) rfl rfl ?_)
    refine V.iconst (q := 15) F dX7_restore_14 rfl ?_
    refine V.istore_n (q := 16) (lo' := [_, _]) F dX7_restore_15 rfl rfl (Nat.le_of_ble_eq_true rfl) rfl rfl ?_
    have L16 : ∀ (nq : Nat) (i : Int) (g2 : Int → Int) (hi : 0 ≤ i ∧ i ≤ 7157) (hg : g2 = cpz sq sv 0 0 i), (7157 - i).toNat < nq → V X (YX7_restore l G) 0 0 16 [some (.ref hm), some (.int (zI i))] [] [(hm, .inr (7, [.ref ms, .ref mp, .int (zI (sN kn)), .ref mq, .int (zI kp), .ref mt, .int (zI n), .ref mpa, .ref msh, .ref mo, .ref mtu])), (ms, aJ G 7157 g2), (mp, aJ G 28628 (PN sv kn past)), (mq, aJ G 7157 sq), (mt, aI G 80 t), (mpa, aI G 48 pa), (msh, aI G 48 sh), (mo, aI G 48 ot), (mtu, aI G 16 tu)] := by
      intro n16
      induction n16 with
      | zero => intro i g2 hi hg hm16; exact absurd hm16 (Nat.not_lt_zero _)
      | succ n16 ih16 =>
        intro i g2 hi hg hm16
        refine V.iload_n (q := 17) F dX7_restore_16 rfl rfl rfl ?_
        refine V.sipush (q := 20) F dX7_restore_17 rfl (by decide) ?_
        refine V.icmp_ge (q := 23) (tgt := 41) F dX7_restore_20 rfl (by decide) (by omega) (fun k20 => ?_) (fun k20 => ?_)
        · have hi71 : i = 7157 := by omega
          subst hi71
          have hR9 : Rel an g2 := hR8.svc (fun q h1 h2 => by rw [hg]; unfold cpz; rw [if_pos (by omega)]; exact congrArg sq (by omega))
          refine V.aload_n (q := 42) F dX7_restore_41 rfl rfl rfl ?_
          refine V.iconst (q := 43) F dX7_restore_42 rfl ?_
          refine V.callV (q := 46) F [0, 1, 5] 0 dX7_restore_43 rfl (c_X7_allHours l G hm ms mp mq mt mpa msh mo mtu an _ _ _ _ _ _ hR9 hI9 (by omega)) gX7_restore_X7_allHours rfl rfl ydX7_allHours ⟨Nat.le_of_ble_eq_true rfl, Nat.le_of_ble_eq_true rfl⟩ (ci := 7) rfl rfl rfl rfl (Nat.le_of_ble_eq_true rfl) rfl rfl ⟨Nat.zero_le _, Nat.zero_le _⟩ (fun r9 w9 h9 _ => ?_)
          obtain ⟨pa, rfl, rfl⟩ := h9
          have h81 := sumz_nonneg hI9.1 25344
          have h82 := sumz_nonneg hI9.1 25360
          refine V.eq (pc' := 46) (st' := [_]) (ws' := [_, _, _, _, _, _, _, _, _]) rfl rfl rfl rfl ?_
          exact V.iret F T dX7_restore_46 ⟨_, _, _, _, _, (iEq (by rw [if_pos rfl, if_neg (show ¬ kp = 0 by omega)])), fun h9 => absurd h9 (by omega), fun _ => ⟨hR9, rfl⟩⟩ [hm, ms, mp, mq, mt, mpa, msh, mo, mtu] rfl rfl
        · refine V.aload_n (q := 24) F dX7_restore_23 rfl rfl rfl ?_
          refine V.get (q := 27) F 0 0 dX7_restore_24 rfl rfl rfl inX7_restore_X7 (by decide) (List.mem_of_getElem? (i := 2) rfl) rfl ?_
          refine V.iload_n (q := 28) F dX7_restore_27 rfl rfl rfl ?_
          refine V.aload_n (q := 29) F dX7_restore_28 rfl rfl rfl ?_
          refine V.get (q := 32) F 0 3 dX7_restore_29 rfl rfl rfl inX7_restore_X7 (by decide) (List.mem_of_getElem? (i := 3) rfl) rfl ?_
          refine V.iload_n (q := 33) F dX7_restore_32 rfl rfl rfl ?_
          refine V.lald (q := 34) F 3 dX7_restore_33 rfl rfl (by decide) (by omega) ?_
          refine V.last (q := 35) (ws' := [_, _, _, _, _, _, _, _, _]) F 1 dX7_restore_34 rfl rfl (by decide) (by omega) rfl ?_
          refine V.iinc (q := 38) (lo' := [_, _]) F dX7_restore_35 rfl rfl (Nat.le_of_ble_eq_true rfl) rfl rfl ?_
          refine V.goto (tgt := 16) F dX7_restore_38 (by decide) ?_
          exact ih16 (i + 1) _ (by omega) (by rw [hg]; have e9 := cpz_s0 sq sv 0 hi.1; rw [Int.zero_add] at e9; exact e9) (by omega)
    exact L16 _ 0 _ (by omega) (cpz_0 _ _ _ _).symm (Nat.lt_succ_self _)
  · refine V.bipush (q := 9) F dX7_restore_7 rfl (by decide) ?_
    exact V.iret F T dX7_restore_9 ⟨sv, _, _, _, _, (iEq (by omega)), fun _ => rfl, fun h9 => absurd h9 (by omega)⟩ [hm, ms, mp, mq, mt, mpa, msh, mo, mtu] rfl rfl

theorem Met.ofWF {l : Launch} {y : MethodName} {ws ws' : List Cond} {rm : Room} {Pc : Array Value → State → Prop} {Qc : Array Value → State → Outcome → State → Prop} {mc ms : Nat} {free : Addr → Prop} {cc : ByteArray} {maxL : Nat} {ret : Option FieldType}
    (hy : plainFor y = true) (hw : ws = Cond.code y cc maxL ret :: ws')
    (body : ∀ p e s m args below meth c s₁, BodyLoose p l y (headSpec ws rm) cc maxL ret e s m args below meth c s₁ → c.maxLocals = maxL → Pc args s →
      W p l e (headSpec ws rm).room s m args below meth c s.heap [] 0 0 (MQ below Qc args s mc ms free) (entryFrame m args maxL)) : Met l y ws rm Pc Qc mc ms free := by
  refine MetFree.of_bodySF (code := cc) (maxLocals := maxL) (ret := ret) hy ?_ ?_
  · intro args s m h hn
    obtain ⟨meth, c, h1, h2, h3, h4, h5, h6, -, -⟩ := Cond.code_spec hn (atoms_spec (ws := ws) h _ (by rw [hw]; exact List.mem_cons_self))
    exact ⟨meth, c, h1, h2, h3, h4, h5, h6⟩
  · intro p e s m args below meth c s₁ B hml hP _
    have hh0 : s₁.heap = s.heap := by rw [B.state]; rfl
    obtain ⟨t, a1, o, b1, b2, b3⟩ := body p e s m args below meth c s₁ B hml hP s₁ hh0 (Stand.of_body B)
    exact ⟨t, o, a1, b1, b2, ⟨b3.1, b3.2⟩⟩
theorem Ct.introF {l : Launch} {G : Gx} {y : MethodName} {words ws' : List Cond} {rm : Room} {As : List Value} {wc : va_W} {P : Option Value → va_W → Prop} {cc : ByteArray} {maxL : Nat} {ret : Option FieldType} {lo0 : List (Option Value)}
    (hy : plainFor y = true) (hw : words = Cond.code y cc maxL ret :: ws') (h0 : rm.cells = 0 ∧ rm.slots = 0) (hn : (lg_sl As).length ≤ maxL) (hlo : lv_args 0 As = lvl 0 lo0)
    (body : ∀ X : Cx, Fx X (cc, maxL, y.cls, words, rm, l, G) → Rt X (cc, maxL, y.cls, words, rm, l, G) ret wc P → V X (cc, maxL, y.cls, words, rm, l, G) 0 0 0 lo0 [] wc) : Ct l G y words rm As wc P := by
  refine ⟨h0.1, h0.2, fun sz => ?_⟩
  refine Met.ofWF (cc := cc) (maxL := maxL) (ret := ret) hy hw ?_
  intro p e s m args below meth c s₁ B hml hv
  obtain ⟨rfl, hsz, hP, ⟨hK, hN⟩, hD0⟩ := hv
  have hx := B.exec
  have hb := B.bytes
  have hr := B.returns
  have hts := atoms_spec (ws := words) B.pre
  have hown : s.vm.findClass y.cls = some m.cls := findClass_of_methodNamed B.named
  have hlocks := B.notSynchronized
  subst hsz
  have hD := hD0.self (sz := s.heap.size)
  generalize hAe : va_A wc s.heap.size = A at hD ⊢
  have hA : ∀ q : Nat, s.heap.size ≤ q → A q := fun q h => by rw [← hAe]; exact Or.inr h
  have hS : va_S A s.heap s.heap [] := va_S.rf
  have hl := lv_entry As (n := maxL) hn
  rw [lg_entry_eq]
  generalize (lg_sl As ++ List.replicate (maxL - (lg_sl As).length) Slot.unset).toArray = ls at hl ⊢
  rw [hlo] at hl
  exact body (p, e, s, m, As.toArray, below, meth, c, _, A) ⟨hx, hb, hml, hown, hts, hK, hN, hA⟩ ⟨hr, hlocks, rfl⟩ s.heap [] ls hl hP hD hS
theorem zI_tmod {x y : Int} (hx : -2147483648 ≤ x ∧ x < 2147483648) (hy : 0 < y ∧ y < 2147483648) : zI x - zI x / zI y * zI y = zI (Int.tmod x y) := by
  have h1 : zI x / zI y = zI (x.tdiv y) := by
    apply Int32.toInt.inj
    have hr : -2147483648 ≤ x.tdiv y ∧ x.tdiv y < 2147483648 := by
      have h2 := Int.natAbs_tdiv_le_natAbs x y
      by_cases h3 : 0 ≤ x
      · have := Int.tdiv_le_self y h3
        have := Int.tdiv_nonneg h3 (show 0 ≤ y by omega)
        omega
      · have h4 : x.tdiv y = -((-x).tdiv y) := by rw [Int.neg_tdiv]; omega
        have := Int.tdiv_nonneg (show 0 ≤ -x by omega) (show 0 ≤ y by omega)
        omega
    rw [Int32.toInt_div, zI_toInt hx.1 hx.2, zI_toInt (by omega) hy.2, zI_toInt hr.1 hr.2]
    rw [Int.bmod_eq_of_le (by omega) (by omega)]
  rw [h1, zI_mul, zI_sub, Int.tmod_def, Int.mul_comm]
theorem zI_sign {x : Int32} : (0 : Int32) ≤ x ↔ x.toBitVec.msb = false := by
  rw [Int32.le_iff_toInt_le, BitVec.msb_eq_toInt]
  show (0 : Int32).toInt ≤ x.toInt ↔ decide (x.toBitVec.toInt < 0) = false
  rw [show (0 : Int32).toInt = 0 from rfl, show x.toBitVec.toInt = x.toInt from rfl]
  simp
theorem zI_xor {x y : Int} (hx : -2147483648 ≤ x ∧ x < 2147483648) (hy : 0 ≤ y ∧ y < 2147483648) : (0 : Int32) ≤ (zI x ^^^ zI y) ↔ 0 ≤ x := by
  have e1 : (0 : Int32) ≤ zI y := by rw [← zI_0, zI_le ⟨by omega, by omega, by omega, hy.2⟩]; exact hy.1
  have e2 : (0 : Int32) ≤ zI x ↔ 0 ≤ x := by rw [← zI_0, zI_le ⟨by omega, by omega, hx.1, hx.2⟩]
  rw [zI_sign] at e1
  rw [← e2, zI_sign, zI_sign, show (zI x ^^^ zI y).toBitVec = (zI x).toBitVec ^^^ (zI y).toBitVec from rfl, BitVec.msb_xor, e1]
  simp
/-- the prevailing direction, so far: the most hours, and where -/
def pvz (f : Int → Int) : Nat → Int × Int
  | 0 => (0, -5)
  | i + 1 => if (pvz f i).1 < f (i : Int) then (f (i : Int), (i : Int)) else pvz f i
theorem pvz_s (f : Int → Int) {i : Int} (hi : 0 ≤ i) : pvz f (i + 1).toNat = if (pvz f i.toNat).1 < f i then (f i, i) else pvz f i.toNat := by
  rw [show (i + 1).toNat = i.toNat + 1 by omega, pvz, Int.toNat_of_nonneg hi]
theorem pvz_rng {f : Int → Int} {c : Int} (hc : 0 ≤ c) : ∀ n : Nat, (∀ j : Int, 0 ≤ j → j < n → 0 ≤ f j ∧ f j ≤ c) → 0 ≤ (pvz f n).1 ∧ (pvz f n).1 ≤ c ∧ -5 ≤ (pvz f n).2 ∧ (pvz f n).2 < n
  | 0, _ => ⟨Int.le_refl 0, hc, Int.le_refl _, by show (-5 : Int) < ((0 : Nat) : Int); omega⟩
  | n + 1, h => by
    have ih := pvz_rng hc n (fun j h1 h2 => h j h1 (by omega))
    have h2 := h n (by omega) (by omega)
    rw [pvz]
    split
    · exact ⟨by show 0 ≤ f n; omega, by show f n ≤ c; omega, by show (-5 : Int) ≤ n; omega, by show ((n : Nat) : Int) < ((n + 1 : Nat) : Int); omega⟩
    · exact ⟨ih.1, ih.2.1, ih.2.2.1, by omega⟩
/-- the greatest speed: downwards from i -/
def gsz (a : Int → Int) (r : Int) : Nat → Int
  | 0 => -5
  | i + 1 => if 0 < spz a r ((i : Int) + 1) then (i : Int) + 1 else gsz a r i
def wsum (a : Int → Int) (r i : Int) : Int := sz (fun s => s * spz a r s) 1 i
def meanz (a : Int → Int) (r : Int) : Int := if a (25344 + r) ≤ 0 then -5 else wsum a r 100 / a (25344 + r)
def prevz (a : Int → Int) (r : Int) : Int := (pvz (fun d => hbz a r d 1 100) 16).2
theorem spz_rng {a : Int → Int} (h : Inv a) {r s : Int} (hr : 0 ≤ r ∧ r < 16) (hs : 1 ≤ s ∧ s ≤ 99) : 0 ≤ spz a r s ∧ spz a r s ≤ 159984 := by
  have := sz_le (f := fun d => a (r * 1584 + d * 99 + s - 1)) (a := 0) (b := 16) (c := 9999) (by omega) (by omega) (fun j h1 h2 => by
    have h3 : a (r * 1584 + j * 99 + s - 1) ≤ sz a (r * 1584) (r * 1584 + 1584) := sz_mem (fun q _ _ => h.1 q) (by omega) (by omega)
    have h4 := h.2.1 r hr.1 hr.2
    have h5 := h.1 (25360 + r)
    exact ⟨h.1 _, by omega⟩)
  exact ⟨this.1, by unfold spz; omega⟩
theorem dirH_rng {a : Int → Int} (h : Inv a) {r d : Int} (hr : 0 ≤ r ∧ r < 16) (hd : 0 ≤ d ∧ d < 16) : 0 ≤ hbz a r d 1 100 ∧ hbz a r d 1 100 ≤ 9999 := by
  have h1 := hbz_rng h hr hd (f := 1) (e := 100) (by omega) (by omega) (by omega)
  have h2 := h.w hr
  omega
theorem wsum_rng {a : Int → Int} (h : Inv a) {r i : Int} (hr : 0 ≤ r ∧ r < 16) (hi : 1 ≤ i ∧ i ≤ 100) : 0 ≤ wsum a r i ∧ wsum a r i ≤ 1583841600 := by
  have := sz_le (f := fun s => s * spz a r s) (a := 1) (b := i) (c := 15838416) (by omega) (by omega) (fun j h1 h2 => by
    have h3 := spz_rng h hr (s := j) (by omega)
    refine ⟨Int.mul_nonneg (by omega) h3.1, ?_⟩
    have h4 : j * spz a r j ≤ 99 * spz a r j := Int.mul_le_mul_of_nonneg_right (by omega) h3.1
    omega)
  unfold wsum
  omega
/-- why a plate is not engraved -/
def obsz (a : Int → Int) (r : Int) : Int := if allz a r = 0 then 1 else if difz a r = 0 then 2 else if 0 < scrz a r ∧ a 26178 < a (26160 + r) + scrz a r then 3 else 0
def pnad (a : Int → Int) (i : Int) : Int := sz (fun r => if 0 < difz a r then 1 else 0) 0 i

abbrev YJ9_floorMod_7cf53 (l : Launch) (G : Gx) : Sx := (cJ9_floorMod_7cf53, 3, RJ9, wsJ9_floorMod_7cf53, rmD 0, l, G)
theorem ydJ9_floorMod_7cf53 : ydOk yJ9_floorMod_7cf53 2 := by decide +kernel
set_option maxHeartbeats 1000000 in
set_option maxRecDepth 20000 in
theorem c_J9_floorMod_7cf53 (l : Launch) (G : Gx)  (x y : Int) (hx : -2147483648 ≤ x ∧ x < 2147483648) (hy : y = 16) : Ct l G yJ9_floorMod_7cf53 wsJ9_floorMod_7cf53 (rmD 0) [.int (zI x), .int (zI y)] [] (Fn (some (.int (zI (x % 16)))) []) := by
  refine Ct.introF (cc := cJ9_floorMod_7cf53) (maxL := 3) (ret := (some .int)) (lo0 := [some (.int (zI x)), some (.int (zI y)), none]) (by decide +kernel) rfl ⟨rfl, rfl⟩ (Nat.le_of_ble_eq_true rfl) rfl ?_
  intro X F T
  change Fx X (YJ9_floorMod_7cf53 l G) at F
  change V X (YJ9_floorMod_7cf53 l G) 0 0 0 _ _ _
  refine V.iload_n (q := 1) F dJ9_floorMod_7cf53_0 rfl rfl rfl ?_
  refine V.iload_n (q := 2) F dJ9_floorMod_7cf53_1 rfl rfl rfl ?_
  subst hy
  refine V.iremR (q := 3) F dJ9_floorMod_7cf53_2 rfl (zI_ne0 ⟨by omega, by omega, by omega⟩) ?_
  rw [zI_tmod hx ⟨by omega, by omega⟩]
  have et := Int.tmod_eq_emod (a := x) (b := 16)
  have ed := Int.dvd_iff_emod_eq_zero (a := 16) (b := x)
  refine V.istore_n (q := 4) (lo' := [_, _, _]) F dJ9_floorMod_7cf53_3 rfl rfl (Nat.le_of_ble_eq_true rfl) rfl rfl ?_
  refine V.iload_n (q := 5) F dJ9_floorMod_7cf53_4 rfl rfl rfl ?_
  refine V.iload_n (q := 6) F dJ9_floorMod_7cf53_5 rfl rfl rfl ?_
  refine V.ixorR (q := 7) F dJ9_floorMod_7cf53_6 rfl ?_
  refine V.if_geR (q := 10) (tgt := 18) F dJ9_floorMod_7cf53_7 rfl (by decide) (fun k7 => ?_) (fun k7 => ?_)
  · have k7 : 0 ≤ x := (zI_xor hx (by omega)).mp k7
    rw [if_pos (Or.inl k7)] at et
    refine V.iload_n (q := 19) F dJ9_floorMod_7cf53_18 rfl rfl rfl ?_
    exact V.iret F T dJ9_floorMod_7cf53_19 (fnI (by omega) rfl) [] rfl rfl
  have k7 : ¬ 0 ≤ x := fun z => k7 ((zI_xor hx (by omega)).mpr z)
  have et2 : x.tmod 16 = x % 16 - if x % 16 = 0 then 0 else 16 := by
    rw [et]
    by_cases hz : x % 16 = 0
    · rw [if_pos (Or.inr (ed.mpr hz)), if_pos hz]; rfl
    · rw [if_neg (by rw [ed]; omega), if_neg hz]; rfl
  refine V.iload_n (q := 11) F dJ9_floorMod_7cf53_10 rfl rfl rfl ?_
  refine V.if_eq (q := 14) (tgt := 18) F dJ9_floorMod_7cf53_11 rfl (by decide) (by omega) (fun k11 => ?_) (fun k11 => ?_)
  · refine V.iload_n (q := 19) F dJ9_floorMod_7cf53_18 rfl rfl rfl ?_
    exact V.iret F T dJ9_floorMod_7cf53_19 (fnI (by omega) rfl) [] rfl rfl
  · refine V.iload_n (q := 15) F dJ9_floorMod_7cf53_14 rfl rfl rfl ?_
    refine V.iload_n (q := 16) F dJ9_floorMod_7cf53_15 rfl rfl rfl ?_
    refine V.iadd (q := 17) F dJ9_floorMod_7cf53_16 rfl ?_
    exact V.iret F T dJ9_floorMod_7cf53_17 (fnI (by omega) rfl) [] rfl rfl

abbrev YX6_wouldMixBounds (l : Launch) (G : Gx) : Sx := (cX6_wouldMixBounds, 3, RX6, wsX6_wouldMixBounds, rmD 1, l, G)
theorem ydX6_wouldMixBounds : ydOk yX6_wouldMixBounds 2 := by decide +kernel
theorem inX6_wouldMixBounds_X6 : ∀ w ∈ wsX60, w ∈ wsX6_wouldMixBounds := fun _ h => List.mem_cons_of_mem _ (List.mem_append_left _ (List.mem_append_right _ h))
set_option maxHeartbeats 1000000 in
set_option maxRecDepth 20000 in
theorem c_X6_wouldMixBounds (l : Launch) (G : Gx) (h6 hd hr ht hh hsn htx hrd hs hos hg : Nat) (a : Int → Int) (bb w v : Int) (h1 : -2147483648 ≤ w ∧ w < 2147483648) (h2 : -2147483648 ≤ v ∧ v < 2147483648) (hset : 1 ≤ a 26176 ∧ a 26176 < a 26177 ∧ a 26177 ≤ 99) : Ct l G yX6_wouldMixBounds wsX6_wouldMixBounds (rmD 1) [.ref h6, .int (zI w), .int (zI v)] [(h6, .inr (6, [.ref hd, .ref hh, .ref hsn, .int (zI bb), .ref hrd, .ref htx, .ref hs, .ref hos, .ref hg])), (hd, .inr (0, [.ref hr, .ref ht])), (hr, aI G 26181 a)] (Fn (some (.int (zI (if (w = 0 ∧ a 26177 ≤ v) ∨ (w = 1 ∧ v ≤ a 26176) then 1 else 0)))) [(h6, .inr (6, [.ref hd, .ref hh, .ref hsn, .int (zI bb), .ref hrd, .ref htx, .ref hs, .ref hos, .ref hg])), (hd, .inr (0, [.ref hr, .ref ht])), (hr, aI G 26181 a)]) := by
  refine Ct.intro (cc := cX6_wouldMixBounds) (maxL := 3) (ret := (some .boolean)) (lo0 := [some (.ref h6), some (.int (zI w)), some (.int (zI v))]) (by decide +kernel) rfl ⟨rfl, rfl⟩ (Nat.le_of_ble_eq_true rfl) rfl ?_
  intro X F T
  change Fx X (YX6_wouldMixBounds l G) at F
  change V X (YX6_wouldMixBounds l G) 0 0 0 _ _ _
  refine V.iload_n (q := 1) F dX6_wouldMixBounds_0 rfl rfl rfl ?_
  refine V.if_ne (q := 4) (tgt := 22) F dX6_wouldMixBounds_1 rfl (by decide) (by omega) (fun k1 => ?_) (fun k1 => ?_)
  · refine V.iload_n (q := 23) F dX6_wouldMixBounds_22 rfl rfl rfl ?_
    refine V.iconst (q := 24) F dX6_wouldMixBounds_23 rfl ?_
    refine V.icmp_ne (q := 27) (tgt := 43) F dX6_wouldMixBounds_24 rfl (by decide) (by omega) (fun k24 => ?_) (fun k24 => ?_)
    · refine V.iconst (q := 44) F dX6_wouldMixBounds_43 rfl ?_
      exact V.zret F T (by omega) dX6_wouldMixBounds_44 (fnI (by omega) rfl) [h6, hd, hr] rfl rfl
    · refine V.aload_n (q := 28) F dX6_wouldMixBounds_27 rfl rfl rfl ?_
      refine V.get (q := 31) F 0 0 dX6_wouldMixBounds_28 rfl rfl rfl inX6_wouldMixBounds_X6 (by decide) (List.mem_of_getElem? (i := 1) rfl) rfl ?_
      refine V.iconst (q := 32) F dX6_wouldMixBounds_31 rfl ?_
      refine V.callV (q := 35) F [1, 2] 1 dX6_wouldMixBounds_32 rfl (c_X0_setting l G hd hr ht _ _ (by omega)) gX6_wouldMixBounds_X0_setting rfl rfl ydX0_setting ⟨Nat.le_of_ble_eq_true rfl, Nat.le_of_ble_eq_true rfl⟩ (ci := 0) rfl rfl rfl rfl (Nat.le_of_ble_eq_true rfl) rfl rfl ⟨Nat.zero_le _, Nat.zero_le _⟩ (kkf (st' := [_]) (ws' := [_, _, _]) rfl rfl ?_)
      rw [show (26176 + 0 : Int) = 26176 from rfl]
      refine V.iload_n (q := 36) F dX6_wouldMixBounds_35 rfl rfl rfl ?_
      refine V.icmp_lt (q := 39) (tgt := 43) F dX6_wouldMixBounds_36 rfl (by decide) (by omega) (fun k36 => ?_) (fun k36 => ?_)
      · refine V.iconst (q := 44) F dX6_wouldMixBounds_43 rfl ?_
        exact V.zret F T (by omega) dX6_wouldMixBounds_44 (fnI (by omega) rfl) [h6, hd, hr] rfl rfl
      · refine V.iconst (q := 40) F dX6_wouldMixBounds_39 rfl ?_
        refine V.goto (tgt := 44) F dX6_wouldMixBounds_40 (by decide) ?_
        exact V.zret F T (by omega) dX6_wouldMixBounds_44 (fnI (by omega) rfl) [h6, hd, hr] rfl rfl
  · refine V.iload_n (q := 5) F dX6_wouldMixBounds_4 rfl rfl rfl ?_
    refine V.aload_n (q := 6) F dX6_wouldMixBounds_5 rfl rfl rfl ?_
    refine V.get (q := 9) F 0 0 dX6_wouldMixBounds_6 rfl rfl rfl inX6_wouldMixBounds_X6 (by decide) (List.mem_of_getElem? (i := 1) rfl) rfl ?_
    refine V.iconst (q := 10) F dX6_wouldMixBounds_9 rfl ?_
    refine V.callV (q := 13) F [1, 2] 1 dX6_wouldMixBounds_10 rfl (c_X0_setting l G hd hr ht _ _ (by omega)) gX6_wouldMixBounds_X0_setting rfl rfl ydX0_setting ⟨Nat.le_of_ble_eq_true rfl, Nat.le_of_ble_eq_true rfl⟩ (ci := 0) rfl rfl rfl rfl (Nat.le_of_ble_eq_true rfl) rfl rfl ⟨Nat.zero_le _, Nat.zero_le _⟩ (kkf (st' := [_, _]) (ws' := [_, _, _]) rfl rfl ?_)
    rw [show (26176 + 1 : Int) = 26177 from rfl]
    refine V.icmp_lt (q := 16) (tgt := 20) F dX6_wouldMixBounds_13 rfl (by decide) (by omega) (fun k13 => ?_) (fun k13 => ?_)
    · refine V.iconst (q := 21) F dX6_wouldMixBounds_20 rfl ?_
      exact V.zret F T (by omega) dX6_wouldMixBounds_21 (fnI (by omega) rfl) [h6, hd, hr] rfl rfl
    · refine V.iconst (q := 17) F dX6_wouldMixBounds_16 rfl ?_
      refine V.goto (tgt := 21) F dX6_wouldMixBounds_17 (by decide) ?_
      exact V.zret F T (by omega) dX6_wouldMixBounds_21 (fnI (by omega) rfl) [h6, hd, hr] rfl rfl

abbrev YX6_hoursFrom (l : Launch) (G : Gx) : Sx := (cX6_hoursFrom, 3, RX6, wsX6_hoursFrom, rmD 2, l, G)
theorem ydX6_hoursFrom : ydOk yX6_hoursFrom 2 := by decide +kernel
theorem inX6_hoursFrom_X6 : ∀ w ∈ wsX60, w ∈ wsX6_hoursFrom := fun _ h => List.mem_cons_of_mem _ (List.mem_append_left _ (List.mem_append_right _ h))
set_option maxHeartbeats 1000000 in
set_option maxRecDepth 20000 in
theorem c_X6_hoursFrom (l : Launch) (G : Gx) (h6 hd hr ht hh hsn htx hrd hs hos hg : Nat) (a : Int → Int) (bb r d : Int) (h1 : 0 ≤ r ∧ r < 16) (hd1 : -2147483648 ≤ d ∧ d < 2147483648) : Ct l G yX6_hoursFrom wsX6_hoursFrom (rmD 2) [.ref h6, .int (zI r), .int (zI d)] [(h6, .inr (6, [.ref hd, .ref hh, .ref hsn, .int (zI bb), .ref hrd, .ref htx, .ref hs, .ref hos, .ref hg])), (hd, .inr (0, [.ref hr, .ref ht])), (hr, aI G 26181 a)] (Fn (some (.int (zI (hbz a r (d % 16) 1 100)))) [(h6, .inr (6, [.ref hd, .ref hh, .ref hsn, .int (zI bb), .ref hrd, .ref htx, .ref hs, .ref hos, .ref hg])), (hd, .inr (0, [.ref hr, .ref ht])), (hr, aI G 26181 a)]) := by
  refine Ct.intro (cc := cX6_hoursFrom) (maxL := 3) (ret := (some .int)) (lo0 := [some (.ref h6), some (.int (zI r)), some (.int (zI d))]) (by decide +kernel) rfl ⟨rfl, rfl⟩ (Nat.le_of_ble_eq_true rfl) rfl ?_
  intro X F T
  change Fx X (YX6_hoursFrom l G) at F
  change V X (YX6_hoursFrom l G) 0 0 0 _ _ _
  refine V.aload_n (q := 1) F dX6_hoursFrom_0 rfl rfl rfl ?_
  refine V.get (q := 4) F 0 0 dX6_hoursFrom_1 rfl rfl rfl inX6_hoursFrom_X6 (by decide) (List.mem_of_getElem? (i := 1) rfl) rfl ?_
  refine V.iload_n (q := 5) F dX6_hoursFrom_4 rfl rfl rfl ?_
  refine V.iload_n (q := 6) F dX6_hoursFrom_5 rfl rfl rfl ?_
  refine V.bipush (q := 8) F dX6_hoursFrom_6 rfl (by decide) ?_
  refine V.callS (q := 11) F [] dX6_hoursFrom_8 rfl (c_J9_floorMod_7cf53 l G  _ _ (by omega) (by omega)) gX6_hoursFrom_J9_floorMod_7cf53 rfl ydJ9_floorMod_7cf53 ⟨Nat.le_of_ble_eq_true rfl, Nat.le_of_ble_eq_true rfl⟩ rfl rfl (Nat.le_of_ble_eq_true rfl) rfl rfl ⟨Nat.zero_le _, Nat.zero_le _⟩ (kkf (st' := [_, _, _]) (ws' := [_, _, _]) rfl rfl ?_)
  refine V.callV (q := 14) F [1, 2] 1 dX6_hoursFrom_11 rfl (c_X0_directionHours l G hd hr ht _ _ _ (by omega) (by omega)) gX6_hoursFrom_X0_directionHours rfl rfl ydX0_directionHours ⟨Nat.le_of_ble_eq_true rfl, Nat.le_of_ble_eq_true rfl⟩ (ci := 0) rfl rfl rfl rfl (Nat.le_of_ble_eq_true rfl) rfl rfl ⟨Nat.zero_le _, Nat.zero_le _⟩ (kkf (st' := [_]) (ws' := [_, _, _]) rfl rfl ?_)
  exact V.iret F T dX6_hoursFrom_14 (fnI rfl rfl) [h6, hd, hr] rfl rfl

abbrev YX6_greatestSpeed (l : Launch) (G : Gx) : Sx := (cX6_greatestSpeed, 3, RX6, wsX6_greatestSpeed, rmD 3, l, G)
theorem ydX6_greatestSpeed : ydOk yX6_greatestSpeed 1 := by decide +kernel
theorem inX6_greatestSpeed_X6 : ∀ w ∈ wsX60, w ∈ wsX6_greatestSpeed := fun _ h => List.mem_cons_of_mem _ (List.mem_append_left _ (List.mem_append_right _ h))
set_option maxHeartbeats 1000000 in
set_option maxRecDepth 20000 in
theorem c_X6_greatestSpeed (l : Launch) (G : Gx) (h6 hd hr ht hh hsn htx hrd hs hos hg : Nat) (a : Int → Int) (bb r : Int) (h1 : 0 ≤ r ∧ r < 16) (hI : Inv a) : Ct l G yX6_greatestSpeed wsX6_greatestSpeed (rmD 3) [.ref h6, .int (zI r)] [(h6, .inr (6, [.ref hd, .ref hh, .ref hsn, .int (zI bb), .ref hrd, .ref htx, .ref hs, .ref hos, .ref hg])), (hd, .inr (0, [.ref hr, .ref ht])), (hr, aI G 26181 a)] (Fn (some (.int (zI (gsz a r 99)))) [(h6, .inr (6, [.ref hd, .ref hh, .ref hsn, .int (zI bb), .ref hrd, .ref htx, .ref hs, .ref hos, .ref hg])), (hd, .inr (0, [.ref hr, .ref ht])), (hr, aI G 26181 a)]) := by
  refine Ct.intro (cc := cX6_greatestSpeed) (maxL := 3) (ret := (some .int)) (lo0 := [some (.ref h6), some (.int (zI r)), none]) (by decide +kernel) rfl ⟨rfl, rfl⟩ (Nat.le_of_ble_eq_true rfl) rfl ?_
  intro X F T
  change Fx X (YX6_greatestSpeed l G) at F
  change V X (YX6_greatestSpeed l G) 0 0 0 _ _ _
  refine V.bipush (q := 2) F dX6_greatestSpeed_0 rfl (by decide) ?_
  refine V.istore_n (q := 3) (lo' := [_, _, _]) F dX6_greatestSpeed_2 rfl rfl (Nat.le_of_ble_eq_true rfl) rfl rfl ?_
  have L3 : ∀ (nq : Nat) (i : Int) (hi : 0 ≤ i ∧ i ≤ 99) (hg9 : gsz a r 99 = gsz a r i.toNat), (i).toNat < nq → V X (YX6_greatestSpeed l G) 0 0 3 [some (.ref h6), some (.int (zI r)), some (.int (zI i))] [] [(h6, .inr (6, [.ref hd, .ref hh, .ref hsn, .int (zI bb), .ref hrd, .ref htx, .ref hs, .ref hos, .ref hg])), (hd, .inr (0, [.ref hr, .ref ht])), (hr, aI G 26181 a)] := by
    intro n3
    induction n3 with
    | zero => intro i hi hg9 hm3; exact absurd hm3 (Nat.not_lt_zero _)
    | succ n3 ih3 =>
      intro i hi hg9 hm3
      have hb := fun h : 1 ≤ i => spz_rng hI h1 (s := i) ⟨h, hi.2⟩
      have hst : 1 ≤ i → gsz a r i.toNat = if 0 < spz a r i then i else gsz a r (i + -1).toNat := by
        intro h
        rw [show i.toNat = (i + -1).toNat + 1 by omega, gsz, show (((i + -1).toNat : Nat) : Int) + 1 = i by omega]
      refine V.iload_n (q := 4) F dX6_greatestSpeed_3 rfl rfl rfl ?_
      refine V.iconst (q := 5) F dX6_greatestSpeed_4 rfl ?_
      refine V.icmp_lt (q := 8) (tgt := 28) F dX6_greatestSpeed_5 rfl (by decide) (by omega) (fun k5 => ?_) (fun k5 => ?_)
      · refine V.bipush (q := 30) F dX6_greatestSpeed_28 rfl (by decide) ?_
        exact V.iret F T dX6_greatestSpeed_30 (fnI (by rw [hg9, show i.toNat = 0 by omega]; rfl) rfl) [h6, hd, hr] rfl rfl
      · refine V.aload_n (q := 9) F dX6_greatestSpeed_8 rfl rfl rfl ?_
        refine V.get (q := 12) F 0 0 dX6_greatestSpeed_9 rfl rfl rfl inX6_greatestSpeed_X6 (by decide) (List.mem_of_getElem? (i := 1) rfl) rfl ?_
        refine V.iload_n (q := 13) F dX6_greatestSpeed_12 rfl rfl rfl ?_
        refine V.iload_n (q := 14) F dX6_greatestSpeed_13 rfl rfl rfl ?_
        refine V.callV (q := 17) F [1, 2] 1 dX6_greatestSpeed_14 rfl (c_X0_speedHours l G hd hr ht _ _ _ (by omega) (by omega)) gX6_greatestSpeed_X0_speedHours rfl rfl ydX0_speedHours ⟨Nat.le_of_ble_eq_true rfl, Nat.le_of_ble_eq_true rfl⟩ (ci := 0) rfl rfl rfl rfl (Nat.le_of_ble_eq_true rfl) rfl rfl ⟨Nat.zero_le _, Nat.zero_le _⟩ (kkf (st' := [_]) (ws' := [_, _, _]) rfl rfl ?_)
        refine V.if_le (q := 20) (tgt := 22) F dX6_greatestSpeed_17 rfl (by decide) (by omega) (fun k17 => ?_) (fun k17 => ?_)
        · refine V.iinc (q := 25) (lo' := [_, _, _]) F dX6_greatestSpeed_22 rfl rfl (Nat.le_of_ble_eq_true rfl) rfl rfl ?_
          refine V.goto (tgt := 3) F dX6_greatestSpeed_25 (by decide) ?_
          exact ih3 (i + -1) (by omega) (by rw [hg9, hst (by omega), if_neg (by omega)]) (by omega)
        · refine V.iload_n (q := 21) F dX6_greatestSpeed_20 rfl rfl rfl ?_
          exact V.iret F T dX6_greatestSpeed_21 (fnI (by rw [hg9, hst (by omega), if_pos (by omega)]) rfl) [h6, hd, hr] rfl rfl
  exact L3 _ 99 (by omega) rfl (Nat.lt_succ_self _)

abbrev YX6_meanSpeed (l : Launch) (G : Gx) : Sx := (cX6_meanSpeed, 5, RX6, wsX6_meanSpeed, rmD 3, l, G)
theorem ydX6_meanSpeed : ydOk yX6_meanSpeed 1 := by decide +kernel
theorem inX6_meanSpeed_X6 : ∀ w ∈ wsX60, w ∈ wsX6_meanSpeed := fun _ h => List.mem_cons_of_mem _ (List.mem_append_left _ (List.mem_append_right _ h))
set_option maxHeartbeats 1000000 in
set_option maxRecDepth 20000 in
theorem c_X6_meanSpeed (l : Launch) (G : Gx) (h6 hd hr ht hh hsn htx hrd hs hos hg : Nat) (a : Int → Int) (bb r : Int) (h1 : 0 ≤ r ∧ r < 16) (hI : Inv a) : Ct l G yX6_meanSpeed wsX6_meanSpeed (rmD 3) [.ref h6, .int (zI r)] [(h6, .inr (6, [.ref hd, .ref hh, .ref hsn, .int (zI bb), .ref hrd, .ref htx, .ref hs, .ref hos, .ref hg])), (hd, .inr (0, [.ref hr, .ref ht])), (hr, aI G 26181 a)] (Fn (some (.int (zI (meanz a r)))) [(h6, .inr (6, [.ref hd, .ref hh, .ref hsn, .int (zI bb), .ref hrd, .ref htx, .ref hs, .ref hos, .ref hg])), (hd, .inr (0, [.ref hr, .ref ht])), (hr, aI G 26181 a)]) := by
  refine Ct.intro (cc := cX6_meanSpeed) (maxL := 5) (ret := (some .int)) (lo0 := [some (.ref h6), some (.int (zI r)), none, none, none]) (by decide +kernel) rfl ⟨rfl, rfl⟩ (Nat.le_of_ble_eq_true rfl) rfl ?_
  intro X F T
  change Fx X (YX6_meanSpeed l G) at F
  change V X (YX6_meanSpeed l G) 0 0 0 _ _ _
  have hw := hI.w h1
  refine V.aload_n (q := 1) F dX6_meanSpeed_0 rfl rfl rfl ?_
  refine V.get (q := 4) F 0 0 dX6_meanSpeed_1 rfl rfl rfl inX6_meanSpeed_X6 (by decide) (List.mem_of_getElem? (i := 1) rfl) rfl ?_
  refine V.iload_n (q := 5) F dX6_meanSpeed_4 rfl rfl rfl ?_
  refine V.callV (q := 8) F [1, 2] 1 dX6_meanSpeed_5 rfl (c_X0_windyHours l G hd hr ht _ _ (by omega)) gX6_meanSpeed_X0_windyHours rfl rfl ydX0_windyHours ⟨Nat.le_of_ble_eq_true rfl, Nat.le_of_ble_eq_true rfl⟩ (ci := 0) rfl rfl rfl rfl (Nat.le_of_ble_eq_true rfl) rfl rfl ⟨Nat.zero_le _, Nat.zero_le _⟩ (kkf (st' := [_]) (ws' := [_, _, _]) rfl rfl ?_)
  refine V.istore_n (q := 9) (lo' := [_, _, _, _, _]) F dX6_meanSpeed_8 rfl rfl (Nat.le_of_ble_eq_true rfl) rfl rfl ?_
  refine V.iload_n (q := 10) F dX6_meanSpeed_9 rfl rfl rfl ?_
  refine V.if_gt (q := 13) (tgt := 16) F dX6_meanSpeed_10 rfl (by decide) (by omega) (fun k10 => ?_) (fun k10 => ?_)
  · refine V.iconst (q := 17) F dX6_meanSpeed_16 rfl ?_
    refine V.istore_n (q := 18) (lo' := [_, _, _, _, _]) F dX6_meanSpeed_17 rfl rfl (Nat.le_of_ble_eq_true rfl) rfl rfl ?_
    refine V.iconst (q := 19) F dX6_meanSpeed_18 rfl ?_
    refine V.istore (q := 21) (lo' := [_, _, _, _, _]) F dX6_meanSpeed_19 rfl (Nat.le_of_ble_eq_true rfl) rfl rfl ?_
    have L21 : ∀ (nq : Nat) (i S : Int) (hi : 1 ≤ i ∧ i ≤ 100) (hS : S = wsum a r i), (100 - i).toNat < nq → V X (YX6_meanSpeed l G) 0 0 21 [some (.ref h6), some (.int (zI r)), some (.int (zI (a (25344 + r)))), some (.int (zI S)), some (.int (zI i))] [] [(h6, .inr (6, [.ref hd, .ref hh, .ref hsn, .int (zI bb), .ref hrd, .ref htx, .ref hs, .ref hos, .ref hg])), (hd, .inr (0, [.ref hr, .ref ht])), (hr, aI G 26181 a)] := by
      intro n21
      induction n21 with
      | zero => intro i S hi hS hm21; exact absurd hm21 (Nat.not_lt_zero _)
      | succ n21 ih21 =>
        intro i S hi hS hm21
        refine V.iload (q := 23) F dX6_meanSpeed_21 rfl rfl ?_
        refine V.bipush (q := 25) F dX6_meanSpeed_23 rfl (by decide) ?_
        refine V.icmp_gt (q := 28) (tgt := 50) F dX6_meanSpeed_25 rfl (by decide) (by omega) (fun k25 => ?_) (fun k25 => ?_)
        · have he : i = 100 := by omega
          subst he
          have hwr := wsum_rng hI h1 (i := 100) (by omega)
          refine V.iload_n (q := 51) F dX6_meanSpeed_50 rfl rfl rfl ?_
          refine V.iload_n (q := 52) F dX6_meanSpeed_51 rfl rfl rfl ?_
          refine V.idiv (q := 53) F dX6_meanSpeed_52 rfl ⟨by omega, by omega⟩ ?_
          exact V.iret F T dX6_meanSpeed_53 (fnI (by unfold meanz; rw [if_neg (by omega), hS]) rfl) [h6, hd, hr] rfl rfl
        · refine V.iload_n (q := 29) F dX6_meanSpeed_28 rfl rfl rfl ?_
          refine V.iload (q := 31) F dX6_meanSpeed_29 rfl rfl ?_
          refine V.aload_n (q := 32) F dX6_meanSpeed_31 rfl rfl rfl ?_
          refine V.get (q := 35) F 0 0 dX6_meanSpeed_32 rfl rfl rfl inX6_meanSpeed_X6 (by decide) (List.mem_of_getElem? (i := 1) rfl) rfl ?_
          refine V.iload_n (q := 36) F dX6_meanSpeed_35 rfl rfl rfl ?_
          refine V.iload (q := 38) F dX6_meanSpeed_36 rfl rfl ?_
          refine V.callV (q := 41) F [1, 2] 1 dX6_meanSpeed_38 rfl (c_X0_speedHours l G hd hr ht _ _ _ (by omega) (by omega)) gX6_meanSpeed_X0_speedHours rfl rfl ydX0_speedHours ⟨Nat.le_of_ble_eq_true rfl, Nat.le_of_ble_eq_true rfl⟩ (ci := 0) rfl rfl rfl rfl (Nat.le_of_ble_eq_true rfl) rfl rfl ⟨Nat.zero_le _, Nat.zero_le _⟩ (kkf (st' := [_, _, _]) (ws' := [_, _, _]) rfl rfl ?_)
          refine V.imul (q := 42) F dX6_meanSpeed_41 rfl ?_
          refine V.iadd (q := 43) F dX6_meanSpeed_42 rfl ?_
          refine V.istore_n (q := 44) (lo' := [_, _, _, _, _]) F dX6_meanSpeed_43 rfl rfl (Nat.le_of_ble_eq_true rfl) rfl rfl ?_
          refine V.iinc (q := 47) (lo' := [_, _, _, _, _]) F dX6_meanSpeed_44 rfl rfl (Nat.le_of_ble_eq_true rfl) rfl rfl ?_
          refine V.goto (tgt := 21) F dX6_meanSpeed_47 (by decide) ?_
          exact ih21 (i + 1) _ (by omega) (by rw [hS]; exact (sz_succ _ hi.1).symm) (by omega)
    exact L21 _ 1 0 (by omega) (sz_self _ _).symm (Nat.lt_succ_self _)
  · refine V.bipush (q := 15) F dX6_meanSpeed_13 rfl (by decide) ?_
    exact V.iret F T dX6_meanSpeed_15 (fnI (by unfold meanz; rw [if_pos (by omega)]) rfl) [h6, hd, hr] rfl rfl

abbrev YX6_prevailingDirection (l : Launch) (G : Gx) : Sx := (cX6_prevailingDirection, 6, RX6, wsX6_prevailingDirection, rmD 2, l, G)
theorem ydX6_prevailingDirection : ydOk yX6_prevailingDirection 1 := by decide +kernel
theorem inX6_prevailingDirection_X6 : ∀ w ∈ wsX60, w ∈ wsX6_prevailingDirection := fun _ h => List.mem_cons_of_mem _ (List.mem_append_left _ (List.mem_append_right _ h))
set_option maxHeartbeats 1000000 in
set_option maxRecDepth 20000 in
theorem c_X6_prevailingDirection (l : Launch) (G : Gx) (h6 hd hr ht hh hsn htx hrd hs hos hg : Nat) (a : Int → Int) (bb r : Int) (h1 : 0 ≤ r ∧ r < 16) (hI : Inv a) : Ct l G yX6_prevailingDirection wsX6_prevailingDirection (rmD 2) [.ref h6, .int (zI r)] [(h6, .inr (6, [.ref hd, .ref hh, .ref hsn, .int (zI bb), .ref hrd, .ref htx, .ref hs, .ref hos, .ref hg])), (hd, .inr (0, [.ref hr, .ref ht])), (hr, aI G 26181 a)] (Fn (some (.int (zI (prevz a r)))) [(h6, .inr (6, [.ref hd, .ref hh, .ref hsn, .int (zI bb), .ref hrd, .ref htx, .ref hs, .ref hos, .ref hg])), (hd, .inr (0, [.ref hr, .ref ht])), (hr, aI G 26181 a)]) := by
  refine Ct.intro (cc := cX6_prevailingDirection) (maxL := 6) (ret := (some .int)) (lo0 := [some (.ref h6), some (.int (zI r)), none, none, none, none]) (by decide +kernel) rfl ⟨rfl, rfl⟩ (Nat.le_of_ble_eq_true rfl) rfl ?_
  intro X F T
  change Fx X (YX6_prevailingDirection l G) at F
  change V X (YX6_prevailingDirection l G) 0 0 0 _ _ _
  refine V.iconst (q := 1) F dX6_prevailingDirection_0 rfl ?_
  refine V.istore_n (q := 2) (lo' := [_, _, _, _, _, _]) F dX6_prevailingDirection_1 rfl rfl (Nat.le_of_ble_eq_true rfl) rfl rfl ?_
  refine V.bipush (q := 4) F dX6_prevailingDirection_2 rfl (by decide) ?_
  refine V.istore_n (q := 5) (lo' := [_, _, _, _, _, _]) F dX6_prevailingDirection_4 rfl rfl (Nat.le_of_ble_eq_true rfl) rfl rfl ?_
  refine V.iconst (q := 6) F dX6_prevailingDirection_5 rfl ?_
  refine V.istore (q := 8) (lo' := [_, _, _, _, _, _]) F dX6_prevailingDirection_6 rfl (Nat.le_of_ble_eq_true rfl) rfl rfl ?_
  have L8 : ∀ (nq : Nat) (i m b : Int) (hi : 0 ≤ i ∧ i ≤ 16) (hm : (m, b) = pvz (fun d => hbz a r d 1 100) i.toNat) (hm2 : 0 ≤ m ∧ m ≤ 9999), (16 - i).toNat < nq → V X (YX6_prevailingDirection l G) 0 0 8 [some (.ref h6), some (.int (zI r)), some (.int (zI m)), some (.int (zI b)), some (.int (zI i)), none] [] [(h6, .inr (6, [.ref hd, .ref hh, .ref hsn, .int (zI bb), .ref hrd, .ref htx, .ref hs, .ref hos, .ref hg])), (hd, .inr (0, [.ref hr, .ref ht])), (hr, aI G 26181 a)] := by
    intro n8
    induction n8 with
    | zero => intro i m b hi hm hm2 hm8; exact absurd hm8 (Nat.not_lt_zero _)
    | succ n8 ih8 =>
      intro i m b hi hm hm2 hm8
      have hb := fun h : i < 16 => dirH_rng hI h1 (d := i) ⟨hi.1, h⟩
      refine V.iload (q := 10) F dX6_prevailingDirection_8 rfl rfl ?_
      refine V.bipush (q := 12) F dX6_prevailingDirection_10 rfl (by decide) ?_
      refine V.icmp_ge (q := 15) (tgt := 45) F dX6_prevailingDirection_12 rfl (by decide) (by omega) (fun k12 => ?_) (fun k12 => ?_)
      · refine V.iload_n (q := 46) F dX6_prevailingDirection_45 rfl rfl rfl ?_
        exact V.iret F T dX6_prevailingDirection_46 (fnI (by unfold prevz; rw [show (16 : Nat) = i.toNat by omega, ← hm]) rfl) [h6, hd, hr] rfl rfl
      · refine V.aload_n (q := 16) F dX6_prevailingDirection_15 rfl rfl rfl ?_
        refine V.get (q := 19) F 0 0 dX6_prevailingDirection_16 rfl rfl rfl inX6_prevailingDirection_X6 (by decide) (List.mem_of_getElem? (i := 1) rfl) rfl ?_
        refine V.iload_n (q := 20) F dX6_prevailingDirection_19 rfl rfl rfl ?_
        refine V.iload (q := 22) F dX6_prevailingDirection_20 rfl rfl ?_
        refine V.callV (q := 25) F [1, 2] 1 dX6_prevailingDirection_22 rfl (c_X0_directionHours l G hd hr ht _ _ _ (by omega) (by omega)) gX6_prevailingDirection_X0_directionHours rfl rfl ydX0_directionHours ⟨Nat.le_of_ble_eq_true rfl, Nat.le_of_ble_eq_true rfl⟩ (ci := 0) rfl rfl rfl rfl (Nat.le_of_ble_eq_true rfl) rfl rfl ⟨Nat.zero_le _, Nat.zero_le _⟩ (kkf (st' := [_]) (ws' := [_, _, _]) rfl rfl ?_)
        refine V.istore (q := 27) (lo' := [_, _, _, _, _, _]) F dX6_prevailingDirection_25 rfl (Nat.le_of_ble_eq_true rfl) rfl rfl ?_
        refine V.iload (q := 29) F dX6_prevailingDirection_27 rfl rfl ?_
        refine V.iload_n (q := 30) F dX6_prevailingDirection_29 rfl rfl rfl ?_
        refine V.icmp_le (q := 33) (tgt := 39) F dX6_prevailingDirection_30 rfl (by decide) (by omega) (fun k30 => ?_) (fun k30 => ?_)
        · refine V.iinc (q := 42) (lo' := [_, _, _, _, _, _]) F dX6_prevailingDirection_39 rfl rfl (Nat.le_of_ble_eq_true rfl) rfl rfl ?_
          refine V.goto (tgt := 8) F dX6_prevailingDirection_42 (by decide) ?_
          refine V.mask [true, true, true, true, true, false] (lo' := [_, _, _, _, _, _]) rfl ?_
          exact ih8 (i + 1) _ _ (by omega) (by rw [pvz_s _ hi.1, ← hm]; first | rw [if_pos (show m < hbz a r i 1 100 by omega)] | rw [if_neg (show ¬ m < hbz a r i 1 100 by omega)]) (by omega) (by omega)
        · refine V.iload (q := 35) F dX6_prevailingDirection_33 rfl rfl ?_
          refine V.istore_n (q := 36) (lo' := [_, _, _, _, _, _]) F dX6_prevailingDirection_35 rfl rfl (Nat.le_of_ble_eq_true rfl) rfl rfl ?_
          refine V.iload (q := 38) F dX6_prevailingDirection_36 rfl rfl ?_
          refine V.istore_n (q := 39) (lo' := [_, _, _, _, _, _]) F dX6_prevailingDirection_38 rfl rfl (Nat.le_of_ble_eq_true rfl) rfl rfl ?_
          refine V.iinc (q := 42) (lo' := [_, _, _, _, _, _]) F dX6_prevailingDirection_39 rfl rfl (Nat.le_of_ble_eq_true rfl) rfl rfl ?_
          refine V.goto (tgt := 8) F dX6_prevailingDirection_42 (by decide) ?_
          refine V.mask [true, true, true, true, true, false] (lo' := [_, _, _, _, _, _]) rfl ?_
          exact ih8 (i + 1) _ _ (by omega) (by rw [pvz_s _ hi.1, ← hm]; first | rw [if_pos (show m < hbz a r i 1 100 by omega)] | rw [if_neg (show ¬ m < hbz a r i 1 100 by omega)]) (by omega) (by omega)
  refine V.mask [true, true, true, true, true, false] (lo' := [_, _, _, _, _, _]) rfl ?_
  exact L8 _ 0 0 (-5) (by omega) rfl (by omega) (Nat.lt_succ_self _)

/-- the answer of obstacleTo, and what it leaves of the gap -/
def OBp (G : Gx) (h6 hd hr ht hh hsn htx hrd hs hos hg hgs hgsr hgsm hgsg : Nat) (a : Int → Int) (bb r : Int) : Option Value → va_W → Prop := fun q w => ∃ (df dq sc mi : Int) (f m : Int → Int), q = some (.int (zI (obsz a r))) ∧ w = [(h6, .inr (6, [.ref hd, .ref hh, .ref hsn, .int (zI bb), .ref hrd, .ref htx, .ref hs, .ref hos, .ref hg])), (hd, .inr (0, [.ref hr, .ref ht])), (hr, aI G 26181 a), (hg, .inr (1, [.ref hgs, .int (zI df), .int (zI dq), .int (zI sc)])), (hgs, .inr (4, [.ref hgsr, .ref hgsm, .ref hgsg, .int (zI mi)])), (hgsr, aI G 48 f), (hgsm, aI G 48 m)] ∧ (obsz a r ≠ 1 → df = difz a r ∧ dq = disz a r ∧ sc = scrz a r ∧ ∀ j, 0 ≤ j → j < 48 → f j = shr a r j)

abbrev YX6_obstacleTo (l : Launch) (G : Gx) : Sx := (cX6_obstacleTo, 2, RX6, wsX6_obstacleTo, rmD 5, l, G)
theorem ydX6_obstacleTo : ydOk yX6_obstacleTo 1 := by decide +kernel
theorem inX6_obstacleTo_X1 : ∀ w ∈ wsX10, w ∈ wsX6_obstacleTo := fun _ h => List.mem_cons_of_mem _ (List.mem_append_left _ (List.mem_append_left _ (List.mem_append_right _ h)))
theorem inX6_obstacleTo_X6 : ∀ w ∈ wsX60, w ∈ wsX6_obstacleTo := fun _ h => List.mem_cons_of_mem _ (List.mem_append_left _ (List.mem_append_left _ (List.mem_append_left _ (List.mem_append_right _ h))))
set_option maxHeartbeats 1000000 in
set_option maxRecDepth 20000 in
theorem c_X6_obstacleTo (l : Launch) (G : Gx) (h6 hd hr ht hh hsn htx hrd hs hos hg hgs hgsr hgsm hgsg : Nat) (a f m : Int → Int) (bb df dq sc mi r : Int) (h1 : 0 ≤ r ∧ r < 16) (hI : Inv a) : Ct l G yX6_obstacleTo wsX6_obstacleTo (rmD 5) [.ref h6, .int (zI r)] [(h6, .inr (6, [.ref hd, .ref hh, .ref hsn, .int (zI bb), .ref hrd, .ref htx, .ref hs, .ref hos, .ref hg])), (hd, .inr (0, [.ref hr, .ref ht])), (hr, aI G 26181 a), (hg, .inr (1, [.ref hgs, .int (zI df), .int (zI dq), .int (zI sc)])), (hgs, .inr (4, [.ref hgsr, .ref hgsm, .ref hgsg, .int (zI mi)])), (hgsr, aI G 48 f), (hgsm, aI G 48 m)] (OBp G h6 hd hr ht hh hsn htx hrd hs hos hg hgs hgsr hgsm hgsg a bb r) := by
  refine Ct.intro (cc := cX6_obstacleTo) (maxL := 2) (ret := (some .int)) (lo0 := [some (.ref h6), some (.int (zI r))]) (by decide +kernel) rfl ⟨rfl, rfl⟩ (Nat.le_of_ble_eq_true rfl) rfl ?_
  intro X F T
  change Fx X (YX6_obstacleTo l G) at F
  change V X (YX6_obstacleTo l G) 0 0 0 _ _ _
  have hw := hI.w h1
  have hdr := difz_rng (a := a) r
  have hsr := scrz_rng (a := a) r
  have hgc := hI.p (j := 26160 + r) (by omega) (by omega)
  have hset2 := hI.2.2.1.2.2.2
  have hset3 := hI.1 26178
  have eo : obsz a r = if allz a r = 0 then 1 else if difz a r = 0 then 2 else if 0 < scrz a r ∧ a 26178 < a (26160 + r) + scrz a r then 3 else 0 := rfl
  have ea : allz a r = a (25344 + r) + a (25360 + r) := rfl
  refine V.aload_n (q := 1) F dX6_obstacleTo_0 rfl rfl rfl ?_
  refine V.get (q := 4) F 0 0 dX6_obstacleTo_1 rfl rfl rfl inX6_obstacleTo_X6 (by decide) (List.mem_of_getElem? (i := 1) rfl) rfl ?_
  refine V.iload_n (q := 5) F dX6_obstacleTo_4 rfl rfl rfl ?_
  refine V.callV (q := 8) F [1, 2] 1 dX6_obstacleTo_5 rfl (c_X0_allHours l G hd hr ht _ _ (by omega)) gX6_obstacleTo_X0_allHours rfl rfl ydX0_allHours ⟨Nat.le_of_ble_eq_true rfl, Nat.le_of_ble_eq_true rfl⟩ (ci := 0) rfl rfl rfl rfl (Nat.le_of_ble_eq_true rfl) rfl rfl ⟨Nat.zero_le _, Nat.zero_le _⟩ (kkf (st' := [_]) (ws' := [_, _, _, _, _, _, _]) rfl rfl ?_)
  refine V.if_ne (q := 11) (tgt := 13) F dX6_obstacleTo_8 rfl (by decide) (by omega) (fun k8 => ?_) (fun k8 => ?_)
  · refine V.aload_n (q := 14) F dX6_obstacleTo_13 rfl rfl rfl ?_
    refine V.get (q := 17) F 0 8 dX6_obstacleTo_14 rfl rfl rfl inX6_obstacleTo_X6 (by decide) (List.mem_of_getElem? (i := 2) rfl) rfl ?_
    refine V.aload_n (q := 18) F dX6_obstacleTo_17 rfl rfl rfl ?_
    refine V.get (q := 21) F 0 0 dX6_obstacleTo_18 rfl rfl rfl inX6_obstacleTo_X6 (by decide) (List.mem_of_getElem? (i := 1) rfl) rfl ?_
    refine V.iload_n (q := 22) F dX6_obstacleTo_21 rfl rfl rfl ?_
    refine V.callV (q := 25) F [3, 4, 5, 6, 1, 2] 3 dX6_obstacleTo_22 rfl (c_X1_measure l G hg hgs hgsr hgsm hgsg hd hr ht _ _ _ _ _ _ _ _ (by omega) hI) gX6_obstacleTo_X1_measure rfl rfl ydX1_measure ⟨Nat.le_of_ble_eq_true rfl, Nat.le_of_ble_eq_true rfl⟩ (ci := 1) rfl rfl rfl rfl (Nat.le_of_ble_eq_true rfl) rfl rfl ⟨Nat.zero_le _, Nat.zero_le _⟩ (kkf (st' := []) (ws' := [_, _, _, _, _, _, _]) rfl rfl ?_)
    refine V.aload_n (q := 26) F dX6_obstacleTo_25 rfl rfl rfl ?_
    refine V.get (q := 29) F 0 8 dX6_obstacleTo_26 rfl rfl rfl inX6_obstacleTo_X6 (by decide) (List.mem_of_getElem? (i := 2) rfl) rfl ?_
    refine V.get (q := 32) F 3 1 dX6_obstacleTo_29 rfl rfl rfl inX6_obstacleTo_X1 (by decide) (List.mem_of_getElem? (i := 3) rfl) rfl ?_
    refine V.if_ne (q := 35) (tgt := 37) F dX6_obstacleTo_32 rfl (by decide) (by omega) (fun k32 => ?_) (fun k32 => ?_)
    · refine V.aload_n (q := 38) F dX6_obstacleTo_37 rfl rfl rfl ?_
      refine V.get (q := 41) F 0 8 dX6_obstacleTo_38 rfl rfl rfl inX6_obstacleTo_X6 (by decide) (List.mem_of_getElem? (i := 2) rfl) rfl ?_
      refine V.get (q := 44) F 3 3 dX6_obstacleTo_41 rfl rfl rfl inX6_obstacleTo_X1 (by decide) (List.mem_of_getElem? (i := 4) rfl) rfl ?_
      refine V.if_le (q := 47) (tgt := 76) F dX6_obstacleTo_44 rfl (by decide) (by omega) (fun k44 => ?_) (fun k44 => ?_)
      · refine V.iconst (q := 77) F dX6_obstacleTo_76 rfl ?_
        exact V.iret F T dX6_obstacleTo_77 ⟨_, _, _, _, _, _, (by first | rw [show obsz a r = 2 by omega] | rw [show obsz a r = 3 by omega] | rw [show obsz a r = 0 by omega]), rfl, fun _ => ⟨rfl, rfl, rfl, fun j h3 h4 => fil_in _ _ h3 h4⟩⟩ [h6, hd, hr, hg, hgs, hgsr, hgsm] rfl rfl
      · refine V.aload_n (q := 48) F dX6_obstacleTo_47 rfl rfl rfl ?_
        refine V.get (q := 51) F 0 0 dX6_obstacleTo_48 rfl rfl rfl inX6_obstacleTo_X6 (by decide) (List.mem_of_getElem? (i := 1) rfl) rfl ?_
        refine V.iload_n (q := 52) F dX6_obstacleTo_51 rfl rfl rfl ?_
        refine V.callV (q := 55) F [1, 2] 1 dX6_obstacleTo_52 rfl (c_X0_scrapes l G hd hr ht _ _ (by omega)) gX6_obstacleTo_X0_scrapes rfl rfl ydX0_scrapes ⟨Nat.le_of_ble_eq_true rfl, Nat.le_of_ble_eq_true rfl⟩ (ci := 0) rfl rfl rfl rfl (Nat.le_of_ble_eq_true rfl) rfl rfl ⟨Nat.zero_le _, Nat.zero_le _⟩ (kkf (st' := [_]) (ws' := [_, _, _, _, _, _, _]) rfl rfl ?_)
        refine V.aload_n (q := 56) F dX6_obstacleTo_55 rfl rfl rfl ?_
        refine V.get (q := 59) F 0 8 dX6_obstacleTo_56 rfl rfl rfl inX6_obstacleTo_X6 (by decide) (List.mem_of_getElem? (i := 2) rfl) rfl ?_
        refine V.get (q := 62) F 3 3 dX6_obstacleTo_59 rfl rfl rfl inX6_obstacleTo_X1 (by decide) (List.mem_of_getElem? (i := 4) rfl) rfl ?_
        refine V.iadd (q := 63) F dX6_obstacleTo_62 rfl ?_
        refine V.aload_n (q := 64) F dX6_obstacleTo_63 rfl rfl rfl ?_
        refine V.get (q := 67) F 0 0 dX6_obstacleTo_64 rfl rfl rfl inX6_obstacleTo_X6 (by decide) (List.mem_of_getElem? (i := 1) rfl) rfl ?_
        refine V.iconst (q := 68) F dX6_obstacleTo_67 rfl ?_
        refine V.callV (q := 71) F [1, 2] 1 dX6_obstacleTo_68 rfl (c_X0_setting l G hd hr ht _ _ (by omega)) gX6_obstacleTo_X0_setting rfl rfl ydX0_setting ⟨Nat.le_of_ble_eq_true rfl, Nat.le_of_ble_eq_true rfl⟩ (ci := 0) rfl rfl rfl rfl (Nat.le_of_ble_eq_true rfl) rfl rfl ⟨Nat.zero_le _, Nat.zero_le _⟩ (kkf (st' := [_, _]) (ws' := [_, _, _, _, _, _, _]) rfl rfl ?_)
        rw [show (26176 + 2 : Int) = 26178 from rfl]
        refine V.icmp_le (q := 74) (tgt := 76) F dX6_obstacleTo_71 rfl (by decide) (by omega) (fun k71 => ?_) (fun k71 => ?_)
        · refine V.iconst (q := 77) F dX6_obstacleTo_76 rfl ?_
          exact V.iret F T dX6_obstacleTo_77 ⟨_, _, _, _, _, _, (by first | rw [show obsz a r = 2 by omega] | rw [show obsz a r = 3 by omega] | rw [show obsz a r = 0 by omega]), rfl, fun _ => ⟨rfl, rfl, rfl, fun j h3 h4 => fil_in _ _ h3 h4⟩⟩ [h6, hd, hr, hg, hgs, hgsr, hgsm] rfl rfl
        · refine V.iconst (q := 75) F dX6_obstacleTo_74 rfl ?_
          exact V.iret F T dX6_obstacleTo_75 ⟨_, _, _, _, _, _, (by first | rw [show obsz a r = 2 by omega] | rw [show obsz a r = 3 by omega] | rw [show obsz a r = 0 by omega]), rfl, fun _ => ⟨rfl, rfl, rfl, fun j h3 h4 => fil_in _ _ h3 h4⟩⟩ [h6, hd, hr, hg, hgs, hgsr, hgsm] rfl rfl
    · refine V.iconst (q := 36) F dX6_obstacleTo_35 rfl ?_
      exact V.iret F T dX6_obstacleTo_36 ⟨_, _, _, _, _, _, (by first | rw [show obsz a r = 2 by omega] | rw [show obsz a r = 3 by omega] | rw [show obsz a r = 0 by omega]), rfl, fun _ => ⟨rfl, rfl, rfl, fun j h3 h4 => fil_in _ _ h3 h4⟩⟩ [h6, hd, hr, hg, hgs, hgsr, hgsm] rfl rfl
  · refine V.iconst (q := 12) F dX6_obstacleTo_11 rfl ?_
    exact V.iret F T dX6_obstacleTo_12 ⟨_, _, _, _, _, _, (by rw [show obsz a r = 1 by omega]), rfl, fun h9 => absurd (by omega) h9⟩ [h6, hd, hr, hg, hgs, hgsr, hgsm] rfl rfl

def PNp (G : Gx) (h6 hd hr ht hh hsn htx hrd hs hos hg hgs hgsr hgsm hgsg : Nat) (a : Int → Int) (bb v : Int) : Option Value → va_W → Prop := fun q w => ∃ (df dq sc mi : Int) (f m : Int → Int), q = some (.int (zI v)) ∧ w = [(h6, .inr (6, [.ref hd, .ref hh, .ref hsn, .int (zI bb), .ref hrd, .ref htx, .ref hs, .ref hos, .ref hg])), (hd, .inr (0, [.ref hr, .ref ht])), (hr, aI G 26181 a), (hg, .inr (1, [.ref hgs, .int (zI df), .int (zI dq), .int (zI sc)])), (hgs, .inr (4, [.ref hgsr, .ref hgsm, .ref hgsg, .int (zI mi)])), (hgsr, aI G 48 f), (hgsm, aI G 48 m)]

abbrev YX6_platesNotAsDue (l : Launch) (G : Gx) : Sx := (cX6_platesNotAsDue, 3, RX6, wsX6_platesNotAsDue, rmD 5, l, G)
theorem ydX6_platesNotAsDue : ydOk yX6_platesNotAsDue 0 := by decide +kernel
theorem inX6_platesNotAsDue_X1 : ∀ w ∈ wsX10, w ∈ wsX6_platesNotAsDue := fun _ h => List.mem_cons_of_mem _ (List.mem_append_left _ (List.mem_append_left _ (List.mem_append_right _ h)))
theorem inX6_platesNotAsDue_X6 : ∀ w ∈ wsX60, w ∈ wsX6_platesNotAsDue := fun _ h => List.mem_cons_of_mem _ (List.mem_append_left _ (List.mem_append_left _ (List.mem_append_left _ (List.mem_append_right _ h))))
set_option maxHeartbeats 1000000 in
set_option maxRecDepth 20000 in
theorem c_X6_platesNotAsDue (l : Launch) (G : Gx) (h6 hd hr ht hh hsn htx hrd hs hos hg hgs hgsr hgsm hgsg : Nat) (a f m : Int → Int) (bb df dq sc mi : Int) (hI : Inv a) : Ct l G yX6_platesNotAsDue wsX6_platesNotAsDue (rmD 5) [.ref h6] [(h6, .inr (6, [.ref hd, .ref hh, .ref hsn, .int (zI bb), .ref hrd, .ref htx, .ref hs, .ref hos, .ref hg])), (hd, .inr (0, [.ref hr, .ref ht])), (hr, aI G 26181 a), (hg, .inr (1, [.ref hgs, .int (zI df), .int (zI dq), .int (zI sc)])), (hgs, .inr (4, [.ref hgsr, .ref hgsm, .ref hgsg, .int (zI mi)])), (hgsr, aI G 48 f), (hgsm, aI G 48 m)] (PNp G h6 hd hr ht hh hsn htx hrd hs hos hg hgs hgsr hgsm hgsg a bb (pnad a 16)) := by
  refine Ct.intro (cc := cX6_platesNotAsDue) (maxL := 3) (ret := (some .int)) (lo0 := [some (.ref h6), none, none]) (by decide +kernel) rfl ⟨rfl, rfl⟩ (Nat.le_of_ble_eq_true rfl) rfl ?_
  intro X F T
  change Fx X (YX6_platesNotAsDue l G) at F
  change V X (YX6_platesNotAsDue l G) 0 0 0 _ _ _
  refine V.iconst (q := 1) F dX6_platesNotAsDue_0 rfl ?_
  refine V.istore_n (q := 2) (lo' := [_, _, _]) F dX6_platesNotAsDue_1 rfl rfl (Nat.le_of_ble_eq_true rfl) rfl rfl ?_
  refine V.iconst (q := 3) F dX6_platesNotAsDue_2 rfl ?_
  refine V.istore_n (q := 4) (lo' := [_, _, _]) F dX6_platesNotAsDue_3 rfl rfl (Nat.le_of_ble_eq_true rfl) rfl rfl ?_
  have L4 : ∀ (nq : Nat) (i S df dq sc mi : Int) (f m : Int → Int) (hi : 0 ≤ i ∧ i ≤ 16) (hS : S = pnad a i), (16 - i).toNat < nq → V X (YX6_platesNotAsDue l G) 0 0 4 [some (.ref h6), some (.int (zI S)), some (.int (zI i))] [] [(h6, .inr (6, [.ref hd, .ref hh, .ref hsn, .int (zI bb), .ref hrd, .ref htx, .ref hs, .ref hos, .ref hg])), (hd, .inr (0, [.ref hr, .ref ht])), (hr, aI G 26181 a), (hg, .inr (1, [.ref hgs, .int (zI df), .int (zI dq), .int (zI sc)])), (hgs, .inr (4, [.ref hgsr, .ref hgsm, .ref hgsg, .int (zI mi)])), (hgsr, aI G 48 f), (hgsm, aI G 48 m)] := by
    intro n4
    induction n4 with
    | zero => intro i S df dq sc mi f m hi hS hm4; exact absurd hm4 (Nat.not_lt_zero _)
    | succ n4 ih4 =>
      intro i S df dq sc mi f m hi hS hm4
      have hdr := difz_rng (a := a) i
      refine V.iload_n (q := 5) F dX6_platesNotAsDue_4 rfl rfl rfl ?_
      refine V.bipush (q := 7) F dX6_platesNotAsDue_5 rfl (by decide) ?_
      refine V.icmp_ge (q := 10) (tgt := 41) F dX6_platesNotAsDue_7 rfl (by decide) (by omega) (fun k7 => ?_) (fun k7 => ?_)
      · refine V.iload_n (q := 42) F dX6_platesNotAsDue_41 rfl rfl rfl ?_
        exact V.iret F T dX6_platesNotAsDue_42 ⟨_, _, _, _, _, _, (by rw [hS, show i = 16 by omega]), rfl⟩ [h6, hd, hr, hg, hgs, hgsr, hgsm] rfl rfl
      · refine V.aload_n (q := 11) F dX6_platesNotAsDue_10 rfl rfl rfl ?_
        refine V.get (q := 14) F 0 8 dX6_platesNotAsDue_11 rfl rfl rfl inX6_platesNotAsDue_X6 (by decide) (List.mem_of_getElem? (i := 1) rfl) rfl ?_
        refine V.aload_n (q := 15) F dX6_platesNotAsDue_14 rfl rfl rfl ?_
        refine V.get (q := 18) F 0 0 dX6_platesNotAsDue_15 rfl rfl rfl inX6_platesNotAsDue_X6 (by decide) (List.mem_of_getElem? (i := 2) rfl) rfl ?_
        refine V.iload_n (q := 19) F dX6_platesNotAsDue_18 rfl rfl rfl ?_
        refine V.callV (q := 22) F [3, 4, 5, 6, 1, 2] 3 dX6_platesNotAsDue_19 rfl (c_X1_measure l G hg hgs hgsr hgsm hgsg hd hr ht _ _ _ _ _ _ _ _ (by omega) hI) gX6_platesNotAsDue_X1_measure rfl rfl ydX1_measure ⟨Nat.le_of_ble_eq_true rfl, Nat.le_of_ble_eq_true rfl⟩ (ci := 1) rfl rfl rfl rfl (Nat.le_of_ble_eq_true rfl) rfl rfl ⟨Nat.zero_le _, Nat.zero_le _⟩ (kkf (st' := []) (ws' := [_, _, _, _, _, _, _]) rfl rfl ?_)
        refine V.aload_n (q := 23) F dX6_platesNotAsDue_22 rfl rfl rfl ?_
        refine V.get (q := 26) F 0 8 dX6_platesNotAsDue_23 rfl rfl rfl inX6_platesNotAsDue_X6 (by decide) (List.mem_of_getElem? (i := 1) rfl) rfl ?_
        refine V.get (q := 29) F 3 1 dX6_platesNotAsDue_26 rfl rfl rfl inX6_platesNotAsDue_X1 (by decide) (List.mem_of_getElem? (i := 3) rfl) rfl ?_
        refine V.if_le (q := 32) (tgt := 35) F dX6_platesNotAsDue_29 rfl (by decide) (by omega) (fun k29 => ?_) (fun k29 => ?_)
        · refine V.iinc (q := 38) (lo' := [_, _, _]) F dX6_platesNotAsDue_35 rfl rfl (Nat.le_of_ble_eq_true rfl) rfl rfl ?_
          refine V.goto (tgt := 4) F dX6_platesNotAsDue_38 (by decide) ?_
          exact ih4 (i + 1) _ _ _ _ _ _ _ (by omega) (by unfold pnad; rw [sz_succ _ hi.1]; show _ = pnad a i + _; rw [← hS]; first | rw [if_pos k29] | (rw [if_neg (by omega)]; exact (Int.add_zero _).symm)) (by omega)
        · refine V.iinc (q := 35) (lo' := [_, _, _]) F dX6_platesNotAsDue_32 rfl rfl (Nat.le_of_ble_eq_true rfl) rfl rfl ?_
          refine V.iinc (q := 38) (lo' := [_, _, _]) F dX6_platesNotAsDue_35 rfl rfl (Nat.le_of_ble_eq_true rfl) rfl rfl ?_
          refine V.goto (tgt := 4) F dX6_platesNotAsDue_38 (by decide) ?_
          exact ih4 (i + 1) _ _ _ _ _ _ _ (by omega) (by unfold pnad; rw [sz_succ _ hi.1]; show _ = pnad a i + _; rw [← hS]; first | rw [if_pos k29] | (rw [if_neg (by omega)]; exact (Int.add_zero _).symm)) (by omega)
  exact L4 _ 0 0 _ _ _ _ _ _ (by omega) (sz_self _ _).symm (Nat.lt_succ_self _)

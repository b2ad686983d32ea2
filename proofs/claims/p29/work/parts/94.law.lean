/-! ### cells that are made; constructors -/
def rmA (d mc ms : Nat) : Room := { frames := d, cells := mc, slots := ms, locals := 40 * d }
section VN
variable {X : Cx} {Y : Sx} {k n k' n' pc q : Nat} {lo lo' : List (Option Value)} {st : List Value} {ws ws' : va_W}
theorem V.sub (is : List Nat) (hn : va_nd is = true) (hs : is.map (fun i => ws[i]?) = ws'.map some) (kk : V X Y k n pc lo st ws') : V X Y k n pc lo st ws := by
  obtain ⟨p, e, s, m, args, below, meth, c, Q, A⟩ := X
  obtain ⟨cc, nL, own, Ts, R, l, G⟩ := Y
  intro H locs ls hls hP hD hS
  have e : is.filterMap (fun i => ws[i]?) = ws' := by
    have h := congrArg (List.filterMap id) hs
    rw [List.filterMap_map, List.filterMap_map] at h
    simpa using h
  exact kk H locs ls hls (hP.sub is e) (hD.sub is hn hs) hS
theorem newT {G : Gx} {s : State} {tys : List (ClassId × FieldType)} {cA cB : ClassId} {ty : FieldType} (h1 : va_RA s cA ty) (h2 : va_RA s cB ty) (hp : ∀ C, ty ≠ .object C) : cA = cB := by
  cases ty with
  | object C => exact absurd rfl (hp C)
  | _ => exact Option.some.inj (Eq.trans (Eq.symm h1) h2)
theorem V.newI (F : Fx X Y) {N : Nat} {z : Int} (d : decode Y.1 pc = .ok (.newarray .int, 2)) (hq : pc + 2 = q) (hw : Cond.arrayClass .int ∈ Y.2.2.2.1) (hz : z = (N : Int)) (hb : N * 4 ≤ 536870912) (hk : k + 1 = k') (hn : n + N = n') (hR : k' ≤ Y.2.2.2.2.1.cells ∧ n' ≤ Y.2.2.2.2.1.slots)
    (kk : ∀ a : Nat, V X Y k' n' q lo (.ref a :: st) (ws ++ [(a, aI Y.2.2.2.2.2.2 N (fun _ => 0))])) : V X Y k n pc lo (.int (zI z) :: st) ws := by
  subst hq; subst hk; subst hn; subst hz
  obtain ⟨p, e, s, m, args, below, meth, c, Q, A⟩ := X
  obtain ⟨cc, nL, own, Ts, R, l, G⟩ := Y
  obtain ⟨hx, hb', hml, hown, hts, hK, hN, hA⟩ := F
  intro H locs ls hls hP hD hS
  have hN31 : N < 2147483648 := by omega
  have e0 : ia (fun _ => (0 : Int)) = fun _ => 0 := by funext j; show zI 0 = 0; decide +kernel
  have hneg : ¬ zI (N : Int) < 0 := by
    rw [← zI_0, zI_lt ⟨by omega, by omega, by omega, by omega⟩]; omega
  refine va_newa (atype := .int) (ty := .int) (a0 := (N, .inl (ia (fun _ => 0)))) hx hb' (hts _ hw) rfl hK hP hD hS hA (N' := N) (fun cA => by rw [e0]; rfl) hneg (by rw [zI_clamp (by omega) (by omega)]; omega) hb hR.1 hR.2 d (fun a cA H1 hK1 hP1 hD1 hS1 => ?_)
  have h1 := (hK1.2 4 (cA, .int) rfl).2
  have h2 := (hK.2 0 _ rfl).2
  have e1 := newT (G := G) (tys := []) h1 h2 (fun C h => by cases h)
  subst e1
  exact kk a H1 locs ls hls hP1 hD1 hS1
theorem V.newZ (F : Fx X Y) {N : Nat} {z : Int} (d : decode Y.1 pc = .ok (.newarray .boolean, 2)) (hq : pc + 2 = q) (hw : Cond.arrayClass .boolean ∈ Y.2.2.2.1) (hz : z = (N : Int)) (hb : N * 1 ≤ 536870912) (hk : k + 1 = k') (hn : n + N = n') (hR : k' ≤ Y.2.2.2.2.1.cells ∧ n' ≤ Y.2.2.2.2.1.slots)
    (kk : ∀ a : Nat, V X Y k' n' q lo (.ref a :: st) (ws ++ [(a, aZ Y.2.2.2.2.2.2 N (fun _ => 0))])) : V X Y k n pc lo (.int (zI z) :: st) ws := by
  subst hq; subst hk; subst hn; subst hz
  obtain ⟨p, e, s, m, args, below, meth, c, Q, A⟩ := X
  obtain ⟨cc, nL, own, Ts, R, l, G⟩ := Y
  obtain ⟨hx, hb', hml, hown, hts, hK, hN, hA⟩ := F
  intro H locs ls hls hP hD hS
  have hN31 : N < 2147483648 := by omega
  have e0 : ia (fun _ => (0 : Int)) = fun _ => 0 := by funext j; show zI 0 = 0; decide +kernel
  have hneg : ¬ zI (N : Int) < 0 := by
    rw [← zI_0, zI_lt ⟨by omega, by omega, by omega, by omega⟩]; omega
  refine va_newa (atype := .boolean) (ty := .boolean) (a0 := (N, .inl (ia (fun _ => 0)))) hx hb' (hts _ hw) rfl hK hP hD hS hA (N' := N) (fun cA => by rw [e0]; rfl) hneg (by rw [zI_clamp (by omega) (by omega)]; omega) hb hR.1 hR.2 d (fun a cA H1 hK1 hP1 hD1 hS1 => ?_)
  have h1 := (hK1.2 4 (cA, .boolean) rfl).2
  have h2 := (hK.2 2 _ rfl).2
  have e1 := newT (G := G) (tys := []) h1 h2 (fun C h => by cases h)
  subst e1
  exact kk a H1 locs ls hls hP1 hD1 hS1
theorem V.newC (F : Fx X Y) {N : Nat} {z : Int} (d : decode Y.1 pc = .ok (.newarray .char, 2)) (hq : pc + 2 = q) (hw : Cond.arrayClass .char ∈ Y.2.2.2.1) (hz : z = (N : Int)) (hb : N * 2 ≤ 536870912) (hk : k + 1 = k') (hn : n + N = n') (hR : k' ≤ Y.2.2.2.2.1.cells ∧ n' ≤ Y.2.2.2.2.1.slots)
    (kk : ∀ a : Nat, V X Y k' n' q lo (.ref a :: st) (ws ++ [(a, aC Y.2.2.2.2.2.2 N (fun _ => 0))])) : V X Y k n pc lo (.int (zI z) :: st) ws := by
  subst hq; subst hk; subst hn; subst hz
  obtain ⟨p, e, s, m, args, below, meth, c, Q, A⟩ := X
  obtain ⟨cc, nL, own, Ts, R, l, G⟩ := Y
  obtain ⟨hx, hb', hml, hown, hts, hK, hN, hA⟩ := F
  intro H locs ls hls hP hD hS
  have hN31 : N < 2147483648 := by omega
  have e0 : ia (fun _ => (0 : Int)) = fun _ => 0 := by funext j; show zI 0 = 0; decide +kernel
  have hneg : ¬ zI (N : Int) < 0 := by
    rw [← zI_0, zI_lt ⟨by omega, by omega, by omega, by omega⟩]; omega
  refine va_newa (atype := .char) (ty := .char) (a0 := (N, .inl (ia (fun _ => 0)))) hx hb' (hts _ hw) rfl hK hP hD hS hA (N' := N) (fun cA => by rw [e0]; rfl) hneg (by rw [zI_clamp (by omega) (by omega)]; omega) hb hR.1 hR.2 d (fun a cA H1 hK1 hP1 hD1 hS1 => ?_)
  have h1 := (hK1.2 4 (cA, .char) rfl).2
  have h2 := (hK.2 3 _ rfl).2
  have e1 := newT (G := G) (tys := []) h1 h2 (fun C h => by cases h)
  subst e1
  exact kk a H1 locs ls hls hP1 hD1 hS1
theorem V.new (F : Fx X Y) (ci : Nat) {C : String} {T : u_T} {N idx : Nat} (d : decode Y.1 pc = .ok (.new idx, 3)) (hq : pc + 3 = q) (hc : vwCl[ci]? = some (C, T, N)) (hin : ∀ w ∈ u_ws C T N, w ∈ Y.2.2.2.1) (ty0 : Nat → FieldType) (hty : ∀ k, k < N → parseFieldDescriptor (T k).2.2.1 = some (ty0 k))
    (w1 : Cond.classLink Y.2.2.1 idx C ∈ Y.2.2.2.1) (w2 : Cond.instantiable C N ∈ Y.2.2.2.1) (w3 : Cond.initialized C ∈ Y.2.2.2.1) {fs : List Value} (hfs : ∀ j, j < N → defaultValue (ty0 j) = vp_V fs j) (hk : k + 1 = k') (hn : n + N = n') (hR : k' ≤ Y.2.2.2.2.1.cells ∧ n' ≤ Y.2.2.2.2.1.slots)
    (kk : ∀ a : Nat, V X Y k' n' q lo (.ref a :: st) (ws ++ [(a, .inr (ci, fs))])) : V X Y k n pc lo st ws := by
  subst hq; subst hk; subst hn
  obtain ⟨p, e, s, m, args, below, meth, c, Q, A⟩ := X
  obtain ⟨cc, nL, own, Ts, R, l, G⟩ := Y
  obtain ⟨hx, hb, hml, hown, hts, hK, hN, hA⟩ := F
  intro H locs ls hls hP hD hS
  exact va_new (ci := ci) (fs := fs) hx hb hts hin ty0 hty hown (hts _ w1) (hts _ w2) (hts _ w3) hK hP hD hS hA hc hfs hR.1 hR.2 d (fun a H1 hP1 hD1 hS1 => kk a H1 locs ls hls hP1 hD1 hS1)
theorem V.oinit (F : Fx X Y) {a idx : Nat} (d : decode Y.1 pc = .ok (.invokespecial idx, 3)) (hq : pc + 3 = q) (w1 : Cond.methodLink Y.2.2.1 idx objectInit ∈ Y.2.2.2.1) (w2 : Cond.instanceMethod objectInit ∈ Y.2.2.2.1) (w3 : Cond.code objectInit ⟨#[0xb1]⟩ 1 none ∈ Y.2.2.2.1) (hfr : 1 ≤ Y.2.2.2.2.1.frames) (hst : (st.map fun v => v.category).sum ≤ 8) (hlo : 20 ≤ Y.2.2.2.2.1.locals)
    (kk : V X Y k n q lo st ws) : V X Y k n pc lo (.ref a :: st) ws := by
  subst hq
  obtain ⟨p, e, s, m, args, below, meth, c, Q, A⟩ := X
  obtain ⟨cc, nL, own, Ts, R, l, G⟩ := Y
  obtain ⟨hx, hb, hml, hown, hts, hK, hN, hA⟩ := F
  intro H locs ls hls hP hD hS
  refine W.objInit hx hb hown (hts _ w1) (hts _ w2) (hts _ w3) rfl (by rw [hml]; exact hls.1) rfl d hfr (by have h9 := lv_room (m := m) (pc := pc) (ls := ls) (rest := .ref a :: st) hst; show 2 * (F0 m pc ls (.ref a :: st)).monitorRoom + (st.map fun v => v.category).sum + 12 ≤ R.locals; have : 20 ≤ R.locals := hlo; omega) ?_
  exact kk H locs ls hls hP hD hS
theorem V.putF (F : Fx X Y) {p0 : Prop} (hmn : X.2.2.2.2.2.2.1.name = "<init>") (q0 j : Nat) {a ci N idx : Nat} {fs fs' : List Value} {C : String} {T : u_T} {v : Value} {ty : FieldType} (d : decode Y.1 pc = .ok (.putfield idx, 3)) (hq : pc + 3 = q) (he : ws[q0]? = some (a, .inr (ci, fs))) (hc : vwCl[ci]? = some (C, T, N)) (hin : ∀ w ∈ u_ws C T N, w ∈ Y.2.2.2.1) (ty0 : Nat → FieldType) (hty : ∀ k, k < N → parseFieldDescriptor (T k).2.2.1 = some (ty0 k)) (hnm : ∀ a, a < N → ∀ b, b < N → a ≠ b → (T a).2.1 ≠ (T b).2.1) (hj : j < N) (hw : Cond.fieldLink Y.2.2.1 idx (T j).1 (T j).2.1 (T j).2.2.1 ∈ Y.2.2.2.1) (hfin : (T j).2.2.2 = true) (hdecl : (T j).1 = Y.2.2.1) (hd : ty0 j = ty) (hn : narrow ty v = v) (hfit : fits ty v = true) (hl : j < fs.length) (hfs : fs.set j v = fs') (hws : ws.set q0 (a, .inr (ci, fs')) = ws') (kk : V X Y k n q lo st ws') : V X Y k n pc lo (v :: .ref a :: st) ws := by
  subst hq
  obtain ⟨p, e, s, m, args, below, meth, c, Q, A⟩ := X
  obtain ⟨cc, nL, own, Ts, R, l, G⟩ := Y
  obtain ⟨hx, hb, hml, hown, hts, hK, hN, hA⟩ := F
  intro H locs ls hls hP hD hS
  subst hfs; subst hws; subst hd; exact va_putF hx hb hts hin ty0 hty hnm hown hK hP hD hS q0 he hc j hj (hts _ hw) (fun _ h9 => h9) hfin hmn hdecl (hty j hj) hn hfit hl d (fun H locs hP hD hS => kk H locs ls hls hP hD hS)
/-- a contract of a constructor: mc cells of ms slots are made -/
def CtA (l : Launch) (G : Gx) (y : MethodName) (words : List Cond) (rm : Room) (As : List Value) (wc : va_W) (mc ms : Nat) (P : va_W → Prop) : Prop :=
  rm.cells = mc ∧ rm.slots = ms ∧ ∀ sz : Nat, Met l y words rm (va_Pc As (fun U => U.heap.size = sz ∧ va_P G.1 vwCl wc U.heap ∧ (va_K G.1 vwCl (tysOf G) U ∧ NW U) ∧ va_D (fun _ => True) wc))
    (fun _ st oc t => (∃ (r : Option Value) (w' : va_W), oc = .returned r ∧ (r = none ∧ P w' ∧ va_P G.1 vwCl w' t.heap ∧ va_D (va_A wc sz) w')) ∧ va_F (va_A wc sz) st t) mc ms (va_A wc sz)
def RtA (X : Cx) (Y : Sx) (wc : va_W) (mc ms : Nat) (P : va_W → Prop) : Prop := match X, Y with
  | (_, _, s, _, args, below, meth, _, Q, A), (_, _, _, _, _, _, G) =>
    meth.sig.returnType = none ∧ meth.locks = false ∧ A = va_A wc s.heap.size ∧
    Q = MQ below (fun _ st oc t => (∃ (r : Option Value) (w' : va_W), oc = .returned r ∧ (r = none ∧ P w' ∧ va_P G.1 vwCl w' t.heap ∧ va_D A w')) ∧ va_F A st t) args s mc ms A
theorem CtA.intro {l : Launch} {G : Gx} {y : MethodName} {words ws' : List Cond} {rm : Room} {As : List Value} {wc : va_W} {mc ms : Nat} {P : va_W → Prop} {cc : ByteArray} {maxL : Nat} {lo0 : List (Option Value)}
    (hyn : y.name = "<init>") (hy : plainName y.cls = true) (hw : words = Cond.code y cc maxL none :: ws') (h0 : rm.cells = mc ∧ rm.slots = ms) (hn : (lg_sl As).length ≤ maxL) (hlo : lv_args 0 As = lvl 0 lo0)
    (body : ∀ X : Cx, Fx X (cc, maxL, y.cls, words, rm, l, G) → X.2.2.2.2.2.2.1.name = "<init>" → RtA X (cc, maxL, y.cls, words, rm, l, G) wc mc ms P → V X (cc, maxL, y.cls, words, rm, l, G) 0 0 0 lo0 [] wc) : CtA l G y words rm As wc mc ms P := by
  refine ⟨h0.1, h0.2, fun sz => ?_⟩
  refine Met.ofW (cc := cc) (maxL := maxL) (ret := none) hy hw ?_
  intro p e s m args below meth c s₁ B hml hv
  obtain ⟨rfl, hsz, hP, ⟨hK, hN⟩, hD0⟩ := hv
  have hx := B.exec
  have hb := B.bytes
  have hr := B.returns
  have hts := atoms_spec (ws := words) B.pre
  have hown : s.vm.findClass y.cls = some m.cls := findClass_of_methodNamed B.named
  have hlocks := B.notSynchronized
  have hin : meth.name = "<init>" := (name_of_methodNamed B.named B.method).1.trans hyn
  subst hsz
  have hD := hD0.self (sz := s.heap.size)
  generalize hAe : va_A wc s.heap.size = A at hD ⊢
  have hA : ∀ q : Nat, s.heap.size ≤ q → A q := fun q h => by rw [← hAe]; exact Or.inr h
  have hS : va_S A s.heap s.heap [] := va_S.rf
  have hl := lv_entry As (n := maxL) hn
  rw [lg_entry_eq]
  generalize (lg_sl As ++ List.replicate (maxL - (lg_sl As).length) Slot.unset).toArray = ls at hl ⊢
  rw [hlo] at hl
  exact body (p, e, s, m, As.toArray, below, meth, c, _, A) ⟨hx, hb, hml, hown, hts, hK, hN, hA⟩ hin ⟨hr, hlocks, hAe.symm, rfl⟩ s.heap [] ls hl hP hD hS
theorem V.retA {wc : va_W} {mc ms : Nat} {P : va_W → Prop} (F : Fx X Y) (T : RtA X Y wc mc ms P) (d : decode Y.1 pc = .ok (.return_, 1)) (hk : k = mc) (hn : n = ms) (hP' : P ws) : V X Y k n pc lo [] ws := by
  subst hk; subst hn
  obtain ⟨p, e, s, m, args, below, meth, c, Q, A⟩ := X
  obtain ⟨cc, nL, own, Ts, R, l, G⟩ := Y
  obtain ⟨hx, hb, hml, hown, hts, hK, hN, hA⟩ := F
  obtain ⟨hr, hlocks, hAe, hQ⟩ := T
  subst hQ
  intro H locs ls hls hP hD hS
  exact W.vret hx hb hr (fun t ht hW => ⟨⟨_, ws, rfl, rfl, hP', by rw [ht]; exact hP, hD⟩, hS.F ht⟩) hS.2.2 d hlocks
theorem V.callI {y : MethodName} {bytes : ByteArray} {maxL nP idx b mc ms : Nat} {wsy wsy' : List Cond} {rm : Room} {As st0 : List Value} {wc wr : va_W} {P : va_W → Prop} (F : Fx X Y) (isC isR : List Nat) (d : decode Y.1 pc = .ok (.invokespecial idx, 3)) (hq : pc + 3 = q)
    (hC : CtA Y.2.2.2.2.2.1 Y.2.2.2.2.2.2 y wsy rm (.ref b :: As) wc mc ms P) (hG : GoodIn Y.2.2.2.1 wsy) (hwy : wsy = Cond.code y bytes maxL none :: wsy') (hyn : y.name = "<init>") (wi : Cond.initialized y.cls ∈ Y.2.2.2.1) (wl : Cond.methodLink Y.2.2.1 idx y ∈ Y.2.2.2.1) (win : Cond.instanceMethod y ∈ Y.2.2.2.1) (hd : ydOk y nP) (hR : rm.frames + 1 ≤ Y.2.2.2.2.1.frames ∧ 8 + (maxL + 11) + rm.locals ≤ Y.2.2.2.2.1.locals)
    (hn : As.length = nP) (hst : st0 = As.reverse ++ .ref b :: st) (hcat : (st.map fun v => v.category).sum ≤ 8) (hcells : isC.map (fun i => ws[i]?) = wc.map some) (hnd : va_nd isC = true) (hrest : isR.map (fun i => ws[i]?) = wr.map some) (hndR : va_nd isR = true) (hdis : ∀ i ∈ isR, i ∉ isC) (hk : k + mc = k') (hns : n + ms = n') (hkn : k' ≤ Y.2.2.2.2.1.cells ∧ n' ≤ Y.2.2.2.2.1.slots)
    (kk : ∀ w', P w' → V X Y k' n' q lo st (wr ++ w')) : V X Y k n pc lo st0 ws := by
  subst hq; subst hk; subst hns
  subst hst
  obtain ⟨p, e, s, m, args, below, meth, c, Q, A⟩ := X
  obtain ⟨cc, nL, own, Ts, R, l, G⟩ := Y
  obtain ⟨hx, hb, hml, hown, hts, hK, hN, hA⟩ := F
  intro H locs ls hls hP hD hS
  have hFc := va_free (wc := wc) hD hS hA isC hcells
  refine W.callG (B := fun r w' t => r = none ∧ P w' ∧ va_P G.1 vwCl w' t.heap ∧ va_D (va_A wc H.size) w') (va_runI (As := As) (rest := st) ⟨hx, hb, hml, hown, hts⟩ (hC.2.2 H.size) (cwI nP hts hG hwy hC.1 hC.2.1 (hts _ wi) (hts _ wl) (hts _ win) hyn hd hR) ⟨blindG, preG hK hN hP hD isC hnd hcells⟩ rfl hn hls.1 rfl (lv_room hcat) d hkn) rfl hS hFc ?_
  rintro r w' t H1 locs1 ht ⟨rfl, hPr, hP1, hD1⟩ hz hk hS1
  rw [ht] at hP1
  obtain ⟨hP2, hD2⟩ := va_join hP hD isC isR hcells hrest hndR hdis hk hFc hP1 hD1
  exact kk w' hPr H1 locs1 ls hls hP2 hD2 hS1
end VN

theorem nw1 : Cond.methodLinkNest RX3 64 yX6_roseOf RX6 ∈ lw_tbl := List.mem_append_right _ (by decide +kernel)
theorem nw2 : Cond.methodLinkNest RX3 81 yX6_isBetween RX6 ∈ lw_tbl := List.mem_append_right _ (by decide +kernel)
theorem nw3 : Cond.methodLinkNest RX4 45 yX6_partOf RX6 ∈ lw_tbl := List.mem_append_right _ (by decide +kernel)
theorem nw4 : Cond.methodLinkNest RX5 23 yX6_isBetween RX6 ∈ lw_tbl := List.mem_append_right _ (by decide +kernel)
theorem dfX0 : ∀ j, j < 2 → defaultValue (tyX0 j) = vp_V [.null, .null] j := by
  intro j hj
  rcases (show j = 0 ∨ j = 1 by omega) with rfl | rfl <;> first | rfl | decide +kernel
theorem dfX1 : ∀ j, j < 4 → defaultValue (tyX1 j) = vp_V [.null, .int (zI 0), .int (zI 0), .int (zI 0)] j := by
  intro j hj
  rcases (show j = 0 ∨ j = 1 ∨ j = 2 ∨ j = 3 by omega) with rfl | rfl | rfl | rfl <;> first | rfl | decide +kernel
theorem dfX2 : ∀ j, j < 3 → defaultValue (tyX2 j) = vp_V [.null, .int (zI 0), .int (zI 0)] j := by
  intro j hj
  rcases (show j = 0 ∨ j = 1 ∨ j = 2 by omega) with rfl | rfl | rfl <;> first | rfl | decide +kernel
theorem dfX3 : ∀ j, j < 7 → defaultValue (tyX3 j) = vp_V [.null, .null, .null, .null, .null, .int (zI 0), .int (zI 0)] j := by
  intro j hj
  rcases (show j = 0 ∨ j = 1 ∨ j = 2 ∨ j = 3 ∨ j = 4 ∨ j = 5 ∨ j = 6 by omega) with rfl | rfl | rfl | rfl | rfl | rfl | rfl <;> first | rfl | decide +kernel
theorem dfX4 : ∀ j, j < 4 → defaultValue (tyX4 j) = vp_V [.null, .null, .null, .int (zI 0)] j := by
  intro j hj
  rcases (show j = 0 ∨ j = 1 ∨ j = 2 ∨ j = 3 by omega) with rfl | rfl | rfl | rfl <;> first | rfl | decide +kernel
theorem dfX5 : ∀ j, j < 2 → defaultValue (tyX5 j) = vp_V [.null, .int (zI 0)] j := by
  intro j hj
  rcases (show j = 0 ∨ j = 1 by omega) with rfl | rfl <;> first | rfl | decide +kernel
theorem dfX6 : ∀ j, j < 9 → defaultValue (tyX6 j) = vp_V [.null, .null, .null, .int (zI 0), .null, .null, .null, .null, .null] j := by
  intro j hj
  rcases (show j = 0 ∨ j = 1 ∨ j = 2 ∨ j = 3 ∨ j = 4 ∨ j = 5 ∨ j = 6 ∨ j = 7 ∨ j = 8 by omega) with rfl | rfl | rfl | rfl | rfl | rfl | rfl | rfl | rfl <;> first | rfl | decide +kernel
abbrev YX0_init (l : Launch) (G : Gx) : Sx := (cX0_init, 1, RX0, wsX0_init, rmA 1 2 27765, l, G)
theorem ydX0_init : ydOk yX0_init 0 := by decide +kernel
theorem inX0_init_X0 : ∀ w ∈ wsX00, w ∈ wsX0_init := fun _ h => List.mem_cons_of_mem _ (List.mem_append_right _ h)
set_option maxHeartbeats 2000000 in
set_option maxRecDepth 20000 in
theorem c_X0_init (l : Launch) (G : Gx) (h : Nat) : CtA l G yX0_init wsX0_init (rmA 1 2 27765) [.ref h] [(h, .inr (0, [.null, .null]))] 2 27765 (fun w => ∃ q1 q2 : Nat, w = [(h, .inr (0, [.ref q1, .ref q2])), (q1, aI G 26181 (upz (upz (upz (fun _ => 0) 26176 12) 26177 30) 26178 5)), (q2, aI G 1584 (fun _ => 0))]) := by
  refine CtA.intro (cc := cX0_init) (maxL := 1) (lo0 := [some (.ref h)]) rfl (by decide +kernel) rfl ⟨rfl, rfl⟩ (Nat.le_of_ble_eq_true rfl) rfl ?_
  intro X F M T
  change Fx X (YX0_init l G) at F
  change V X (YX0_init l G) 0 0 0 _ _ _
  refine V.aload_n (q := 1) F dX0_init_0 rfl rfl rfl ?_
  refine V.oinit (q := 4) F dX0_init_1 rfl (List.mem_of_getElem? (i := 1) rfl) (List.mem_of_getElem? (i := 2) rfl) (List.mem_of_getElem? (i := 3) rfl) (Nat.le_of_ble_eq_true rfl) (Nat.le_of_ble_eq_true rfl) (Nat.le_of_ble_eq_true rfl) ?_
  refine V.aload_n (q := 5) F dX0_init_4 rfl rfl rfl ?_
  refine V.sipush (q := 8) F dX0_init_5 rfl (by decide) ?_
  refine V.newI (q := 10) (N := 26181) (k' := 1) (n' := 26181) F dX0_init_8 rfl (List.mem_of_getElem? (i := 4) rfl) rfl (by decide) rfl rfl ⟨Nat.le_of_ble_eq_true rfl, Nat.le_of_ble_eq_true rfl⟩ (fun q1 => ?_)
  refine V.eq (pc' := 10) (ws' := [(h, .inr (0, [.null, .null])), (q1, aI G 26181 (fun _ => 0))]) rfl rfl rfl rfl ?_
  refine V.putF (p0 := True) (q := 13) (ws' := [_, _]) (fs' := [_, _]) F M 0 0 dX0_init_10 rfl rfl rfl inX0_init_X0 tyX0 tyX0_ok nmX0 (by decide) (List.mem_of_getElem? (i := 5) rfl) rfl rfl rfl rfl rfl (Nat.le_of_ble_eq_true rfl) rfl rfl ?_
  refine V.aload_n (q := 14) F dX0_init_13 rfl rfl rfl ?_
  refine V.sipush (q := 17) F dX0_init_14 rfl (by decide) ?_
  refine V.newI (q := 19) (N := 1584) (k' := 2) (n' := 27765) F dX0_init_17 rfl (List.mem_of_getElem? (i := 4) rfl) rfl (by decide) rfl rfl ⟨Nat.le_of_ble_eq_true rfl, Nat.le_of_ble_eq_true rfl⟩ (fun q2 => ?_)
  refine V.eq (pc' := 19) (ws' := [(h, .inr (0, [.ref q1, .null])), (q1, aI G 26181 (fun _ => 0)), (q2, aI G 1584 (fun _ => 0))]) rfl rfl rfl rfl ?_
  refine V.putF (p0 := True) (q := 22) (ws' := [_, _, _]) (fs' := [_, _]) F M 0 1 dX0_init_19 rfl rfl rfl inX0_init_X0 tyX0 tyX0_ok nmX0 (by decide) (List.mem_of_getElem? (i := 6) rfl) rfl rfl rfl rfl rfl (Nat.le_of_ble_eq_true rfl) rfl rfl ?_
  refine V.aload_n (q := 23) F dX0_init_22 rfl rfl rfl ?_
  refine V.get (q := 26) F 0 0 dX0_init_23 rfl rfl rfl inX0_init_X0 (by decide) (List.mem_of_getElem? (i := 5) rfl) rfl ?_
  refine V.sipush (q := 29) F dX0_init_26 rfl (by decide) ?_
  refine V.bipush (q := 31) F dX0_init_29 rfl (by decide) ?_
  refine V.iast (q := 32) (ws' := [_, _, _]) F 1 dX0_init_31 rfl rfl (by decide) (by decide) rfl ?_
  refine V.aload_n (q := 33) F dX0_init_32 rfl rfl rfl ?_
  refine V.get (q := 36) F 0 0 dX0_init_33 rfl rfl rfl inX0_init_X0 (by decide) (List.mem_of_getElem? (i := 5) rfl) rfl ?_
  refine V.sipush (q := 39) F dX0_init_36 rfl (by decide) ?_
  refine V.bipush (q := 41) F dX0_init_39 rfl (by decide) ?_
  refine V.iast (q := 42) (ws' := [_, _, _]) F 1 dX0_init_41 rfl rfl (by decide) (by decide) rfl ?_
  refine V.aload_n (q := 43) F dX0_init_42 rfl rfl rfl ?_
  refine V.get (q := 46) F 0 0 dX0_init_43 rfl rfl rfl inX0_init_X0 (by decide) (List.mem_of_getElem? (i := 5) rfl) rfl ?_
  refine V.sipush (q := 49) F dX0_init_46 rfl (by decide) ?_
  refine V.iconst (q := 50) F dX0_init_49 rfl ?_
  refine V.iast (q := 51) (ws' := [_, _, _]) F 1 dX0_init_50 rfl rfl (by decide) (by decide) rfl ?_
  exact V.retA F T dX0_init_51 rfl rfl ⟨q1, q2, rfl⟩

abbrev YX2_init (l : Launch) (G : Gx) : Sx := (cX2_init, 1, RX2, wsX2_init, rmA 1 1 104724, l, G)
theorem ydX2_init : ydOk yX2_init 0 := by decide +kernel
theorem inX2_init_X2 : ∀ w ∈ wsX20, w ∈ wsX2_init := fun _ h => List.mem_cons_of_mem _ (List.mem_append_right _ h)
set_option maxHeartbeats 2000000 in
set_option maxRecDepth 20000 in
theorem c_X2_init (l : Launch) (G : Gx) (h : Nat) : CtA l G yX2_init wsX2_init (rmA 1 1 104724) [.ref h] [(h, .inr (2, [.null, .int (zI 0), .int (zI 0)]))] 1 104724 (fun w => ∃ q1 : Nat, w = [(h, .inr (2, [.ref q1, .int (zI 0), .int (zI 0)])), (q1, aI G 104724 (fun _ => 0))]) := by
  refine CtA.intro (cc := cX2_init) (maxL := 1) (lo0 := [some (.ref h)]) rfl (by decide +kernel) rfl ⟨rfl, rfl⟩ (Nat.le_of_ble_eq_true rfl) rfl ?_
  intro X F M T
  change Fx X (YX2_init l G) at F
  change V X (YX2_init l G) 0 0 0 _ _ _
  refine V.aload_n (q := 1) F dX2_init_0 rfl rfl rfl ?_
  refine V.oinit (q := 4) F dX2_init_1 rfl (List.mem_of_getElem? (i := 1) rfl) (List.mem_of_getElem? (i := 2) rfl) (List.mem_of_getElem? (i := 3) rfl) (Nat.le_of_ble_eq_true rfl) (Nat.le_of_ble_eq_true rfl) (Nat.le_of_ble_eq_true rfl) ?_
  refine V.aload_n (q := 5) F dX2_init_4 rfl rfl rfl ?_
  refine V.ldc (q := 7) (v := 104724) (z := 104724) F dX2_init_5 rfl (List.mem_of_getElem? (i := 4) rfl) (by decide +kernel) ?_
  refine V.newI (q := 9) (N := 104724) (k' := 1) (n' := 104724) F dX2_init_7 rfl (List.mem_of_getElem? (i := 5) rfl) rfl (by decide) rfl rfl ⟨Nat.le_of_ble_eq_true rfl, Nat.le_of_ble_eq_true rfl⟩ (fun q1 => ?_)
  refine V.eq (pc' := 9) (ws' := [(h, .inr (2, [.null, .int (zI 0), .int (zI 0)])), (q1, aI G 104724 (fun _ => 0))]) rfl rfl rfl rfl ?_
  refine V.putF (p0 := True) (q := 12) (ws' := [_, _]) (fs' := [_, _, _]) F M 0 0 dX2_init_9 rfl rfl rfl inX2_init_X2 tyX2 tyX2_ok nmX2 (by decide) (List.mem_of_getElem? (i := 6) rfl) rfl rfl rfl rfl rfl (Nat.le_of_ble_eq_true rfl) rfl rfl ?_
  refine V.aload_n (q := 13) F dX2_init_12 rfl rfl rfl ?_
  refine V.iconst (q := 14) F dX2_init_13 rfl ?_
  refine V.put (q := 17) (ws' := [_, _]) (fs' := [_, _, _]) F 0 1 dX2_init_14 rfl rfl rfl inX2_init_X2 tyX2 tyX2_ok nmX2 (by decide) (List.mem_of_getElem? (i := 7) rfl) rfl rfl rfl rfl (Nat.le_of_ble_eq_true rfl) rfl rfl ?_
  refine V.aload_n (q := 18) F dX2_init_17 rfl rfl rfl ?_
  refine V.iconst (q := 19) F dX2_init_18 rfl ?_
  refine V.put (q := 22) (ws' := [_, _]) (fs' := [_, _, _]) F 0 2 dX2_init_19 rfl rfl rfl inX2_init_X2 tyX2 tyX2_ok nmX2 (by decide) (List.mem_of_getElem? (i := 8) rfl) rfl rfl rfl rfl (Nat.le_of_ble_eq_true rfl) rfl rfl ?_
  exact V.retA F T dX2_init_22 rfl rfl ⟨q1, rfl⟩

abbrev YX5_init (l : Launch) (G : Gx) : Sx := (cX5_init, 1, RX5, wsX5_init, rmA 1 1 80, l, G)
theorem ydX5_init : ydOk yX5_init 0 := by decide +kernel
theorem inX5_init_X5 : ∀ w ∈ wsX50, w ∈ wsX5_init := fun _ h => List.mem_cons_of_mem _ (List.mem_append_right _ h)
set_option maxHeartbeats 2000000 in
set_option maxRecDepth 20000 in
theorem c_X5_init (l : Launch) (G : Gx) (h : Nat) : CtA l G yX5_init wsX5_init (rmA 1 1 80) [.ref h] [(h, .inr (5, [.null, .int (zI 0)]))] 1 80 (fun w => ∃ q1 : Nat, w = [(h, .inr (5, [.ref q1, .int (zI 0)])), (q1, aC G 80 (fun _ => 0))]) := by
  refine CtA.intro (cc := cX5_init) (maxL := 1) (lo0 := [some (.ref h)]) rfl (by decide +kernel) rfl ⟨rfl, rfl⟩ (Nat.le_of_ble_eq_true rfl) rfl ?_
  intro X F M T
  change Fx X (YX5_init l G) at F
  change V X (YX5_init l G) 0 0 0 _ _ _
  refine V.aload_n (q := 1) F dX5_init_0 rfl rfl rfl ?_
  refine V.oinit (q := 4) F dX5_init_1 rfl (List.mem_of_getElem? (i := 1) rfl) (List.mem_of_getElem? (i := 2) rfl) (List.mem_of_getElem? (i := 3) rfl) (Nat.le_of_ble_eq_true rfl) (Nat.le_of_ble_eq_true rfl) (Nat.le_of_ble_eq_true rfl) ?_
  refine V.aload_n (q := 5) F dX5_init_4 rfl rfl rfl ?_
  refine V.bipush (q := 7) F dX5_init_5 rfl (by decide) ?_
  refine V.newC (q := 9) (N := 80) (k' := 1) (n' := 80) F dX5_init_7 rfl (List.mem_of_getElem? (i := 4) rfl) rfl (by decide) rfl rfl ⟨Nat.le_of_ble_eq_true rfl, Nat.le_of_ble_eq_true rfl⟩ (fun q1 => ?_)
  refine V.eq (pc' := 9) (ws' := [(h, .inr (5, [.null, .int (zI 0)])), (q1, aC G 80 (fun _ => 0))]) rfl rfl rfl rfl ?_
  refine V.putF (p0 := True) (q := 12) (ws' := [_, _]) (fs' := [_, _]) F M 0 0 dX5_init_9 rfl rfl rfl inX5_init_X5 tyX5 tyX5_ok nmX5 (by decide) (List.mem_of_getElem? (i := 5) rfl) rfl rfl rfl rfl rfl (Nat.le_of_ble_eq_true rfl) rfl rfl ?_
  refine V.aload_n (q := 13) F dX5_init_12 rfl rfl rfl ?_
  refine V.iconst (q := 14) F dX5_init_13 rfl ?_
  refine V.put (q := 17) (ws' := [_, _]) (fs' := [_, _]) F 0 1 dX5_init_14 rfl rfl rfl inX5_init_X5 tyX5 tyX5_ok nmX5 (by decide) (List.mem_of_getElem? (i := 6) rfl) rfl rfl rfl rfl (Nat.le_of_ble_eq_true rfl) rfl rfl ?_
  exact V.retA F T dX5_init_17 rfl rfl ⟨q1, rfl⟩

abbrev YX3_init (l : Launch) (G : Gx) : Sx := (cX3_init, 1, RX3, wsX3_init, rmA 2 6 146, l, G)
theorem ydX3_init : ydOk yX3_init 0 := by decide +kernel
theorem inX3_init_X3 : ∀ w ∈ wsX30, w ∈ wsX3_init := fun _ h => List.mem_cons_of_mem _ (List.mem_append_right _ h)
theorem inX3_init_X5 : ∀ w ∈ wsX50, w ∈ wsX3_init := fun _ h => List.mem_cons_of_mem _ (List.mem_append_left _ (List.mem_append_right _ h))
set_option maxHeartbeats 2000000 in
set_option maxRecDepth 20000 in
theorem c_X3_init (l : Launch) (G : Gx) (h : Nat) : CtA l G yX3_init wsX3_init (rmA 2 6 146) [.ref h] [(h, .inr (3, [.null, .null, .null, .null, .null, .int (zI 0), .int (zI 0)]))] 6 146 (fun w => ∃ q1 q2 q3 q4 q5 q6 : Nat, w = [(h, .inr (3, [.ref q1, .ref q3, .ref q4, .ref q5, .ref q6, .int (zI 0), .int (zI 0)])), (q1, .inr (5, [.ref q2, .int (zI 0)])), (q2, aC G 80 (fun _ => 0)), (q3, aI G 16 (fun _ => 0)), (q4, aI G 16 (fun _ => 0)), (q5, aI G 16 (fun _ => 0)), (q6, aI G 16 (fun _ => 0))]) := by
  refine CtA.intro (cc := cX3_init) (maxL := 1) (lo0 := [some (.ref h)]) rfl (by decide +kernel) rfl ⟨rfl, rfl⟩ (Nat.le_of_ble_eq_true rfl) rfl ?_
  intro X F M T
  change Fx X (YX3_init l G) at F
  change V X (YX3_init l G) 0 0 0 _ _ _
  refine V.aload_n (q := 1) F dX3_init_0 rfl rfl rfl ?_
  refine V.oinit (q := 4) F dX3_init_1 rfl (List.mem_of_getElem? (i := 1) rfl) (List.mem_of_getElem? (i := 2) rfl) (List.mem_of_getElem? (i := 3) rfl) (Nat.le_of_ble_eq_true rfl) (Nat.le_of_ble_eq_true rfl) (Nat.le_of_ble_eq_true rfl) ?_
  refine V.aload_n (q := 5) F dX3_init_4 rfl rfl rfl ?_
  refine V.new (q := 8) (k' := 1) (n' := 2) (fs := [.null, .int (zI 0)]) F 5 dX3_init_5 rfl rfl inX3_init_X5 tyX5 tyX5_ok (List.mem_of_getElem? (i := 4) rfl) (List.mem_of_getElem? (i := 5) rfl) (List.mem_of_getElem? (i := 6) rfl) dfX5 rfl rfl ⟨Nat.le_of_ble_eq_true rfl, Nat.le_of_ble_eq_true rfl⟩ (fun q1 => ?_)
  refine V.eq (pc' := 8) (ws' := [(h, .inr (3, [.null, .null, .null, .null, .null, .int (zI 0), .int (zI 0)])), (q1, .inr (5, [.null, .int (zI 0)]))]) rfl rfl rfl rfl ?_
  refine V.dup (q := 9) F dX3_init_8 rfl rfl ?_
  refine V.callI (q := 12) (k' := 2) (n' := 82) (wr := [(h, .inr (3, [.null, .null, .null, .null, .null, .int (zI 0), .int (zI 0)]))]) F [1] [0] dX3_init_9 rfl (c_X5_init l G q1) gX3_init_X5_init rfl rfl (List.mem_of_getElem? (i := 6) rfl) (List.mem_of_getElem? (i := 15) rfl) (List.mem_of_getElem? (i := 16) rfl) ydX5_init ⟨Nat.le_of_ble_eq_true rfl, Nat.le_of_ble_eq_true rfl⟩ rfl rfl (Nat.le_of_ble_eq_true rfl) rfl rfl rfl rfl (by decide) rfl rfl ⟨Nat.le_of_ble_eq_true rfl, Nat.le_of_ble_eq_true rfl⟩ ?_
  rintro w9 ⟨q2, rfl⟩
  refine V.eq (pc' := 12) (ws' := [(h, .inr (3, [.null, .null, .null, .null, .null, .int (zI 0), .int (zI 0)])), (q1, .inr (5, [.ref q2, .int (zI 0)])), (q2, aC G 80 (fun _ => 0))]) rfl rfl rfl rfl ?_
  refine V.putF (p0 := True) (q := 15) (ws' := [_, _, _]) (fs' := [_, _, _, _, _, _, _]) F M 0 0 dX3_init_12 rfl rfl rfl inX3_init_X3 tyX3 tyX3_ok nmX3 (by decide) (List.mem_of_getElem? (i := 7) rfl) rfl rfl rfl rfl rfl (Nat.le_of_ble_eq_true rfl) rfl rfl ?_
  refine V.aload_n (q := 16) F dX3_init_15 rfl rfl rfl ?_
  refine V.bipush (q := 18) F dX3_init_16 rfl (by decide) ?_
  refine V.newI (q := 20) (N := 16) (k' := 3) (n' := 98) F dX3_init_18 rfl (List.mem_of_getElem? (i := 8) rfl) rfl (by decide) rfl rfl ⟨Nat.le_of_ble_eq_true rfl, Nat.le_of_ble_eq_true rfl⟩ (fun q3 => ?_)
  refine V.eq (pc' := 20) (ws' := [(h, .inr (3, [.ref q1, .null, .null, .null, .null, .int (zI 0), .int (zI 0)])), (q1, .inr (5, [.ref q2, .int (zI 0)])), (q2, aC G 80 (fun _ => 0)), (q3, aI G 16 (fun _ => 0))]) rfl rfl rfl rfl ?_
  refine V.putF (p0 := True) (q := 23) (ws' := [_, _, _, _]) (fs' := [_, _, _, _, _, _, _]) F M 0 1 dX3_init_20 rfl rfl rfl inX3_init_X3 tyX3 tyX3_ok nmX3 (by decide) (List.mem_of_getElem? (i := 9) rfl) rfl rfl rfl rfl rfl (Nat.le_of_ble_eq_true rfl) rfl rfl ?_
  refine V.aload_n (q := 24) F dX3_init_23 rfl rfl rfl ?_
  refine V.bipush (q := 26) F dX3_init_24 rfl (by decide) ?_
  refine V.newI (q := 28) (N := 16) (k' := 4) (n' := 114) F dX3_init_26 rfl (List.mem_of_getElem? (i := 8) rfl) rfl (by decide) rfl rfl ⟨Nat.le_of_ble_eq_true rfl, Nat.le_of_ble_eq_true rfl⟩ (fun q4 => ?_)
  refine V.eq (pc' := 28) (ws' := [(h, .inr (3, [.ref q1, .ref q3, .null, .null, .null, .int (zI 0), .int (zI 0)])), (q1, .inr (5, [.ref q2, .int (zI 0)])), (q2, aC G 80 (fun _ => 0)), (q3, aI G 16 (fun _ => 0)), (q4, aI G 16 (fun _ => 0))]) rfl rfl rfl rfl ?_
  refine V.putF (p0 := True) (q := 31) (ws' := [_, _, _, _, _]) (fs' := [_, _, _, _, _, _, _]) F M 0 2 dX3_init_28 rfl rfl rfl inX3_init_X3 tyX3 tyX3_ok nmX3 (by decide) (List.mem_of_getElem? (i := 10) rfl) rfl rfl rfl rfl rfl (Nat.le_of_ble_eq_true rfl) rfl rfl ?_
  refine V.aload_n (q := 32) F dX3_init_31 rfl rfl rfl ?_
  refine V.bipush (q := 34) F dX3_init_32 rfl (by decide) ?_
  refine V.newI (q := 36) (N := 16) (k' := 5) (n' := 130) F dX3_init_34 rfl (List.mem_of_getElem? (i := 8) rfl) rfl (by decide) rfl rfl ⟨Nat.le_of_ble_eq_true rfl, Nat.le_of_ble_eq_true rfl⟩ (fun q5 => ?_)
  refine V.eq (pc' := 36) (ws' := [(h, .inr (3, [.ref q1, .ref q3, .ref q4, .null, .null, .int (zI 0), .int (zI 0)])), (q1, .inr (5, [.ref q2, .int (zI 0)])), (q2, aC G 80 (fun _ => 0)), (q3, aI G 16 (fun _ => 0)), (q4, aI G 16 (fun _ => 0)), (q5, aI G 16 (fun _ => 0))]) rfl rfl rfl rfl ?_
  refine V.putF (p0 := True) (q := 39) (ws' := [_, _, _, _, _, _]) (fs' := [_, _, _, _, _, _, _]) F M 0 3 dX3_init_36 rfl rfl rfl inX3_init_X3 tyX3 tyX3_ok nmX3 (by decide) (List.mem_of_getElem? (i := 11) rfl) rfl rfl rfl rfl rfl (Nat.le_of_ble_eq_true rfl) rfl rfl ?_
  refine V.aload_n (q := 40) F dX3_init_39 rfl rfl rfl ?_
  refine V.bipush (q := 42) F dX3_init_40 rfl (by decide) ?_
  refine V.newI (q := 44) (N := 16) (k' := 6) (n' := 146) F dX3_init_42 rfl (List.mem_of_getElem? (i := 8) rfl) rfl (by decide) rfl rfl ⟨Nat.le_of_ble_eq_true rfl, Nat.le_of_ble_eq_true rfl⟩ (fun q6 => ?_)
  refine V.eq (pc' := 44) (ws' := [(h, .inr (3, [.ref q1, .ref q3, .ref q4, .ref q5, .null, .int (zI 0), .int (zI 0)])), (q1, .inr (5, [.ref q2, .int (zI 0)])), (q2, aC G 80 (fun _ => 0)), (q3, aI G 16 (fun _ => 0)), (q4, aI G 16 (fun _ => 0)), (q5, aI G 16 (fun _ => 0)), (q6, aI G 16 (fun _ => 0))]) rfl rfl rfl rfl ?_
  refine V.putF (p0 := True) (q := 47) (ws' := [_, _, _, _, _, _, _]) (fs' := [_, _, _, _, _, _, _]) F M 0 4 dX3_init_44 rfl rfl rfl inX3_init_X3 tyX3 tyX3_ok nmX3 (by decide) (List.mem_of_getElem? (i := 12) rfl) rfl rfl rfl rfl rfl (Nat.le_of_ble_eq_true rfl) rfl rfl ?_
  refine V.aload_n (q := 48) F dX3_init_47 rfl rfl rfl ?_
  refine V.iconst (q := 49) F dX3_init_48 rfl ?_
  refine V.put (q := 52) (ws' := [_, _, _, _, _, _, _]) (fs' := [_, _, _, _, _, _, _]) F 0 5 dX3_init_49 rfl rfl rfl inX3_init_X3 tyX3 tyX3_ok nmX3 (by decide) (List.mem_of_getElem? (i := 13) rfl) rfl rfl rfl rfl (Nat.le_of_ble_eq_true rfl) rfl rfl ?_
  refine V.aload_n (q := 53) F dX3_init_52 rfl rfl rfl ?_
  refine V.iconst (q := 54) F dX3_init_53 rfl ?_
  refine V.put (q := 57) (ws' := [_, _, _, _, _, _, _]) (fs' := [_, _, _, _, _, _, _]) F 0 6 dX3_init_54 rfl rfl rfl inX3_init_X3 tyX3 tyX3_ok nmX3 (by decide) (List.mem_of_getElem? (i := 14) rfl) rfl rfl rfl rfl (Nat.le_of_ble_eq_true rfl) rfl rfl ?_
  exact V.retA F T dX3_init_57 rfl rfl ⟨q1, q2, q3, q4, q5, q6, rfl⟩

abbrev YX4_init (l : Launch) (G : Gx) : Sx := (cX4_init, 1, RX4, wsX4_init, rmA 1 3 144, l, G)
theorem ydX4_init : ydOk yX4_init 0 := by decide +kernel
theorem inX4_init_X4 : ∀ w ∈ wsX40, w ∈ wsX4_init := fun _ h => List.mem_cons_of_mem _ (List.mem_append_right _ h)
set_option maxHeartbeats 2000000 in
set_option maxRecDepth 20000 in
theorem c_X4_init (l : Launch) (G : Gx) (h : Nat) : CtA l G yX4_init wsX4_init (rmA 1 3 144) [.ref h] [(h, .inr (4, [.null, .null, .null, .int (zI 0)]))] 3 144 (fun w => ∃ q1 q2 q3 : Nat, w = [(h, .inr (4, [.ref q1, .ref q2, .ref q3, .int (zI 0)])), (q1, aI G 48 (fun _ => 0)), (q2, aI G 48 (fun _ => 0)), (q3, aZ G 48 (fun _ => 0))]) := by
  refine CtA.intro (cc := cX4_init) (maxL := 1) (lo0 := [some (.ref h)]) rfl (by decide +kernel) rfl ⟨rfl, rfl⟩ (Nat.le_of_ble_eq_true rfl) rfl ?_
  intro X F M T
  change Fx X (YX4_init l G) at F
  change V X (YX4_init l G) 0 0 0 _ _ _
  refine V.aload_n (q := 1) F dX4_init_0 rfl rfl rfl ?_
  refine V.oinit (q := 4) F dX4_init_1 rfl (List.mem_of_getElem? (i := 1) rfl) (List.mem_of_getElem? (i := 2) rfl) (List.mem_of_getElem? (i := 3) rfl) (Nat.le_of_ble_eq_true rfl) (Nat.le_of_ble_eq_true rfl) (Nat.le_of_ble_eq_true rfl) ?_
  refine V.aload_n (q := 5) F dX4_init_4 rfl rfl rfl ?_
  refine V.bipush (q := 7) F dX4_init_5 rfl (by decide) ?_
  refine V.newI (q := 9) (N := 48) (k' := 1) (n' := 48) F dX4_init_7 rfl (List.mem_of_getElem? (i := 4) rfl) rfl (by decide) rfl rfl ⟨Nat.le_of_ble_eq_true rfl, Nat.le_of_ble_eq_true rfl⟩ (fun q1 => ?_)
  refine V.eq (pc' := 9) (ws' := [(h, .inr (4, [.null, .null, .null, .int (zI 0)])), (q1, aI G 48 (fun _ => 0))]) rfl rfl rfl rfl ?_
  refine V.putF (p0 := True) (q := 12) (ws' := [_, _]) (fs' := [_, _, _, _]) F M 0 0 dX4_init_9 rfl rfl rfl inX4_init_X4 tyX4 tyX4_ok nmX4 (by decide) (List.mem_of_getElem? (i := 5) rfl) rfl rfl rfl rfl rfl (Nat.le_of_ble_eq_true rfl) rfl rfl ?_
  refine V.aload_n (q := 13) F dX4_init_12 rfl rfl rfl ?_
  refine V.bipush (q := 15) F dX4_init_13 rfl (by decide) ?_
  refine V.newI (q := 17) (N := 48) (k' := 2) (n' := 96) F dX4_init_15 rfl (List.mem_of_getElem? (i := 4) rfl) rfl (by decide) rfl rfl ⟨Nat.le_of_ble_eq_true rfl, Nat.le_of_ble_eq_true rfl⟩ (fun q2 => ?_)
  refine V.eq (pc' := 17) (ws' := [(h, .inr (4, [.ref q1, .null, .null, .int (zI 0)])), (q1, aI G 48 (fun _ => 0)), (q2, aI G 48 (fun _ => 0))]) rfl rfl rfl rfl ?_
  refine V.putF (p0 := True) (q := 20) (ws' := [_, _, _]) (fs' := [_, _, _, _]) F M 0 1 dX4_init_17 rfl rfl rfl inX4_init_X4 tyX4 tyX4_ok nmX4 (by decide) (List.mem_of_getElem? (i := 6) rfl) rfl rfl rfl rfl rfl (Nat.le_of_ble_eq_true rfl) rfl rfl ?_
  refine V.aload_n (q := 21) F dX4_init_20 rfl rfl rfl ?_
  refine V.bipush (q := 23) F dX4_init_21 rfl (by decide) ?_
  refine V.newZ (q := 25) (N := 48) (k' := 3) (n' := 144) F dX4_init_23 rfl (List.mem_of_getElem? (i := 7) rfl) rfl (by decide) rfl rfl ⟨Nat.le_of_ble_eq_true rfl, Nat.le_of_ble_eq_true rfl⟩ (fun q3 => ?_)
  refine V.eq (pc' := 25) (ws' := [(h, .inr (4, [.ref q1, .ref q2, .null, .int (zI 0)])), (q1, aI G 48 (fun _ => 0)), (q2, aI G 48 (fun _ => 0)), (q3, aZ G 48 (fun _ => 0))]) rfl rfl rfl rfl ?_
  refine V.putF (p0 := True) (q := 28) (ws' := [_, _, _, _]) (fs' := [_, _, _, _]) F M 0 2 dX4_init_25 rfl rfl rfl inX4_init_X4 tyX4 tyX4_ok nmX4 (by decide) (List.mem_of_getElem? (i := 8) rfl) rfl rfl rfl rfl rfl (Nat.le_of_ble_eq_true rfl) rfl rfl ?_
  refine V.aload_n (q := 29) F dX4_init_28 rfl rfl rfl ?_
  refine V.iconst (q := 30) F dX4_init_29 rfl ?_
  refine V.put (q := 33) (ws' := [_, _, _, _]) (fs' := [_, _, _, _]) F 0 3 dX4_init_30 rfl rfl rfl inX4_init_X4 tyX4 tyX4_ok nmX4 (by decide) (List.mem_of_getElem? (i := 9) rfl) rfl rfl rfl rfl (Nat.le_of_ble_eq_true rfl) rfl rfl ?_
  exact V.retA F T dX4_init_33 rfl rfl ⟨q1, q2, q3, rfl⟩

abbrev YX1_init (l : Launch) (G : Gx) : Sx := (cX1_init, 1, RX1, wsX1_init, rmA 2 4 148, l, G)
theorem ydX1_init : ydOk yX1_init 0 := by decide +kernel
theorem inX1_init_X1 : ∀ w ∈ wsX10, w ∈ wsX1_init := fun _ h => List.mem_cons_of_mem _ (List.mem_append_right _ h)
theorem inX1_init_X4 : ∀ w ∈ wsX40, w ∈ wsX1_init := fun _ h => List.mem_cons_of_mem _ (List.mem_append_left _ (List.mem_append_right _ h))
set_option maxHeartbeats 2000000 in
set_option maxRecDepth 20000 in
theorem c_X1_init (l : Launch) (G : Gx) (h : Nat) : CtA l G yX1_init wsX1_init (rmA 2 4 148) [.ref h] [(h, .inr (1, [.null, .int (zI 0), .int (zI 0), .int (zI 0)]))] 4 148 (fun w => ∃ q1 q2 q3 q4 : Nat, w = [(h, .inr (1, [.ref q1, .int (zI 0), .int (zI 0), .int (zI 0)])), (q1, .inr (4, [.ref q2, .ref q3, .ref q4, .int (zI 0)])), (q2, aI G 48 (fun _ => 0)), (q3, aI G 48 (fun _ => 0)), (q4, aZ G 48 (fun _ => 0))]) := by
  refine CtA.intro (cc := cX1_init) (maxL := 1) (lo0 := [some (.ref h)]) rfl (by decide +kernel) rfl ⟨rfl, rfl⟩ (Nat.le_of_ble_eq_true rfl) rfl ?_
  intro X F M T
  change Fx X (YX1_init l G) at F
  change V X (YX1_init l G) 0 0 0 _ _ _
  refine V.aload_n (q := 1) F dX1_init_0 rfl rfl rfl ?_
  refine V.oinit (q := 4) F dX1_init_1 rfl (List.mem_of_getElem? (i := 1) rfl) (List.mem_of_getElem? (i := 2) rfl) (List.mem_of_getElem? (i := 3) rfl) (Nat.le_of_ble_eq_true rfl) (Nat.le_of_ble_eq_true rfl) (Nat.le_of_ble_eq_true rfl) ?_
  refine V.aload_n (q := 5) F dX1_init_4 rfl rfl rfl ?_
  refine V.new (q := 8) (k' := 1) (n' := 4) (fs := [.null, .null, .null, .int (zI 0)]) F 4 dX1_init_5 rfl rfl inX1_init_X4 tyX4 tyX4_ok (List.mem_of_getElem? (i := 4) rfl) (List.mem_of_getElem? (i := 5) rfl) (List.mem_of_getElem? (i := 6) rfl) dfX4 rfl rfl ⟨Nat.le_of_ble_eq_true rfl, Nat.le_of_ble_eq_true rfl⟩ (fun q1 => ?_)
  refine V.eq (pc' := 8) (ws' := [(h, .inr (1, [.null, .int (zI 0), .int (zI 0), .int (zI 0)])), (q1, .inr (4, [.null, .null, .null, .int (zI 0)]))]) rfl rfl rfl rfl ?_
  refine V.dup (q := 9) F dX1_init_8 rfl rfl ?_
  refine V.callI (q := 12) (k' := 4) (n' := 148) (wr := [(h, .inr (1, [.null, .int (zI 0), .int (zI 0), .int (zI 0)]))]) F [1] [0] dX1_init_9 rfl (c_X4_init l G q1) gX1_init_X4_init rfl rfl (List.mem_of_getElem? (i := 6) rfl) (List.mem_of_getElem? (i := 11) rfl) (List.mem_of_getElem? (i := 12) rfl) ydX4_init ⟨Nat.le_of_ble_eq_true rfl, Nat.le_of_ble_eq_true rfl⟩ rfl rfl (Nat.le_of_ble_eq_true rfl) rfl rfl rfl rfl (by decide) rfl rfl ⟨Nat.le_of_ble_eq_true rfl, Nat.le_of_ble_eq_true rfl⟩ ?_
  rintro w9 ⟨q2, q3, q4, rfl⟩
  refine V.eq (pc' := 12) (ws' := [(h, .inr (1, [.null, .int (zI 0), .int (zI 0), .int (zI 0)])), (q1, .inr (4, [.ref q2, .ref q3, .ref q4, .int (zI 0)])), (q2, aI G 48 (fun _ => 0)), (q3, aI G 48 (fun _ => 0)), (q4, aZ G 48 (fun _ => 0))]) rfl rfl rfl rfl ?_
  refine V.putF (p0 := True) (q := 15) (ws' := [_, _, _, _, _]) (fs' := [_, _, _, _]) F M 0 0 dX1_init_12 rfl rfl rfl inX1_init_X1 tyX1 tyX1_ok nmX1 (by decide) (List.mem_of_getElem? (i := 7) rfl) rfl rfl rfl rfl rfl (Nat.le_of_ble_eq_true rfl) rfl rfl ?_
  refine V.aload_n (q := 16) F dX1_init_15 rfl rfl rfl ?_
  refine V.iconst (q := 17) F dX1_init_16 rfl ?_
  refine V.put (q := 20) (ws' := [_, _, _, _, _]) (fs' := [_, _, _, _]) F 0 1 dX1_init_17 rfl rfl rfl inX1_init_X1 tyX1 tyX1_ok nmX1 (by decide) (List.mem_of_getElem? (i := 8) rfl) rfl rfl rfl rfl (Nat.le_of_ble_eq_true rfl) rfl rfl ?_
  refine V.aload_n (q := 21) F dX1_init_20 rfl rfl rfl ?_
  refine V.iconst (q := 22) F dX1_init_21 rfl ?_
  refine V.put (q := 25) (ws' := [_, _, _, _, _]) (fs' := [_, _, _, _]) F 0 2 dX1_init_22 rfl rfl rfl inX1_init_X1 tyX1 tyX1_ok nmX1 (by decide) (List.mem_of_getElem? (i := 9) rfl) rfl rfl rfl rfl (Nat.le_of_ble_eq_true rfl) rfl rfl ?_
  refine V.aload_n (q := 26) F dX1_init_25 rfl rfl rfl ?_
  refine V.iconst (q := 27) F dX1_init_26 rfl ?_
  refine V.put (q := 30) (ws' := [_, _, _, _, _]) (fs' := [_, _, _, _]) F 0 3 dX1_init_27 rfl rfl rfl inX1_init_X1 tyX1 tyX1_ok nmX1 (by decide) (List.mem_of_getElem? (i := 10) rfl) rfl rfl rfl rfl (Nat.le_of_ble_eq_true rfl) rfl rfl ?_
  exact V.retA F T dX1_init_30 rfl rfl ⟨q1, q2, q3, q4, rfl⟩

abbrev YX6_init (l : Launch) (G : Gx) : Sx := (cX6_init, 1, RX6, wsX6_init, rmA 3 26 159276, l, G)
theorem ydX6_init : ydOk yX6_init 0 := by decide +kernel
theorem inX6_init_X0 : ∀ w ∈ wsX00, w ∈ wsX6_init := fun _ h => List.mem_cons_of_mem _ (List.mem_append_left _ (List.mem_append_left _ (List.mem_append_left _ (List.mem_append_left _ (List.mem_append_left _ (List.mem_append_left _ (List.mem_append_right _ h)))))))
theorem inX6_init_X1 : ∀ w ∈ wsX10, w ∈ wsX6_init := fun _ h => List.mem_cons_of_mem _ (List.mem_append_left _ (List.mem_append_right _ h))
theorem inX6_init_X2 : ∀ w ∈ wsX20, w ∈ wsX6_init := fun _ h => List.mem_cons_of_mem _ (List.mem_append_left _ (List.mem_append_left _ (List.mem_append_left _ (List.mem_append_left _ (List.mem_append_right _ h)))))
theorem inX6_init_X3 : ∀ w ∈ wsX30, w ∈ wsX6_init := fun _ h => List.mem_cons_of_mem _ (List.mem_append_left _ (List.mem_append_left _ (List.mem_append_left _ (List.mem_append_right _ h))))
theorem inX6_init_X4 : ∀ w ∈ wsX40, w ∈ wsX6_init := fun _ h => List.mem_cons_of_mem _ (List.mem_append_left _ (List.mem_append_left _ (List.mem_append_right _ h)))
theorem inX6_init_X6 : ∀ w ∈ wsX60, w ∈ wsX6_init := fun _ h => List.mem_cons_of_mem _ (List.mem_append_left _ (List.mem_append_left _ (List.mem_append_left _ (List.mem_append_left _ (List.mem_append_left _ (List.mem_append_right _ h))))))
set_option maxHeartbeats 2000000 in
set_option maxRecDepth 20000 in
theorem c_X6_init (l : Launch) (G : Gx) (h : Nat) : CtA l G yX6_init wsX6_init (rmA 3 26 159276) [.ref h] [(h, .inr (6, [.null, .null, .null, .int (zI 0), .null, .null, .null, .null, .null]))] 26 159276 (fun w => ∃ q1 q2 q3 q4 q5 q6 q7 q8 q9 q10 q11 q12 q13 q14 q15 q16 q17 q18 q19 q20 q21 q22 q23 q24 q25 q26 : Nat, w = [(h, .inr (6, [.ref q1, .ref q4, .ref q6, .int (zI 0), .ref q7, .ref q8, .ref q14, .ref q18, .ref q22])), (q1, .inr (0, [.ref q2, .ref q3])), (q2, aI G 26181 (upz (upz (upz (fun _ => 0) 26176 12) 26177 30) 26178 5)), (q3, aI G 1584 (fun _ => 0)), (q4, .inr (2, [.ref q5, .int (zI 0), .int (zI 0)])), (q5, aI G 104724 (fun _ => 0)), (q6, aI G 26181 (fun _ => 0)), (q7, .inr (3, [.ref q8, .ref q10, .ref q11, .ref q12, .ref q13, .int (zI 0), .int (zI 0)])), (q8, .inr (5, [.ref q9, .int (zI 0)])), (q9, aC G 80 (fun _ => 0)), (q10, aI G 16 (fun _ => 0)), (q11, aI G 16 (fun _ => 0)), (q12, aI G 16 (fun _ => 0)), (q13, aI G 16 (fun _ => 0)), (q14, .inr (4, [.ref q15, .ref q16, .ref q17, .int (zI 0)])), (q15, aI G 48 (fun _ => 0)), (q16, aI G 48 (fun _ => 0)), (q17, aZ G 48 (fun _ => 0)), (q18, .inr (4, [.ref q19, .ref q20, .ref q21, .int (zI 0)])), (q19, aI G 48 (fun _ => 0)), (q20, aI G 48 (fun _ => 0)), (q21, aZ G 48 (fun _ => 0)), (q22, .inr (1, [.ref q23, .int (zI 0), .int (zI 0), .int (zI 0)])), (q23, .inr (4, [.ref q24, .ref q25, .ref q26, .int (zI 0)])), (q24, aI G 48 (fun _ => 0)), (q25, aI G 48 (fun _ => 0)), (q26, aZ G 48 (fun _ => 0))]) := by
  refine CtA.intro (cc := cX6_init) (maxL := 1) (lo0 := [some (.ref h)]) rfl (by decide +kernel) rfl ⟨rfl, rfl⟩ (Nat.le_of_ble_eq_true rfl) rfl ?_
  intro X F M T
  change Fx X (YX6_init l G) at F
  change V X (YX6_init l G) 0 0 0 _ _ _
  refine V.aload_n (q := 1) F dX6_init_0 rfl rfl rfl ?_
  refine V.oinit (q := 4) F dX6_init_1 rfl (List.mem_of_getElem? (i := 1) rfl) (List.mem_of_getElem? (i := 2) rfl) (List.mem_of_getElem? (i := 3) rfl) (Nat.le_of_ble_eq_true rfl) (Nat.le_of_ble_eq_true rfl) (Nat.le_of_ble_eq_true rfl) ?_
  refine V.aload_n (q := 5) F dX6_init_4 rfl rfl rfl ?_
  refine V.new (q := 8) (k' := 1) (n' := 2) (fs := [.null, .null]) F 0 dX6_init_5 rfl rfl inX6_init_X0 tyX0 tyX0_ok (List.mem_of_getElem? (i := 4) rfl) (List.mem_of_getElem? (i := 5) rfl) (List.mem_of_getElem? (i := 6) rfl) dfX0 rfl rfl ⟨Nat.le_of_ble_eq_true rfl, Nat.le_of_ble_eq_true rfl⟩ (fun q1 => ?_)
  refine V.eq (pc' := 8) (ws' := [(h, .inr (6, [.null, .null, .null, .int (zI 0), .null, .null, .null, .null, .null])), (q1, .inr (0, [.null, .null]))]) rfl rfl rfl rfl ?_
  refine V.dup (q := 9) F dX6_init_8 rfl rfl ?_
  refine V.callI (q := 12) (k' := 3) (n' := 27767) (wr := [(h, .inr (6, [.null, .null, .null, .int (zI 0), .null, .null, .null, .null, .null]))]) F [1] [0] dX6_init_9 rfl (c_X0_init l G q1) gX6_init_X0_init rfl rfl (List.mem_of_getElem? (i := 6) rfl) (List.mem_of_getElem? (i := 30) rfl) (List.mem_of_getElem? (i := 31) rfl) ydX0_init ⟨Nat.le_of_ble_eq_true rfl, Nat.le_of_ble_eq_true rfl⟩ rfl rfl (Nat.le_of_ble_eq_true rfl) rfl rfl rfl rfl (by decide) rfl rfl ⟨Nat.le_of_ble_eq_true rfl, Nat.le_of_ble_eq_true rfl⟩ ?_
  rintro w9 ⟨q2, q3, rfl⟩
  refine V.eq (pc' := 12) (ws' := [(h, .inr (6, [.null, .null, .null, .int (zI 0), .null, .null, .null, .null, .null])), (q1, .inr (0, [.ref q2, .ref q3])), (q2, aI G 26181 (upz (upz (upz (fun _ => 0) 26176 12) 26177 30) 26178 5)), (q3, aI G 1584 (fun _ => 0))]) rfl rfl rfl rfl ?_
  refine V.putF (p0 := True) (q := 15) (ws' := [_, _, _, _]) (fs' := [_, _, _, _, _, _, _, _, _]) F M 0 0 dX6_init_12 rfl rfl rfl inX6_init_X6 tyX6 tyX6_ok nmX6 (by decide) (List.mem_of_getElem? (i := 7) rfl) rfl rfl rfl rfl rfl (Nat.le_of_ble_eq_true rfl) rfl rfl ?_
  refine V.aload_n (q := 16) F dX6_init_15 rfl rfl rfl ?_
  refine V.new (q := 19) (k' := 4) (n' := 27770) (fs := [.null, .int (zI 0), .int (zI 0)]) F 2 dX6_init_16 rfl rfl inX6_init_X2 tyX2 tyX2_ok (List.mem_of_getElem? (i := 8) rfl) (List.mem_of_getElem? (i := 9) rfl) (List.mem_of_getElem? (i := 10) rfl) dfX2 rfl rfl ⟨Nat.le_of_ble_eq_true rfl, Nat.le_of_ble_eq_true rfl⟩ (fun q4 => ?_)
  refine V.eq (pc' := 19) (ws' := [(h, .inr (6, [.ref q1, .null, .null, .int (zI 0), .null, .null, .null, .null, .null])), (q1, .inr (0, [.ref q2, .ref q3])), (q2, aI G 26181 (upz (upz (upz (fun _ => 0) 26176 12) 26177 30) 26178 5)), (q3, aI G 1584 (fun _ => 0)), (q4, .inr (2, [.null, .int (zI 0), .int (zI 0)]))]) rfl rfl rfl rfl ?_
  refine V.dup (q := 20) F dX6_init_19 rfl rfl ?_
  refine V.callI (q := 23) (k' := 5) (n' := 132494) (wr := [(h, .inr (6, [.ref q1, .null, .null, .int (zI 0), .null, .null, .null, .null, .null])), (q1, .inr (0, [.ref q2, .ref q3])), (q2, aI G 26181 (upz (upz (upz (fun _ => 0) 26176 12) 26177 30) 26178 5)), (q3, aI G 1584 (fun _ => 0))]) F [4] [0, 1, 2, 3] dX6_init_20 rfl (c_X2_init l G q4) gX6_init_X2_init rfl rfl (List.mem_of_getElem? (i := 10) rfl) (List.mem_of_getElem? (i := 36) rfl) (List.mem_of_getElem? (i := 37) rfl) ydX2_init ⟨Nat.le_of_ble_eq_true rfl, Nat.le_of_ble_eq_true rfl⟩ rfl rfl (Nat.le_of_ble_eq_true rfl) rfl rfl rfl rfl (by decide) rfl rfl ⟨Nat.le_of_ble_eq_true rfl, Nat.le_of_ble_eq_true rfl⟩ ?_
  rintro w9 ⟨q5, rfl⟩
  refine V.eq (pc' := 23) (ws' := [(h, .inr (6, [.ref q1, .null, .null, .int (zI 0), .null, .null, .null, .null, .null])), (q1, .inr (0, [.ref q2, .ref q3])), (q2, aI G 26181 (upz (upz (upz (fun _ => 0) 26176 12) 26177 30) 26178 5)), (q3, aI G 1584 (fun _ => 0)), (q4, .inr (2, [.ref q5, .int (zI 0), .int (zI 0)])), (q5, aI G 104724 (fun _ => 0))]) rfl rfl rfl rfl ?_
  refine V.putF (p0 := True) (q := 26) (ws' := [_, _, _, _, _, _]) (fs' := [_, _, _, _, _, _, _, _, _]) F M 0 1 dX6_init_23 rfl rfl rfl inX6_init_X6 tyX6 tyX6_ok nmX6 (by decide) (List.mem_of_getElem? (i := 11) rfl) rfl rfl rfl rfl rfl (Nat.le_of_ble_eq_true rfl) rfl rfl ?_
  refine V.aload_n (q := 27) F dX6_init_26 rfl rfl rfl ?_
  refine V.sipush (q := 30) F dX6_init_27 rfl (by decide) ?_
  refine V.newI (q := 32) (N := 26181) (k' := 6) (n' := 158675) F dX6_init_30 rfl (List.mem_of_getElem? (i := 12) rfl) rfl (by decide) rfl rfl ⟨Nat.le_of_ble_eq_true rfl, Nat.le_of_ble_eq_true rfl⟩ (fun q6 => ?_)
  refine V.eq (pc' := 32) (ws' := [(h, .inr (6, [.ref q1, .ref q4, .null, .int (zI 0), .null, .null, .null, .null, .null])), (q1, .inr (0, [.ref q2, .ref q3])), (q2, aI G 26181 (upz (upz (upz (fun _ => 0) 26176 12) 26177 30) 26178 5)), (q3, aI G 1584 (fun _ => 0)), (q4, .inr (2, [.ref q5, .int (zI 0), .int (zI 0)])), (q5, aI G 104724 (fun _ => 0)), (q6, aI G 26181 (fun _ => 0))]) rfl rfl rfl rfl ?_
  refine V.putF (p0 := True) (q := 35) (ws' := [_, _, _, _, _, _, _]) (fs' := [_, _, _, _, _, _, _, _, _]) F M 0 2 dX6_init_32 rfl rfl rfl inX6_init_X6 tyX6 tyX6_ok nmX6 (by decide) (List.mem_of_getElem? (i := 13) rfl) rfl rfl rfl rfl rfl (Nat.le_of_ble_eq_true rfl) rfl rfl ?_
  refine V.aload_n (q := 36) F dX6_init_35 rfl rfl rfl ?_
  refine V.iconst (q := 37) F dX6_init_36 rfl ?_
  refine V.put (q := 40) (ws' := [_, _, _, _, _, _, _]) (fs' := [_, _, _, _, _, _, _, _, _]) F 0 3 dX6_init_37 rfl rfl rfl inX6_init_X6 tyX6 tyX6_ok nmX6 (by decide) (List.mem_of_getElem? (i := 14) rfl) rfl rfl (by decide +kernel) rfl (Nat.le_of_ble_eq_true rfl) rfl rfl ?_
  refine V.aload_n (q := 41) F dX6_init_40 rfl rfl rfl ?_
  refine V.new (q := 44) (k' := 7) (n' := 158682) (fs := [.null, .null, .null, .null, .null, .int (zI 0), .int (zI 0)]) F 3 dX6_init_41 rfl rfl inX6_init_X3 tyX3 tyX3_ok (List.mem_of_getElem? (i := 15) rfl) (List.mem_of_getElem? (i := 16) rfl) (List.mem_of_getElem? (i := 17) rfl) dfX3 rfl rfl ⟨Nat.le_of_ble_eq_true rfl, Nat.le_of_ble_eq_true rfl⟩ (fun q7 => ?_)
  refine V.eq (pc' := 44) (ws' := [(h, .inr (6, [.ref q1, .ref q4, .ref q6, .int (zI 0), .null, .null, .null, .null, .null])), (q1, .inr (0, [.ref q2, .ref q3])), (q2, aI G 26181 (upz (upz (upz (fun _ => 0) 26176 12) 26177 30) 26178 5)), (q3, aI G 1584 (fun _ => 0)), (q4, .inr (2, [.ref q5, .int (zI 0), .int (zI 0)])), (q5, aI G 104724 (fun _ => 0)), (q6, aI G 26181 (fun _ => 0)), (q7, .inr (3, [.null, .null, .null, .null, .null, .int (zI 0), .int (zI 0)]))]) rfl rfl rfl rfl ?_
  refine V.dup (q := 45) F dX6_init_44 rfl rfl ?_
  refine V.callI (q := 48) (k' := 13) (n' := 158828) (wr := [(h, .inr (6, [.ref q1, .ref q4, .ref q6, .int (zI 0), .null, .null, .null, .null, .null])), (q1, .inr (0, [.ref q2, .ref q3])), (q2, aI G 26181 (upz (upz (upz (fun _ => 0) 26176 12) 26177 30) 26178 5)), (q3, aI G 1584 (fun _ => 0)), (q4, .inr (2, [.ref q5, .int (zI 0), .int (zI 0)])), (q5, aI G 104724 (fun _ => 0)), (q6, aI G 26181 (fun _ => 0))]) F [7] [0, 1, 2, 3, 4, 5, 6] dX6_init_45 rfl (c_X3_init l G q7) gX6_init_X3_init rfl rfl (List.mem_of_getElem? (i := 17) rfl) (List.mem_of_getElem? (i := 44) rfl) (List.mem_of_getElem? (i := 45) rfl) ydX3_init ⟨Nat.le_of_ble_eq_true rfl, Nat.le_of_ble_eq_true rfl⟩ rfl rfl (Nat.le_of_ble_eq_true rfl) rfl rfl rfl rfl (by decide) rfl rfl ⟨Nat.le_of_ble_eq_true rfl, Nat.le_of_ble_eq_true rfl⟩ ?_
  rintro w9 ⟨q8, q9, q10, q11, q12, q13, rfl⟩
  refine V.eq (pc' := 48) (ws' := [(h, .inr (6, [.ref q1, .ref q4, .ref q6, .int (zI 0), .null, .null, .null, .null, .null])), (q1, .inr (0, [.ref q2, .ref q3])), (q2, aI G 26181 (upz (upz (upz (fun _ => 0) 26176 12) 26177 30) 26178 5)), (q3, aI G 1584 (fun _ => 0)), (q4, .inr (2, [.ref q5, .int (zI 0), .int (zI 0)])), (q5, aI G 104724 (fun _ => 0)), (q6, aI G 26181 (fun _ => 0)), (q7, .inr (3, [.ref q8, .ref q10, .ref q11, .ref q12, .ref q13, .int (zI 0), .int (zI 0)])), (q8, .inr (5, [.ref q9, .int (zI 0)])), (q9, aC G 80 (fun _ => 0)), (q10, aI G 16 (fun _ => 0)), (q11, aI G 16 (fun _ => 0)), (q12, aI G 16 (fun _ => 0)), (q13, aI G 16 (fun _ => 0))]) rfl rfl rfl rfl ?_
  refine V.putF (p0 := True) (q := 51) (ws' := [_, _, _, _, _, _, _, _, _, _, _, _, _, _]) (fs' := [_, _, _, _, _, _, _, _, _]) F M 0 4 dX6_init_48 rfl rfl rfl inX6_init_X6 tyX6 tyX6_ok nmX6 (by decide) (List.mem_of_getElem? (i := 18) rfl) rfl rfl rfl rfl rfl (Nat.le_of_ble_eq_true rfl) rfl rfl ?_
  refine V.aload_n (q := 52) F dX6_init_51 rfl rfl rfl ?_
  refine V.aload_n (q := 53) F dX6_init_52 rfl rfl rfl ?_
  refine V.get (q := 56) F 0 4 dX6_init_53 rfl rfl rfl inX6_init_X6 (by decide) (List.mem_of_getElem? (i := 18) rfl) rfl ?_
  refine V.get (q := 59) F 7 0 dX6_init_56 rfl rfl rfl inX6_init_X3 (by decide) (List.mem_of_getElem? (i := 19) rfl) rfl ?_
  refine V.putF (p0 := True) (q := 62) (ws' := [_, _, _, _, _, _, _, _, _, _, _, _, _, _]) (fs' := [_, _, _, _, _, _, _, _, _]) F M 0 5 dX6_init_59 rfl rfl rfl inX6_init_X6 tyX6 tyX6_ok nmX6 (by decide) (List.mem_of_getElem? (i := 20) rfl) rfl rfl rfl rfl rfl (Nat.le_of_ble_eq_true rfl) rfl rfl ?_
  refine V.aload_n (q := 63) F dX6_init_62 rfl rfl rfl ?_
  refine V.new (q := 66) (k' := 14) (n' := 158832) (fs := [.null, .null, .null, .int (zI 0)]) F 4 dX6_init_63 rfl rfl inX6_init_X4 tyX4 tyX4_ok (List.mem_of_getElem? (i := 21) rfl) (List.mem_of_getElem? (i := 22) rfl) (List.mem_of_getElem? (i := 23) rfl) dfX4 rfl rfl ⟨Nat.le_of_ble_eq_true rfl, Nat.le_of_ble_eq_true rfl⟩ (fun q14 => ?_)
  refine V.eq (pc' := 66) (ws' := [(h, .inr (6, [.ref q1, .ref q4, .ref q6, .int (zI 0), .ref q7, .ref q8, .null, .null, .null])), (q1, .inr (0, [.ref q2, .ref q3])), (q2, aI G 26181 (upz (upz (upz (fun _ => 0) 26176 12) 26177 30) 26178 5)), (q3, aI G 1584 (fun _ => 0)), (q4, .inr (2, [.ref q5, .int (zI 0), .int (zI 0)])), (q5, aI G 104724 (fun _ => 0)), (q6, aI G 26181 (fun _ => 0)), (q7, .inr (3, [.ref q8, .ref q10, .ref q11, .ref q12, .ref q13, .int (zI 0), .int (zI 0)])), (q8, .inr (5, [.ref q9, .int (zI 0)])), (q9, aC G 80 (fun _ => 0)), (q10, aI G 16 (fun _ => 0)), (q11, aI G 16 (fun _ => 0)), (q12, aI G 16 (fun _ => 0)), (q13, aI G 16 (fun _ => 0)), (q14, .inr (4, [.null, .null, .null, .int (zI 0)]))]) rfl rfl rfl rfl ?_
  refine V.dup (q := 67) F dX6_init_66 rfl rfl ?_
  refine V.callI (q := 70) (k' := 17) (n' := 158976) (wr := [(h, .inr (6, [.ref q1, .ref q4, .ref q6, .int (zI 0), .ref q7, .ref q8, .null, .null, .null])), (q1, .inr (0, [.ref q2, .ref q3])), (q2, aI G 26181 (upz (upz (upz (fun _ => 0) 26176 12) 26177 30) 26178 5)), (q3, aI G 1584 (fun _ => 0)), (q4, .inr (2, [.ref q5, .int (zI 0), .int (zI 0)])), (q5, aI G 104724 (fun _ => 0)), (q6, aI G 26181 (fun _ => 0)), (q7, .inr (3, [.ref q8, .ref q10, .ref q11, .ref q12, .ref q13, .int (zI 0), .int (zI 0)])), (q8, .inr (5, [.ref q9, .int (zI 0)])), (q9, aC G 80 (fun _ => 0)), (q10, aI G 16 (fun _ => 0)), (q11, aI G 16 (fun _ => 0)), (q12, aI G 16 (fun _ => 0)), (q13, aI G 16 (fun _ => 0))]) F [14] [0, 1, 2, 3, 4, 5, 6, 7, 8, 9, 10, 11, 12, 13] dX6_init_67 rfl (c_X4_init l G q14) gX6_init_X4_init rfl rfl (List.mem_of_getElem? (i := 23) rfl) (List.mem_of_getElem? (i := 65) rfl) (List.mem_of_getElem? (i := 66) rfl) ydX4_init ⟨Nat.le_of_ble_eq_true rfl, Nat.le_of_ble_eq_true rfl⟩ rfl rfl (Nat.le_of_ble_eq_true rfl) rfl rfl rfl rfl (by decide) rfl rfl ⟨Nat.le_of_ble_eq_true rfl, Nat.le_of_ble_eq_true rfl⟩ ?_
  rintro w9 ⟨q15, q16, q17, rfl⟩
  refine V.eq (pc' := 70) (ws' := [(h, .inr (6, [.ref q1, .ref q4, .ref q6, .int (zI 0), .ref q7, .ref q8, .null, .null, .null])), (q1, .inr (0, [.ref q2, .ref q3])), (q2, aI G 26181 (upz (upz (upz (fun _ => 0) 26176 12) 26177 30) 26178 5)), (q3, aI G 1584 (fun _ => 0)), (q4, .inr (2, [.ref q5, .int (zI 0), .int (zI 0)])), (q5, aI G 104724 (fun _ => 0)), (q6, aI G 26181 (fun _ => 0)), (q7, .inr (3, [.ref q8, .ref q10, .ref q11, .ref q12, .ref q13, .int (zI 0), .int (zI 0)])), (q8, .inr (5, [.ref q9, .int (zI 0)])), (q9, aC G 80 (fun _ => 0)), (q10, aI G 16 (fun _ => 0)), (q11, aI G 16 (fun _ => 0)), (q12, aI G 16 (fun _ => 0)), (q13, aI G 16 (fun _ => 0)), (q14, .inr (4, [.ref q15, .ref q16, .ref q17, .int (zI 0)])), (q15, aI G 48 (fun _ => 0)), (q16, aI G 48 (fun _ => 0)), (q17, aZ G 48 (fun _ => 0))]) rfl rfl rfl rfl ?_
  refine V.putF (p0 := True) (q := 73) (ws' := [_, _, _, _, _, _, _, _, _, _, _, _, _, _, _, _, _, _]) (fs' := [_, _, _, _, _, _, _, _, _]) F M 0 6 dX6_init_70 rfl rfl rfl inX6_init_X6 tyX6 tyX6_ok nmX6 (by decide) (List.mem_of_getElem? (i := 24) rfl) rfl rfl rfl rfl rfl (Nat.le_of_ble_eq_true rfl) rfl rfl ?_
  refine V.aload_n (q := 74) F dX6_init_73 rfl rfl rfl ?_
  refine V.new (q := 77) (k' := 18) (n' := 158980) (fs := [.null, .null, .null, .int (zI 0)]) F 4 dX6_init_74 rfl rfl inX6_init_X4 tyX4 tyX4_ok (List.mem_of_getElem? (i := 21) rfl) (List.mem_of_getElem? (i := 22) rfl) (List.mem_of_getElem? (i := 23) rfl) dfX4 rfl rfl ⟨Nat.le_of_ble_eq_true rfl, Nat.le_of_ble_eq_true rfl⟩ (fun q18 => ?_)
  refine V.eq (pc' := 77) (ws' := [(h, .inr (6, [.ref q1, .ref q4, .ref q6, .int (zI 0), .ref q7, .ref q8, .ref q14, .null, .null])), (q1, .inr (0, [.ref q2, .ref q3])), (q2, aI G 26181 (upz (upz (upz (fun _ => 0) 26176 12) 26177 30) 26178 5)), (q3, aI G 1584 (fun _ => 0)), (q4, .inr (2, [.ref q5, .int (zI 0), .int (zI 0)])), (q5, aI G 104724 (fun _ => 0)), (q6, aI G 26181 (fun _ => 0)), (q7, .inr (3, [.ref q8, .ref q10, .ref q11, .ref q12, .ref q13, .int (zI 0), .int (zI 0)])), (q8, .inr (5, [.ref q9, .int (zI 0)])), (q9, aC G 80 (fun _ => 0)), (q10, aI G 16 (fun _ => 0)), (q11, aI G 16 (fun _ => 0)), (q12, aI G 16 (fun _ => 0)), (q13, aI G 16 (fun _ => 0)), (q14, .inr (4, [.ref q15, .ref q16, .ref q17, .int (zI 0)])), (q15, aI G 48 (fun _ => 0)), (q16, aI G 48 (fun _ => 0)), (q17, aZ G 48 (fun _ => 0)), (q18, .inr (4, [.null, .null, .null, .int (zI 0)]))]) rfl rfl rfl rfl ?_
  refine V.dup (q := 78) F dX6_init_77 rfl rfl ?_
  refine V.callI (q := 81) (k' := 21) (n' := 159124) (wr := [(h, .inr (6, [.ref q1, .ref q4, .ref q6, .int (zI 0), .ref q7, .ref q8, .ref q14, .null, .null])), (q1, .inr (0, [.ref q2, .ref q3])), (q2, aI G 26181 (upz (upz (upz (fun _ => 0) 26176 12) 26177 30) 26178 5)), (q3, aI G 1584 (fun _ => 0)), (q4, .inr (2, [.ref q5, .int (zI 0), .int (zI 0)])), (q5, aI G 104724 (fun _ => 0)), (q6, aI G 26181 (fun _ => 0)), (q7, .inr (3, [.ref q8, .ref q10, .ref q11, .ref q12, .ref q13, .int (zI 0), .int (zI 0)])), (q8, .inr (5, [.ref q9, .int (zI 0)])), (q9, aC G 80 (fun _ => 0)), (q10, aI G 16 (fun _ => 0)), (q11, aI G 16 (fun _ => 0)), (q12, aI G 16 (fun _ => 0)), (q13, aI G 16 (fun _ => 0)), (q14, .inr (4, [.ref q15, .ref q16, .ref q17, .int (zI 0)])), (q15, aI G 48 (fun _ => 0)), (q16, aI G 48 (fun _ => 0)), (q17, aZ G 48 (fun _ => 0))]) F [18] [0, 1, 2, 3, 4, 5, 6, 7, 8, 9, 10, 11, 12, 13, 14, 15, 16, 17] dX6_init_78 rfl (c_X4_init l G q18) gX6_init_X4_init rfl rfl (List.mem_of_getElem? (i := 23) rfl) (List.mem_of_getElem? (i := 65) rfl) (List.mem_of_getElem? (i := 66) rfl) ydX4_init ⟨Nat.le_of_ble_eq_true rfl, Nat.le_of_ble_eq_true rfl⟩ rfl rfl (Nat.le_of_ble_eq_true rfl) rfl rfl rfl rfl (by decide) rfl rfl ⟨Nat.le_of_ble_eq_true rfl, Nat.le_of_ble_eq_true rfl⟩ ?_
  rintro w9 ⟨q19, q20, q21, rfl⟩
  refine V.eq (pc' := 81) (ws' := [(h, .inr (6, [.ref q1, .ref q4, .ref q6, .int (zI 0), .ref q7, .ref q8, .ref q14, .null, .null])), (q1, .inr (0, [.ref q2, .ref q3])), (q2, aI G 26181 (upz (upz (upz (fun _ => 0) 26176 12) 26177 30) 26178 5)), (q3, aI G 1584 (fun _ => 0)), (q4, .inr (2, [.ref q5, .int (zI 0), .int (zI 0)])), (q5, aI G 104724 (fun _ => 0)), (q6, aI G 26181 (fun _ => 0)), (q7, .inr (3, [.ref q8, .ref q10, .ref q11, .ref q12, .ref q13, .int (zI 0), .int (zI 0)])), (q8, .inr (5, [.ref q9, .int (zI 0)])), (q9, aC G 80 (fun _ => 0)), (q10, aI G 16 (fun _ => 0)), (q11, aI G 16 (fun _ => 0)), (q12, aI G 16 (fun _ => 0)), (q13, aI G 16 (fun _ => 0)), (q14, .inr (4, [.ref q15, .ref q16, .ref q17, .int (zI 0)])), (q15, aI G 48 (fun _ => 0)), (q16, aI G 48 (fun _ => 0)), (q17, aZ G 48 (fun _ => 0)), (q18, .inr (4, [.ref q19, .ref q20, .ref q21, .int (zI 0)])), (q19, aI G 48 (fun _ => 0)), (q20, aI G 48 (fun _ => 0)), (q21, aZ G 48 (fun _ => 0))]) rfl rfl rfl rfl ?_
  refine V.putF (p0 := True) (q := 84) (ws' := [_, _, _, _, _, _, _, _, _, _, _, _, _, _, _, _, _, _, _, _, _, _]) (fs' := [_, _, _, _, _, _, _, _, _]) F M 0 7 dX6_init_81 rfl rfl rfl inX6_init_X6 tyX6 tyX6_ok nmX6 (by decide) (List.mem_of_getElem? (i := 25) rfl) rfl rfl rfl rfl rfl (Nat.le_of_ble_eq_true rfl) rfl rfl ?_
  refine V.aload_n (q := 85) F dX6_init_84 rfl rfl rfl ?_
  refine V.new (q := 88) (k' := 22) (n' := 159128) (fs := [.null, .int (zI 0), .int (zI 0), .int (zI 0)]) F 1 dX6_init_85 rfl rfl inX6_init_X1 tyX1 tyX1_ok (List.mem_of_getElem? (i := 26) rfl) (List.mem_of_getElem? (i := 27) rfl) (List.mem_of_getElem? (i := 28) rfl) dfX1 rfl rfl ⟨Nat.le_of_ble_eq_true rfl, Nat.le_of_ble_eq_true rfl⟩ (fun q22 => ?_)
  refine V.eq (pc' := 88) (ws' := [(h, .inr (6, [.ref q1, .ref q4, .ref q6, .int (zI 0), .ref q7, .ref q8, .ref q14, .ref q18, .null])), (q1, .inr (0, [.ref q2, .ref q3])), (q2, aI G 26181 (upz (upz (upz (fun _ => 0) 26176 12) 26177 30) 26178 5)), (q3, aI G 1584 (fun _ => 0)), (q4, .inr (2, [.ref q5, .int (zI 0), .int (zI 0)])), (q5, aI G 104724 (fun _ => 0)), (q6, aI G 26181 (fun _ => 0)), (q7, .inr (3, [.ref q8, .ref q10, .ref q11, .ref q12, .ref q13, .int (zI 0), .int (zI 0)])), (q8, .inr (5, [.ref q9, .int (zI 0)])), (q9, aC G 80 (fun _ => 0)), (q10, aI G 16 (fun _ => 0)), (q11, aI G 16 (fun _ => 0)), (q12, aI G 16 (fun _ => 0)), (q13, aI G 16 (fun _ => 0)), (q14, .inr (4, [.ref q15, .ref q16, .ref q17, .int (zI 0)])), (q15, aI G 48 (fun _ => 0)), (q16, aI G 48 (fun _ => 0)), (q17, aZ G 48 (fun _ => 0)), (q18, .inr (4, [.ref q19, .ref q20, .ref q21, .int (zI 0)])), (q19, aI G 48 (fun _ => 0)), (q20, aI G 48 (fun _ => 0)), (q21, aZ G 48 (fun _ => 0)), (q22, .inr (1, [.null, .int (zI 0), .int (zI 0), .int (zI 0)]))]) rfl rfl rfl rfl ?_
  refine V.dup (q := 89) F dX6_init_88 rfl rfl ?_
  refine V.callI (q := 92) (k' := 26) (n' := 159276) (wr := [(h, .inr (6, [.ref q1, .ref q4, .ref q6, .int (zI 0), .ref q7, .ref q8, .ref q14, .ref q18, .null])), (q1, .inr (0, [.ref q2, .ref q3])), (q2, aI G 26181 (upz (upz (upz (fun _ => 0) 26176 12) 26177 30) 26178 5)), (q3, aI G 1584 (fun _ => 0)), (q4, .inr (2, [.ref q5, .int (zI 0), .int (zI 0)])), (q5, aI G 104724 (fun _ => 0)), (q6, aI G 26181 (fun _ => 0)), (q7, .inr (3, [.ref q8, .ref q10, .ref q11, .ref q12, .ref q13, .int (zI 0), .int (zI 0)])), (q8, .inr (5, [.ref q9, .int (zI 0)])), (q9, aC G 80 (fun _ => 0)), (q10, aI G 16 (fun _ => 0)), (q11, aI G 16 (fun _ => 0)), (q12, aI G 16 (fun _ => 0)), (q13, aI G 16 (fun _ => 0)), (q14, .inr (4, [.ref q15, .ref q16, .ref q17, .int (zI 0)])), (q15, aI G 48 (fun _ => 0)), (q16, aI G 48 (fun _ => 0)), (q17, aZ G 48 (fun _ => 0)), (q18, .inr (4, [.ref q19, .ref q20, .ref q21, .int (zI 0)])), (q19, aI G 48 (fun _ => 0)), (q20, aI G 48 (fun _ => 0)), (q21, aZ G 48 (fun _ => 0))]) F [22] [0, 1, 2, 3, 4, 5, 6, 7, 8, 9, 10, 11, 12, 13, 14, 15, 16, 17, 18, 19, 20, 21] dX6_init_89 rfl (c_X1_init l G q22) gX6_init_X1_init rfl rfl (List.mem_of_getElem? (i := 28) rfl) (List.mem_of_getElem? (i := 74) rfl) (List.mem_of_getElem? (i := 75) rfl) ydX1_init ⟨Nat.le_of_ble_eq_true rfl, Nat.le_of_ble_eq_true rfl⟩ rfl rfl (Nat.le_of_ble_eq_true rfl) rfl rfl rfl rfl (by decide) rfl rfl ⟨Nat.le_of_ble_eq_true rfl, Nat.le_of_ble_eq_true rfl⟩ ?_
  rintro w9 ⟨q23, q24, q25, q26, rfl⟩
  refine V.eq (pc' := 92) (ws' := [(h, .inr (6, [.ref q1, .ref q4, .ref q6, .int (zI 0), .ref q7, .ref q8, .ref q14, .ref q18, .null])), (q1, .inr (0, [.ref q2, .ref q3])), (q2, aI G 26181 (upz (upz (upz (fun _ => 0) 26176 12) 26177 30) 26178 5)), (q3, aI G 1584 (fun _ => 0)), (q4, .inr (2, [.ref q5, .int (zI 0), .int (zI 0)])), (q5, aI G 104724 (fun _ => 0)), (q6, aI G 26181 (fun _ => 0)), (q7, .inr (3, [.ref q8, .ref q10, .ref q11, .ref q12, .ref q13, .int (zI 0), .int (zI 0)])), (q8, .inr (5, [.ref q9, .int (zI 0)])), (q9, aC G 80 (fun _ => 0)), (q10, aI G 16 (fun _ => 0)), (q11, aI G 16 (fun _ => 0)), (q12, aI G 16 (fun _ => 0)), (q13, aI G 16 (fun _ => 0)), (q14, .inr (4, [.ref q15, .ref q16, .ref q17, .int (zI 0)])), (q15, aI G 48 (fun _ => 0)), (q16, aI G 48 (fun _ => 0)), (q17, aZ G 48 (fun _ => 0)), (q18, .inr (4, [.ref q19, .ref q20, .ref q21, .int (zI 0)])), (q19, aI G 48 (fun _ => 0)), (q20, aI G 48 (fun _ => 0)), (q21, aZ G 48 (fun _ => 0)), (q22, .inr (1, [.ref q23, .int (zI 0), .int (zI 0), .int (zI 0)])), (q23, .inr (4, [.ref q24, .ref q25, .ref q26, .int (zI 0)])), (q24, aI G 48 (fun _ => 0)), (q25, aI G 48 (fun _ => 0)), (q26, aZ G 48 (fun _ => 0))]) rfl rfl rfl rfl ?_
  refine V.putF (p0 := True) (q := 95) (ws' := [_, _, _, _, _, _, _, _, _, _, _, _, _, _, _, _, _, _, _, _, _, _, _, _, _, _, _]) (fs' := [_, _, _, _, _, _, _, _, _]) F M 0 8 dX6_init_92 rfl rfl rfl inX6_init_X6 tyX6 tyX6_ok nmX6 (by decide) (List.mem_of_getElem? (i := 29) rfl) rfl rfl rfl rfl rfl (Nat.le_of_ble_eq_true rfl) rfl rfl ?_
  exact V.retA F T dX6_init_95 rfl rfl ⟨q1, q2, q3, q4, q5, q6, q7, q8, q9, q10, q11, q12, q13, q14, q15, q16, q17, q18, q19, q20, q21, q22, q23, q24, q25, q26, rfl⟩

set_option maxHeartbeats 4000000 in
set_option maxRecDepth 20000 in
theorem law_start {X : Cx} {l : Launch} {G : Gx} {b L : Nat} {xs : Nat → Int32} (F : Fx X (YL l G)) (S : SX X b L xs) (hL : L ≤ 3072) : V X (YL l G) 0 0 0 [some (.ref b), none, none, none, none] [] [] := by
  refine V.new (q := 3) (k' := 1) (n' := 9) (fs := [.null, .null, .null, .int (zI 0), .null, .null, .null, .null, .null]) F 6 dL_law_0 rfl rfl inlX6 tyX6 tyX6_ok (List.mem_of_getElem? (i := 0) rfl) (List.mem_of_getElem? (i := 1) rfl) (List.mem_of_getElem? (i := 2) rfl) dfX6 rfl rfl ⟨Nat.le_of_ble_eq_true rfl, Nat.le_of_ble_eq_true rfl⟩ (fun p0 => ?_)
  refine V.eq (pc' := 3) (ws' := [(p0, .inr (6, [.null, .null, .null, .int (zI 0), .null, .null, .null, .null, .null]))]) rfl rfl rfl rfl ?_
  refine V.dup (q := 4) F dL_law_3 rfl rfl ?_
  refine V.callI (q := 7) (k' := 27) (n' := 159285) (wr := []) F [0] [] dL_law_4 rfl (c_X6_init l G p0) gL_law_X6_init rfl rfl (List.mem_of_getElem? (i := 2) rfl) (List.mem_of_getElem? (i := 4) rfl) (List.mem_of_getElem? (i := 5) rfl) ydX6_init ⟨Nat.le_of_ble_eq_true rfl, Nat.le_of_ble_eq_true rfl⟩ rfl rfl (Nat.le_of_ble_eq_true rfl) rfl rfl rfl rfl (by decide) rfl rfl ⟨Nat.le_of_ble_eq_true rfl, Nat.le_of_ble_eq_true rfl⟩ ?_
  rintro w9 ⟨p1, p2, p3, p4, p5, p6, p7, p8, p9, p10, p11, p12, p13, p14, p15, p16, p17, p18, p19, p20, p21, p22, p23, p24, p25, p26, rfl⟩
  refine V.sub (ws' := [(p0, .inr (6, [.ref p1, .ref p4, .ref p6, .int (zI 0), .ref p7, .ref p8, .ref p14, .ref p18, .ref p22])), (p1, .inr (0, [.ref p2, .ref p3])), (p2, aI G 26181 (upz (upz (upz (fun _ => 0) 26176 12) 26177 30) 26178 5)), (p3, aI G 1584 (fun _ => 0)), (p4, .inr (2, [.ref p5, .int (zI 0), .int (zI 0)])), (p5, aI G 104724 (fun _ => 0)), (p6, aI G 26181 (fun _ => 0)), (p8, .inr (5, [.ref p9, .int (zI 0)])), (p9, aC G 80 (fun _ => 0)), (p7, .inr (3, [.ref p8, .ref p10, .ref p11, .ref p12, .ref p13, .int (zI 0), .int (zI 0)])), (p10, aI G 16 (fun _ => 0)), (p11, aI G 16 (fun _ => 0)), (p12, aI G 16 (fun _ => 0)), (p13, aI G 16 (fun _ => 0)), (p14, .inr (4, [.ref p15, .ref p16, .ref p17, .int (zI 0)])), (p15, aI G 48 (fun _ => 0)), (p16, aI G 48 (fun _ => 0)), (p17, aZ G 48 (fun _ => 0)), (p18, .inr (4, [.ref p19, .ref p20, .ref p21, .int (zI 0)])), (p19, aI G 48 (fun _ => 0)), (p20, aI G 48 (fun _ => 0)), (p21, aZ G 48 (fun _ => 0)), (p22, .inr (1, [.ref p23, .int (zI 0), .int (zI 0), .int (zI 0)])), (p23, .inr (4, [.ref p24, .ref p25, .ref p26, .int (zI 0)])), (p24, aI G 48 (fun _ => 0)), (p25, aI G 48 (fun _ => 0)), (p26, aZ G 48 (fun _ => 0))]) [0, 1, 2, 3, 4, 5, 6, 8, 9, 7, 10, 11, 12, 13, 14, 15, 16, 17, 18, 19, 20, 21, 22, 23, 24, 25, 26] (by decide) rfl ?_
  refine V.eq (pc' := 7) (ws' := [(p0, .inr (6, [.ref p1, .ref p4, .ref p6, .int (zI 0), .ref p7, .ref p8, .ref p14, .ref p18, .ref p22])), (p1, .inr (0, [.ref p2, .ref p3])), (p2, aI G 26181 (upz (upz (upz (fun _ => 0) 26176 12) 26177 30) 26178 5)), (p3, aI G 1584 (fun _ => 0)), (p4, .inr (2, [.ref p5, .int (zI 0), .int (zI 0)])), (p5, aI G 104724 (fun _ => 0)), (p6, aI G 26181 (fun _ => 0)), (p8, .inr (5, [.ref p9, .int (zI 0)])), (p9, aC G 80 (fun _ => 0)), (p7, .inr (3, [.ref p8, .ref p10, .ref p11, .ref p12, .ref p13, .int (zI 0), .int (zI 0)])), (p10, aI G 16 (fun _ => 0)), (p11, aI G 16 (fun _ => 0)), (p12, aI G 16 (fun _ => 0)), (p13, aI G 16 (fun _ => 0)), (p14, .inr (4, [.ref p15, .ref p16, .ref p17, .int (zI 0)])), (p15, aI G 48 (fun _ => 0)), (p16, aI G 48 (fun _ => 0)), (p17, aZ G 48 (fun _ => 0)), (p18, .inr (4, [.ref p19, .ref p20, .ref p21, .int (zI 0)])), (p19, aI G 48 (fun _ => 0)), (p20, aI G 48 (fun _ => 0)), (p21, aZ G 48 (fun _ => 0)), (p22, .inr (1, [.ref p23, .int (zI 0), .int (zI 0), .int (zI 0)])), (p23, .inr (4, [.ref p24, .ref p25, .ref p26, .int (zI 0)])), (p24, aI G 48 (fun _ => 0)), (p25, aI G 48 (fun _ => 0)), (p26, aZ G 48 (fun _ => 0))]) rfl rfl rfl rfl ?_
  refine V.astore_n (q := 8) (lo' := [_, _, _, _, _]) F dL_law_7 rfl rfl (Nat.le_of_ble_eq_true rfl) rfl rfl ?_
  refine V.bipush (q := 10) F dL_law_8 rfl (by decide) ?_
  refine V.newI (q := 12) (N := 48) (k' := 28) (n' := 159333) F dL_law_10 rfl (List.mem_of_getElem? (i := 3) rfl) rfl (by decide) rfl rfl ⟨Nat.le_of_ble_eq_true rfl, Nat.le_of_ble_eq_true rfl⟩ (fun wa => ?_)
  refine V.astore_n (q := 13) (lo' := [_, _, _, _, _]) F dL_law_12 rfl rfl (Nat.le_of_ble_eq_true rfl) rfl rfl ?_
  exact law_body (A := (fun j => [p0, p1, p2, p3, p4, p5, p6, p8, p9, p7, p10, p11, p12, p13, p14, p15, p16, p17, p18, p19, p20, p21, p22, p23, p24, p25, p26].getD j 0)) (wa := wa) (a := a0z) (R := fun _ => 0) (sn := fun _ => 0) (t := fun _ => 0) (wf := fun _ => 0) (o := 0) (s := 0) (bb := 0) (n := 0) (κ := ⟨(fun _ => 0, fun _ => 0, fun _ => 0, fun _ => 0, fun _ => 0), (fun _ => 0, fun _ => 0, fun _ => 0), (fun _ => 0, fun _ => 0, fun _ => 0), (fun _ => 0, fun _ => 0, fun _ => 0), (0, 0, 0, 0, 0, 0, 0, 0)⟩) F S hL PI.start rfl rfl rfl (by omega) (by omega) (fun _ => ⟨Int.le_refl 0, by show (0 : Int) < 65536; omega⟩) (fun _ => Int.le_refl 0) rfl rfl
set_option maxHeartbeats 4000000 in
set_option maxRecDepth 20000 in
theorem whole_start {p : Program} {e : Env} {s : State} {m : MethodId} {below : List Frame} {meth : Method} {c : Code} (l : Launch) (hflags : l.flags = flags0) {b L : Nat} {xs : Nat → Int32} (hL : L ≤ 260) (C0 : lw_At p s m meth c b L xs) : W p l e room_1 s m #[Value.ref b] below meth c s.heap [] 0 0 (lw_Z below #[Value.ref b] s) (entryFrame m ([Value.ref b] : List Value).toArray 5) := by
  obtain ⟨hx, hcb, hr, hml, hown, hts, hX, hbl, hlocks, hgv⟩ := C0
  have hT : ∀ w ∈ wsL_law, w.before #[Value.ref b] s = true := fun w hw => hts w (wsL_law_in w hw)
  obtain ⟨c0, i0, h0⟩ := u_known (C := RX0) (T := TX0) (N := 2) hT inlX0 (hT _ (List.mem_of_getElem? (i := 11) rfl))
  obtain ⟨c1, i1, h1⟩ := u_known (C := RX1) (T := TX1) (N := 4) hT inlX1 (hT _ (List.mem_of_getElem? (i := 32) rfl))
  obtain ⟨c2, i2, h2⟩ := u_known (C := RX2) (T := TX2) (N := 3) hT inlX2 (hT _ (List.mem_of_getElem? (i := 15) rfl))
  obtain ⟨c3, i3, h3⟩ := u_known (C := RX3) (T := TX3) (N := 7) hT inlX3 (hT _ (List.mem_of_getElem? (i := 21) rfl))
  obtain ⟨c4, i4, h4⟩ := u_known (C := RX4) (T := TX4) (N := 4) hT inlX4 (hT _ (List.mem_of_getElem? (i := 27) rfl))
  obtain ⟨c5, i5, h5⟩ := u_known (C := RX5) (T := TX5) (N := 2) hT inlX5 (hT _ (List.mem_of_getElem? (i := 54) rfl))
  obtain ⟨c6, i6, h6⟩ := u_known (C := RX6) (T := TX6) (N := 9) hT inlX6 (hT _ (List.mem_of_getElem? (i := 1) rfl))
  obtain ⟨cAI, kAI, cmI, eI, fI, gI⟩ := Cond.arrayClass_spec (hT _ (List.mem_of_getElem? (i := 3) rfl))
  obtain ⟨cAZ, kAZ, cmZ, eZ, fZ, gZ⟩ := Cond.arrayClass_spec (hT _ (List.mem_of_getElem? (i := 76) rfl))
  obtain ⟨cAC, kAC, cmC, eC, fC, gC⟩ := Cond.arrayClass_spec (hT _ (List.mem_of_getElem? (i := 67) rfl))
  have hK : va_K ((fun k => [c0, c1, c2, c3, c4, c5, c6].getD k 0), (fun k => [i0, i1, i2, i3, i4, i5, i6].getD k (fun _ => 0))) vwCl (tysOf (((fun k => [c0, c1, c2, c3, c4, c5, c6].getD k 0), (fun k => [i0, i1, i2, i3, i4, i5, i6].getD k (fun _ => 0))), cAI, cAI, cAZ, cAC)) s := by
    refine ⟨fun k q hq => ?_, fun k q hq => ?_⟩
    · have hk : k < 7 := (List.getElem?_eq_some_iff.mp hq).1
      rcases (show k = 0 ∨ k = 1 ∨ k = 2 ∨ k = 3 ∨ k = 4 ∨ k = 5 ∨ k = 6 by omega) with rfl | rfl | rfl | rfl | rfl | rfl | rfl <;> cases hq
      · exact h0
      · exact h1
      · exact h2
      · exact h3
      · exact h4
      · exact h5
      · exact h6
    · have hk : k < 4 := (List.getElem?_eq_some_iff.mp hq).1
      rcases (show k = 0 ∨ k = 1 ∨ k = 2 ∨ k = 3 by omega) with rfl | rfl | rfl | rfl <;> cases hq
      · exact ⟨fun n z => ⟨fun k h => (by cases h), kAI, fI, cmI, gI⟩, eI⟩
      · exact ⟨fun n z => ⟨fun k h => (by cases h), kAI, fI, cmI, gI⟩, eI⟩
      · exact ⟨fun n z => ⟨fun k h => (by cases h), kAZ, fZ, cmZ, gZ⟩, eZ⟩
      · exact ⟨fun n z => ⟨fun k h => (by cases h), kAC, fC, cmC, gC⟩, eC⟩
  have hN : NW s := ⟨va_Nw.of rfl (hts _ nw1), va_Nw.of rfl (hts _ nw2), va_Nw.of rfl (hts _ nw3), va_Nw.of rfl (hts _ nw4)⟩
  have hl := lv_entry [Value.ref b] (n := 5) (Nat.le_of_ble_eq_true rfl)
  rw [lg_entry_eq]
  generalize (lg_sl [Value.ref b] ++ List.replicate (5 - (lg_sl [Value.ref b]).length) Slot.unset).toArray = ls at hl ⊢
  exact law_start (G := (((fun k => [c0, c1, c2, c3, c4, c5, c6].getD k 0), (fun k => [i0, i1, i2, i3, i4, i5, i6].getD k (fun _ => 0))), cAI, cAI, cAZ, cAC)) (X := (p, e, s, m, #[Value.ref b], below, meth, c, lw_Z below #[Value.ref b] s, fun q => s.heap.size ≤ q)) ⟨hx, hcb, hml, hown, hT, hK, hN, fun q h => h⟩ ⟨hX, hbl, Nat.not_le.mpr hbl, rfl, hr, hlocks, rfl, fun q h => h⟩ (by omega) s.heap [] ls hl (fun k q hq => by simp at hq) ⟨fun i j p q h1 h2 h3 => by simp at h1, fun k q hq => by simp at hq⟩ va_S.rf

/-! ### cells that are made; constructors -/
def rmA (d mc ms : Nat) : Room := { frames := d, cells := mc, slots := ms, locals := 40 * d }
section VN
variable {X : Cx} {Y : Sx} {k n k' n' pc q : Nat} {lo lo' : List (Option Value)} {st : List Value} {ws ws' : va_W}
theorem V.sub (is : List Nat) (hn : va_nd is = true) (hs : is.map (fun i => ws[i]?) = ws'.map some) (kk : V X Y k n pc lo st ws') : V X Y k n pc lo st ws := by
  obtain ⟨p, e, s, m, args, below, meth, c, Q, A⟩ := X
  obtain ⟨cc, nL, own, Ts, R, l, G⟩ := Y
  intro H locs ls hls hP hD hS
  have e : is.filterMap (fun i => ws[i]?) = ws' := by
    have h := congrArg (List.filterMap id) hs
    rw [List.filterMap_map, List.filterMap_map] at h
    simpa using h
  exact kk H locs ls hls (hP.sub is e) (hD.sub is hn hs) hS
theorem newT {G : Gx} {s : State} {tys : List (ClassId × FieldType)} {cA cB : ClassId} {ty : FieldType} (h1 : va_RA s cA ty) (h2 : va_RA s cB ty) (hp : ∀ C, ty ≠ .object C) : cA = cB := by
  cases ty with
  | object C => exact absurd rfl (hp C)
  | _ => exact Option.some.inj (Eq.trans (Eq.symm h1) h2)
theorem V.newI (F : Fx X Y) {N : Nat} {z : Int} (d : decode Y.1 pc = .ok (.newarray .int, 2)) (hq : pc + 2 = q) (hw : Cond.arrayClass .int ∈ Y.2.2.2.1) (hz : z = (N : Int)) (hb : N * 4 ≤ 536870912) (hk : k + 1 = k') (hn : n + N = n') (hR : k' ≤ Y.2.2.2.2.1.cells ∧ n' ≤ Y.2.2.2.2.1.slots)
    (kk : ∀ a : Nat, V X Y k' n' q lo (.ref a :: st) (ws ++ [(a, aI Y.2.2.2.2.2.2 N (fun _ => 0))])) : V X Y k n pc lo (.int (zI z) :: st) ws := by
  subst hq; subst hk; subst hn; subst hz
  obtain ⟨p, e, s, m, args, below, meth, c, Q, A⟩ := X
  obtain ⟨cc, nL, own, Ts, R, l, G⟩ := Y
  obtain ⟨hx, hb', hml, hown, hts, hK, hN, hA⟩ := F
  intro H locs ls hls hP hD hS
  have hN31 : N < 2147483648 := by omega
  have e0 : ia (fun _ => (0 : Int)) = fun _ => 0 := by funext j; show zI 0 = 0; decide +kernel
  have hneg : ¬ zI (N : Int) < 0 := by
    rw [← zI_0, zI_lt ⟨by omega, by omega, by omega, by omega⟩]; omega
  refine va_newa (ty := .int) (a0 := (N, .inl (ia (fun _ => 0)))) hx hb' (hts _ hw) rfl hK hP hD hS hA (N' := N) (fun cA => by rw [e0]; rfl) hneg (by rw [zI_clamp (by omega) (by omega)]; omega) hb hR.1 hR.2 d (fun a cA H1 hK1 hP1 hD1 hS1 => ?_)
  have h1 := (hK1.2 4 (cA, .int) rfl).2
  have h2 := (hK.2 0 _ rfl).2
  have e1 := newT (G := G) (tys := []) h1 h2 (fun C h => by cases h)
  subst e1
  exact kk a H1 locs ls hls hP1 hD1 hS1
theorem V.newJ (F : Fx X Y) {N : Nat} {z : Int} (d : decode Y.1 pc = .ok (.newarray .long, 2)) (hq : pc + 2 = q) (hw : Cond.arrayClass .long ∈ Y.2.2.2.1) (hz : z = (N : Int)) (hb : N * 8 ≤ 536870912) (hk : k + 1 = k') (hn : n + N = n') (hR : k' ≤ Y.2.2.2.2.1.cells ∧ n' ≤ Y.2.2.2.2.1.slots)
    (kk : ∀ a : Nat, V X Y k' n' q lo (.ref a :: st) (ws ++ [(a, aJ Y.2.2.2.2.2.2 N (fun _ => 0))])) : V X Y k n pc lo (.int (zI z) :: st) ws := by
  subst hq; subst hk; subst hn; subst hz
  obtain ⟨p, e, s, m, args, below, meth, c, Q, A⟩ := X
  obtain ⟨cc, nL, own, Ts, R, l, G⟩ := Y
  obtain ⟨hx, hb', hml, hown, hts, hK, hN, hA⟩ := F
  intro H locs ls hls hP hD hS
  have hN31 : N < 2147483648 := by omega
  have e0 : la (fun _ => (0 : Int)) = fun _ => 0 := by funext j; show zL 0 = 0; decide +kernel
  have hneg : ¬ zI (N : Int) < 0 := by
    rw [← zI_0, zI_lt ⟨by omega, by omega, by omega, by omega⟩]; omega
  refine va_newa (ty := .long) (a0 := (N, .inr (.inl (la (fun _ => 0))))) hx hb' (hts _ hw) rfl hK hP hD hS hA (N' := N) (fun cA => by rw [e0]; rfl) hneg (by rw [zI_clamp (by omega) (by omega)]; omega) hb hR.1 hR.2 d (fun a cA H1 hK1 hP1 hD1 hS1 => ?_)
  have h1 := (hK1.2 4 (cA, .long) rfl).2
  have h2 := (hK.2 1 _ rfl).2
  have e1 := newT (G := G) (tys := []) h1 h2 (fun C h => by cases h)
  subst e1
  exact kk a H1 locs ls hls hP1 hD1 hS1
theorem V.newZ (F : Fx X Y) {N : Nat} {z : Int} (d : decode Y.1 pc = .ok (.newarray .boolean, 2)) (hq : pc + 2 = q) (hw : Cond.arrayClass .boolean ∈ Y.2.2.2.1) (hz : z = (N : Int)) (hb : N * 1 ≤ 536870912) (hk : k + 1 = k') (hn : n + N = n') (hR : k' ≤ Y.2.2.2.2.1.cells ∧ n' ≤ Y.2.2.2.2.1.slots)
    (kk : ∀ a : Nat, V X Y k' n' q lo (.ref a :: st) (ws ++ [(a, aZ Y.2.2.2.2.2.2 N (fun _ => 0))])) : V X Y k n pc lo (.int (zI z) :: st) ws := by
  subst hq; subst hk; subst hn; subst hz
  obtain ⟨p, e, s, m, args, below, meth, c, Q, A⟩ := X
  obtain ⟨cc, nL, own, Ts, R, l, G⟩ := Y
  obtain ⟨hx, hb', hml, hown, hts, hK, hN, hA⟩ := F
  intro H locs ls hls hP hD hS
  have hN31 : N < 2147483648 := by omega
  have e0 : ia (fun _ => (0 : Int)) = fun _ => 0 := by funext j; show zI 0 = 0; decide +kernel
  have hneg : ¬ zI (N : Int) < 0 := by
    rw [← zI_0, zI_lt ⟨by omega, by omega, by omega, by omega⟩]; omega
  refine va_newa (ty := .boolean) (a0 := (N, .inl (ia (fun _ => 0)))) hx hb' (hts _ hw) rfl hK hP hD hS hA (N' := N) (fun cA => by rw [e0]; rfl) hneg (by rw [zI_clamp (by omega) (by omega)]; omega) hb hR.1 hR.2 d (fun a cA H1 hK1 hP1 hD1 hS1 => ?_)
  have h1 := (hK1.2 4 (cA, .boolean) rfl).2
  have h2 := (hK.2 2 _ rfl).2
  have e1 := newT (G := G) (tys := []) h1 h2 (fun C h => by cases h)
  subst e1
  exact kk a H1 locs ls hls hP1 hD1 hS1
theorem V.newC (F : Fx X Y) {N : Nat} {z : Int} (d : decode Y.1 pc = .ok (.newarray .char, 2)) (hq : pc + 2 = q) (hw : Cond.arrayClass .char ∈ Y.2.2.2.1) (hz : z = (N : Int)) (hb : N * 2 ≤ 536870912) (hk : k + 1 = k') (hn : n + N = n') (hR : k' ≤ Y.2.2.2.2.1.cells ∧ n' ≤ Y.2.2.2.2.1.slots)
    (kk : ∀ a : Nat, V X Y k' n' q lo (.ref a :: st) (ws ++ [(a, aC Y.2.2.2.2.2.2 N (fun _ => 0))])) : V X Y k n pc lo (.int (zI z) :: st) ws := by
  subst hq; subst hk; subst hn; subst hz
  obtain ⟨p, e, s, m, args, below, meth, c, Q, A⟩ := X
  obtain ⟨cc, nL, own, Ts, R, l, G⟩ := Y
  obtain ⟨hx, hb', hml, hown, hts, hK, hN, hA⟩ := F
  intro H locs ls hls hP hD hS
  have hN31 : N < 2147483648 := by omega
  have e0 : ia (fun _ => (0 : Int)) = fun _ => 0 := by funext j; show zI 0 = 0; decide +kernel
  have hneg : ¬ zI (N : Int) < 0 := by
    rw [← zI_0, zI_lt ⟨by omega, by omega, by omega, by omega⟩]; omega
  refine va_newa (ty := .char) (a0 := (N, .inl (ia (fun _ => 0)))) hx hb' (hts _ hw) rfl hK hP hD hS hA (N' := N) (fun cA => by rw [e0]; rfl) hneg (by rw [zI_clamp (by omega) (by omega)]; omega) hb hR.1 hR.2 d (fun a cA H1 hK1 hP1 hD1 hS1 => ?_)
  have h1 := (hK1.2 4 (cA, .char) rfl).2
  have h2 := (hK.2 3 _ rfl).2
  have e1 := newT (G := G) (tys := []) h1 h2 (fun C h => by cases h)
  subst e1
  exact kk a H1 locs ls hls hP1 hD1 hS1
theorem V.new (F : Fx X Y) (ci : Nat) {C : String} {T : u_T} {N idx : Nat} (d : decode Y.1 pc = .ok (.new idx, 3)) (hq : pc + 3 = q) (hc : vwCl[ci]? = some (C, T, N)) (hin : ∀ w ∈ u_ws C T N, w ∈ Y.2.2.2.1) (ty0 : Nat → FieldType) (hty : ∀ k, k < N → parseFieldDescriptor (T k).2.2.1 = some (ty0 k))
    (w1 : Cond.classLink Y.2.2.1 idx C ∈ Y.2.2.2.1) (w2 : Cond.instantiable C N ∈ Y.2.2.2.1) (w3 : Cond.initialized C ∈ Y.2.2.2.1) {fs : List Value} (hfs : ∀ j, j < N → defaultValue (ty0 j) = vp_V fs j) (hk : k + 1 = k') (hn : n + N = n') (hR : k' ≤ Y.2.2.2.2.1.cells ∧ n' ≤ Y.2.2.2.2.1.slots)
    (kk : ∀ a : Nat, V X Y k' n' q lo (.ref a :: st) (ws ++ [(a, .inr (ci, fs))])) : V X Y k n pc lo st ws := by
  subst hq; subst hk; subst hn
  obtain ⟨p, e, s, m, args, below, meth, c, Q, A⟩ := X
  obtain ⟨cc, nL, own, Ts, R, l, G⟩ := Y
  obtain ⟨hx, hb, hml, hown, hts, hK, hN, hA⟩ := F
  intro H locs ls hls hP hD hS
  exact va_new (ci := ci) (fs := fs) hx hb hts hin ty0 hty hown (hts _ w1) (hts _ w2) (hts _ w3) hK hP hD hS hA hc hfs hR.1 hR.2 d (fun a H1 hP1 hD1 hS1 => kk a H1 locs ls hls hP1 hD1 hS1)
theorem V.oinit (F : Fx X Y) {a idx : Nat} (d : decode Y.1 pc = .ok (.invokespecial idx, 3)) (hq : pc + 3 = q) (w1 : Cond.methodLink Y.2.2.1 idx objectInit ∈ Y.2.2.2.1) (w2 : Cond.instanceMethod objectInit ∈ Y.2.2.2.1) (w3 : Cond.code objectInit ⟨#[0xb1]⟩ 1 none ∈ Y.2.2.2.1) (hfr : 1 ≤ Y.2.2.2.2.1.frames) (hst : (st.map fun v => v.category).sum ≤ 8) (hlo : 20 ≤ Y.2.2.2.2.1.locals)
    (kk : V X Y k n q lo st ws) : V X Y k n pc lo (.ref a :: st) ws := by
  subst hq
  obtain ⟨p, e, s, m, args, below, meth, c, Q, A⟩ := X
  obtain ⟨cc, nL, own, Ts, R, l, G⟩ := Y
  obtain ⟨hx, hb, hml, hown, hts, hK, hN, hA⟩ := F
  intro H locs ls hls hP hD hS
  refine W.objInit hx hb hown (hts _ w1) (hts _ w2) (hts _ w3) rfl (by rw [hml]; exact hls.1) rfl d hfr (by have h9 := lv_room (m := m) (pc := pc) (ls := ls) (rest := .ref a :: st) hst; show 2 * (F0 m pc ls (.ref a :: st)).monitorRoom + (st.map fun v => v.category).sum + 12 ≤ R.locals; have : 20 ≤ R.locals := hlo; omega) ?_
  exact kk H locs ls hls hP hD hS
theorem V.putF (F : Fx X Y) {p0 : Prop} (hmn : X.2.2.2.2.2.2.1.name = "<init>") (q0 j : Nat) {a ci N idx : Nat} {fs fs' : List Value} {C : String} {T : u_T} {v : Value} {ty : FieldType} (d : decode Y.1 pc = .ok (.putfield idx, 3)) (hq : pc + 3 = q) (he : ws[q0]? = some (a, .inr (ci, fs))) (hc : vwCl[ci]? = some (C, T, N)) (hin : ∀ w ∈ u_ws C T N, w ∈ Y.2.2.2.1) (ty0 : Nat → FieldType) (hty : ∀ k, k < N → parseFieldDescriptor (T k).2.2.1 = some (ty0 k)) (hnm : ∀ a, a < N → ∀ b, b < N → a ≠ b → (T a).2.1 ≠ (T b).2.1) (hj : j < N) (hw : Cond.fieldLink Y.2.2.1 idx (T j).1 (T j).2.1 (T j).2.2.1 ∈ Y.2.2.2.1) (hfin : (T j).2.2.2 = true) (hdecl : (T j).1 = Y.2.2.1) (hd : ty0 j = ty) (hn : narrow ty v = v) (hfit : fits ty v = true) (hl : j < fs.length) (hfs : fs.set j v = fs') (hws : ws.set q0 (a, .inr (ci, fs')) = ws') (kk : V X Y k n q lo st ws') : V X Y k n pc lo (v :: .ref a :: st) ws := by
  subst hq
  obtain ⟨p, e, s, m, args, below, meth, c, Q, A⟩ := X
  obtain ⟨cc, nL, own, Ts, R, l, G⟩ := Y
  obtain ⟨hx, hb, hml, hown, hts, hK, hN, hA⟩ := F
  intro H locs ls hls hP hD hS
  subst hfs; subst hws; subst hd; exact va_putF hx hb hts hin ty0 hty hnm hown hK hP hD hS q0 he hc j hj (hts _ hw) (fun _ h9 => h9) hfin hmn hdecl (hty j hj) hn hfit hl d (fun H locs hP hD hS => kk H locs ls hls hP hD hS)
/-- a contract of a constructor: mc cells of ms slots are made -/
def CtA (l : Launch) (G : Gx) (y : MethodName) (words : List Cond) (rm : Room) (As : List Value) (wc : va_W) (mc ms : Nat) (P : va_W → Prop) : Prop :=
  rm.cells = mc ∧ rm.slots = ms ∧ ∀ sz : Nat, Met l y words rm (va_Pc As (fun U => U.heap.size = sz ∧ va_P G.1 vwCl wc U.heap ∧ (va_K G.1 vwCl (tysOf G) U ∧ NW U) ∧ va_D (fun _ => True) wc))
    (fun _ st oc t => (∃ (r : Option Value) (w' : va_W), oc = .returned r ∧ (r = none ∧ P w' ∧ va_P G.1 vwCl w' t.heap ∧ va_D (va_A wc sz) w')) ∧ va_F (va_A wc sz) st t) mc ms (va_A wc sz)
def RtA (X : Cx) (Y : Sx) (wc : va_W) (mc ms : Nat) (P : va_W → Prop) : Prop := match X, Y with
  | (_, _, s, _, args, below, meth, _, Q, A), (_, _, _, _, _, _, G) =>
    meth.sig.returnType = none ∧ meth.locks = false ∧ A = va_A wc s.heap.size ∧
    Q = MQ below (fun _ st oc t => (∃ (r : Option Value) (w' : va_W), oc = .returned r ∧ (r = none ∧ P w' ∧ va_P G.1 vwCl w' t.heap ∧ va_D A w')) ∧ va_F A st t) args s mc ms A
theorem CtA.intro {l : Launch} {G : Gx} {y : MethodName} {words ws' : List Cond} {rm : Room} {As : List Value} {wc : va_W} {mc ms : Nat} {P : va_W → Prop} {cc : ByteArray} {maxL : Nat} {lo0 : List (Option Value)}
    (hyn : y.name = "<init>") (hy : plainName y.cls = true) (hw : words = Cond.code y cc maxL none :: ws') (h0 : rm.cells = mc ∧ rm.slots = ms) (hn : (lg_sl As).length ≤ maxL) (hlo : lv_args 0 As = lvl 0 lo0)
    (body : ∀ X : Cx, Fx X (cc, maxL, y.cls, words, rm, l, G) → X.2.2.2.2.2.2.1.name = "<init>" → RtA X (cc, maxL, y.cls, words, rm, l, G) wc mc ms P → V X (cc, maxL, y.cls, words, rm, l, G) 0 0 0 lo0 [] wc) : CtA l G y words rm As wc mc ms P := by
  refine ⟨h0.1, h0.2, fun sz => ?_⟩
  refine Met.ofW (cc := cc) (maxL := maxL) (ret := none) hy hw ?_
  intro p e s m args below meth c s₁ B hml hv
  obtain ⟨rfl, hsz, hP, ⟨hK, hN⟩, hD0⟩ := hv
  have hx := B.exec
  have hb := B.bytes
  have hr := B.returns
  have hts := atoms_spec (ws := words) B.pre
  have hown : s.vm.findClass y.cls = some m.cls := findClass_of_methodNamed B.named
  have hlocks := B.notSynchronized
  have hin : meth.name = "<init>" := (name_of_methodNamed B.named B.method).1.trans hyn
  subst hsz
  have hD := hD0.self (sz := s.heap.size)
  generalize hAe : va_A wc s.heap.size = A at hD ⊢
  have hA : ∀ q : Nat, s.heap.size ≤ q → A q := fun q h => by rw [← hAe]; exact Or.inr h
  have hS : va_S A s.heap s.heap [] := va_S.rf
  have hl := lv_entry As (n := maxL) hn
  rw [lg_entry_eq]
  generalize (lg_sl As ++ List.replicate (maxL - (lg_sl As).length) Slot.unset).toArray = ls at hl ⊢
  rw [hlo] at hl
  exact body (p, e, s, m, As.toArray, below, meth, c, _, A) ⟨hx, hb, hml, hown, hts, hK, hN, hA⟩ hin ⟨hr, hlocks, hAe.symm, rfl⟩ s.heap [] ls hl hP hD hS
theorem V.retA {wc : va_W} {mc ms : Nat} {P : va_W → Prop} (F : Fx X Y) (T : RtA X Y wc mc ms P) (d : decode Y.1 pc = .ok (.return_, 1)) (hk : k = mc) (hn : n = ms) (hP' : P ws) : V X Y k n pc lo [] ws := by
  subst hk; subst hn
  obtain ⟨p, e, s, m, args, below, meth, c, Q, A⟩ := X
  obtain ⟨cc, nL, own, Ts, R, l, G⟩ := Y
  obtain ⟨hx, hb, hml, hown, hts, hK, hN, hA⟩ := F
  obtain ⟨hr, hlocks, hAe, hQ⟩ := T
  subst hQ
  intro H locs ls hls hP hD hS
  exact W.vret hx hb hr (fun t ht hW => ⟨⟨_, ws, rfl, rfl, hP', by rw [ht]; exact hP, hD⟩, hS.F ht⟩) hS.2.2 d hlocks
theorem V.callI {y : MethodName} {bytes : ByteArray} {maxL nP idx b mc ms : Nat} {wsy wsy' : List Cond} {rm : Room} {As st0 : List Value} {wc wr : va_W} {P : va_W → Prop} (F : Fx X Y) (isC isR : List Nat) (d : decode Y.1 pc = .ok (.invokespecial idx, 3)) (hq : pc + 3 = q)
    (hC : CtA Y.2.2.2.2.2.1 Y.2.2.2.2.2.2 y wsy rm (.ref b :: As) wc mc ms P) (hG : GoodIn Y.2.2.2.1 wsy) (hwy : wsy = Cond.code y bytes maxL none :: wsy') (hyn : y.name = "<init>") (wi : Cond.initialized y.cls ∈ Y.2.2.2.1) (wl : Cond.methodLink Y.2.2.1 idx y ∈ Y.2.2.2.1) (win : Cond.instanceMethod y ∈ Y.2.2.2.1) (hd : ydOk y nP) (hR : rm.frames + 1 ≤ Y.2.2.2.2.1.frames ∧ 8 + (maxL + 11) + rm.locals ≤ Y.2.2.2.2.1.locals)
    (hn : As.length = nP) (hst : st0 = As.reverse ++ .ref b :: st) (hcat : (st.map fun v => v.category).sum ≤ 8) (hcells : isC.map (fun i => ws[i]?) = wc.map some) (hnd : va_nd isC = true) (hrest : isR.map (fun i => ws[i]?) = wr.map some) (hndR : va_nd isR = true) (hdis : ∀ i ∈ isR, i ∉ isC) (hk : k + mc = k') (hns : n + ms = n') (hkn : k' ≤ Y.2.2.2.2.1.cells ∧ n' ≤ Y.2.2.2.2.1.slots)
    (kk : ∀ w', P w' → V X Y k' n' q lo st (wr ++ w')) : V X Y k n pc lo st0 ws := by
  subst hq; subst hk; subst hns
  subst hst
  obtain ⟨p, e, s, m, args, below, meth, c, Q, A⟩ := X
  obtain ⟨cc, nL, own, Ts, R, l, G⟩ := Y
  obtain ⟨hx, hb, hml, hown, hts, hK, hN, hA⟩ := F
  intro H locs ls hls hP hD hS
  have hFc := va_free (wc := wc) hD hS hA isC hcells
  refine W.callG (B := fun r w' t => r = none ∧ P w' ∧ va_P G.1 vwCl w' t.heap ∧ va_D (va_A wc H.size) w') (va_runI (As := As) (rest := st) ⟨hx, hb, hml, hown, hts⟩ (hC.2.2 H.size) (cwI nP hts hG hwy hC.1 hC.2.1 (hts _ wi) (hts _ wl) (hts _ win) hyn hd hR) ⟨blindG, preG hK hN hP hD isC hnd hcells⟩ rfl hn hls.1 rfl (lv_room hcat) d hkn) rfl hS hFc ?_
  rintro r w' t H1 locs1 ht ⟨rfl, hPr, hP1, hD1⟩ hz hk hS1
  rw [ht] at hP1
  obtain ⟨hP2, hD2⟩ := va_join hP hD isC isR hcells hrest hndR hdis hk hFc hP1 hD1
  exact kk w' hPr H1 locs1 ls hls hP2 hD2 hS1
end VN

/-! THE CLAIM OUT OF ONE WALK OF THE LAW'S BODY. Your part is whole_start (and what it stands on); all else here is the same for every law, but numbers. -/
def R_law : String := "WindRosesLaw"
def lw_P (b : Addr) (xs : List Int32) (args : Array Value) (s : State) : Prop := args = #[.ref b] ∧ s.IntsAt b xs ∧ xs.length ≤ 260 ∧ (Jvm.Cond.and given_1 narrow_1).before args s = true
def lw_Q (_ : Array Value) (s : State) (o : Outcome) (t : State) : Prop := o = .returned (some (.int 1)) ∧ Framed s o t [] 600000 7302250
def lw_Z (below : List Frame) (a : Array Value) (s : State) : State → Prop := fun t => ∃ o, t.status = .running ∧ Ended t below o ∧ lw_Q a s o t
/-- the law's own end, with 1 on the stack, nothing written that was there before, its room as the claim has it -/
theorem lw_ret {p : Program} {l : Launch} {e : Env} {s : State} {m : MethodId} {below : List Frame} {meth : Method} {c : Code} {b : Nat} (hx : p.tables.exec = Jvm.exec) (hb : c.code = code) (hr : meth.sig.returnType = ret) (hlocks : meth.locks = false) {pc : Nat} {H : Heap} {ls : Array Slot} (hdg : decode code pc = .ok (.ireturn, 1)) : W p l e room_1 s m #[Value.ref b] below meth c H [] 600000 7302250 (lw_Z below #[Value.ref b] s) (F0 m pc ls [.int 1]) := by
  intro T hT X
  obtain ⟨fs, hret, hrun, hended, hW, hframe⟩ := X.leave (v := some (.int 1)) (hlocks := hlocks) (fun h => by rw [hr] at h; cases h)
  have hmeth' : T.vm.method? m = some meth := X.method'
  refine ⟨T.setFrames fs, ?_, .returned (some (.int 1)), hrun, hended, rfl, ⟨_, rfl⟩, hW, hframe⟩
  jvm_step X.here [X.here.top, hx, hb, hdg, hmeth', hr, ret, narrow_b1]
  (try refine ⟨rfl, ?_⟩); (try refine ⟨rfl, ?_⟩)
  first | (intro acts; rw [hret _ acts rfl rfl rfl]) | rw [hret _ _ rfl rfl rfl]
  exact Steps.refl _
/-- what holds at the law's entry: the machine, the code, the tables' words (any of lw_tbl by 'hts w (by decide +kernel)'), the script of L ints xs at the cell b, what the Statement gives of the start (any of its parts by flat_of_before) -/
def lw_At (p : Program) (s : State) (m : MethodId) (meth : Method) (c : Code) (b L : Nat) (xs : Nat → Int32) : Prop :=
  p.tables.exec = Jvm.exec ∧ c.code = code ∧ meth.sig.returnType = ret ∧ c.maxLocals = 5 ∧ s.vm.findClass R_law = some m.cls ∧ (∀ w ∈ lw_tbl, w.before #[Value.ref b] s = true) ∧ va_X b L xs s s.heap ∧ b < s.heap.size ∧ meth.locks = false ∧ (Jvm.Cond.and given_1 narrow_1).before #[Value.ref b] s = true
/-! ### the law's own rules: its script -/
def scz (xs : Nat → Int32) (i : Int) : Int := (xs i.toNat).toInt
theorem scz_rng (xs : Nat → Int32) (i : Int) : -2147483648 ≤ scz xs i ∧ scz xs i < 2147483648 := zI_rng _
def SX (X : Cx) (b L : Nat) (xs : Nat → Int32) : Prop := match X with
  | (p, _, s, m, args, below, meth, c, Q, A) => va_X b L xs s s.heap ∧ b < s.heap.size ∧ ¬ A b ∧ args = #[Value.ref b] ∧ meth.sig.returnType = ret ∧ meth.locks = false ∧ Q = lw_Z below #[Value.ref b] s ∧ (∀ q, A q → s.heap.size ≤ q)
def SC (X : Cx) (b L : Nat) (xs : Nat → Int32) : Prop := match X with
  | (_, _, s, _, _, _, _, _, _, A) => va_X b L xs s s.heap ∧ b < s.heap.size ∧ ¬ A b
theorem SX.sc {X : Cx} {b L : Nat} {xs : Nat → Int32} (h : SX X b L xs) : SC X b L xs := by
  obtain ⟨p, e, s, m, args, below, meth, c, Q, A⟩ := X
  exact ⟨h.1, h.2.1, h.2.2.1⟩
section VLW
variable {X : Cx} {Y : Sx} {k n pc q : Nat} {lo lo' : List (Option Value)} {st : List Value} {ws ws' : va_W}
theorem V.sld {b L : Nat} {xs : Nat → Int32} (F : Fx X Y) (S : SC X b L xs) {i : Int} (d : decode Y.1 pc = .ok (.iaload, 1)) (hq : pc + 1 = q) (hL : L ≤ 3072) (rg : 0 ≤ i ∧ i < (L : Int)) (kk : V X Y k n q lo (.int (zI (scz xs i)) :: st) ws) : V X Y k n pc lo (.int (zI i) :: .ref b :: st) ws := by
  subst hq
  obtain ⟨p, e, s, m, args, below, meth, c, Q, A⟩ := X
  obtain ⟨cc, nL, own, Ts, R, l, G⟩ := Y
  obtain ⟨hx, hb, hml, hown, hts, hK, hN, hA⟩ := F
  obtain ⟨s1, s2, s3⟩ := S
  intro H locs ls hls hP hD hS
  refine va_sld hx hb s1 s2 s3 hS (zI_in (by omega) rg) d ?_
  rw [zI_clamp rg.1 (by omega), zI_of (xs i.toNat)]
  exact kk H locs ls hls hP hD hS
theorem V.slen {b L : Nat} {xs : Nat → Int32} (F : Fx X Y) (S : SC X b L xs) (d : decode Y.1 pc = .ok (.arraylength, 1)) (hq : pc + 1 = q) (kk : V X Y k n q lo (.int (zI (L : Int)) :: st) ws) : V X Y k n pc lo (.ref b :: st) ws := by
  subst hq
  obtain ⟨p, e, s, m, args, below, meth, c, Q, A⟩ := X
  obtain ⟨cc, nL, own, Ts, R, l, G⟩ := Y
  obtain ⟨hx, hb, hml, hown, hts, hK, hN, hA⟩ := F
  obtain ⟨s1, s2, s3⟩ := S
  intro H locs ls hls hP hD hS
  refine va_slen hx hb s1 s2 s3 hS d ?_
  rw [show Int32.ofNat L = zI (L : Int) from (Int32.ofInt_eq_ofNat (n := L)).symm]
  exact kk H locs ls hls hP hD hS
theorem V.lend {b L : Nat} {xs : Nat → Int32} {l : Launch} {G : Gx} (F : Fx X (cL_law, 5, RL, wsL_law, room_1, l, G)) (S : SX X b L xs) (d : decode cL_law pc = .ok (.ireturn, 1)) (hk : k ≤ 600000) (hn : n ≤ 7302250) : V X (cL_law, 5, RL, wsL_law, room_1, l, G) k n pc lo [.int (zI 1)] ws := by
  obtain ⟨p, e, s, m, args, below, meth, c, Q, A⟩ := X
  obtain ⟨hx, hb, hml, hown, hts, hK, hN, hA⟩ := F
  obtain ⟨s1, s2, s3, s4, s5, s6, s7, s8⟩ := S
  subst s4; subst s7
  intro H locs ls hls hP hD hS
  refine va_forget (fun q hq => s8 _ (hS.2.2 q hq)) ?_
  refine W.widen hk hn ?_
  exact lw_ret hx hb s5 s6 d
end VLW
/-! ### a call that takes the script with it -/
def PcC (G : Gx) (b L : Nat) (xs : Nat → Int32) (As : List Value) (sz : Nat) : Array Value → State → Prop := va_Pc As (fun U => U.heap.size = sz ∧ (b < sz ∧ va_X b L xs U U.heap) ∧ (va_K G.1 vwCl (tysOf G) U ∧ NW U))
def CtC (l : Launch) (G : Gx) (b L : Nat) (xs : Nat → Int32) (y : MethodName) (words : List Cond) (rm : Room) (As : List Value) (P : Option Value → va_W → Prop) : Prop :=
  rm.cells = 0 ∧ rm.slots = 0 ∧ ∀ sz : Nat, Met l y words rm (PcC G b L xs As sz)
    (fun _ st oc t => (∃ (r : Option Value) (w' : va_W), oc = .returned r ∧ P r w' ∧ w'.map Prod.fst = ([] : va_W).map Prod.fst ∧ va_P G.1 vwCl w' t.heap) ∧ va_F (va_A [] sz) st t) 0 0 (va_A [] sz)
theorem CtC.intro {l : Launch} {G : Gx} {b L : Nat} {xs : Nat → Int32} {y : MethodName} {words ws' : List Cond} {rm : Room} {As : List Value} {P : Option Value → va_W → Prop} {cc : ByteArray} {maxL : Nat} {ret : Option FieldType} {lo0 : List (Option Value)}
    (hy : plainName y.cls = true) (hw : words = Cond.code y cc maxL ret :: ws') (h0 : rm.cells = 0 ∧ rm.slots = 0) (hn : (lg_sl As).length ≤ maxL) (hlo : lv_args 0 As = lvl 0 lo0)
    (body : ∀ X : Cx, Fx X (cc, maxL, y.cls, words, rm, l, G) → SC X b L xs → Rt X (cc, maxL, y.cls, words, rm, l, G) ret [] P → V X (cc, maxL, y.cls, words, rm, l, G) 0 0 0 lo0 [] []) : CtC l G b L xs y words rm As P := by
  refine ⟨h0.1, h0.2, fun sz => ?_⟩
  refine Met.ofW (cc := cc) (maxL := maxL) (ret := ret) hy hw ?_
  intro p e s m args below meth c s₁ B hml hv
  obtain ⟨rfl, hsz, ⟨hbl, hX⟩, ⟨hK, hN⟩⟩ := hv
  have hx := B.exec
  have hb := B.bytes
  have hr := B.returns
  have hts := atoms_spec (ws := words) B.pre
  have hown : s.vm.findClass y.cls = some m.cls := findClass_of_methodNamed B.named
  have hlocks := B.notSynchronized
  subst hsz
  have hbA : ¬ va_A [] s.heap.size b := by
    rintro (⟨k, e, h⟩ | h)
    · simp at h
    · omega
  have hD : va_D (va_A [] s.heap.size) [] := ⟨fun i j p q h1 h2 h3 => by simp at h1, fun k q hq => by simp at hq⟩
  have hP : va_P G.1 vwCl [] s.heap := fun k q hq => by simp at hq
  generalize hAe : va_A [] s.heap.size = A at hD hbA ⊢
  have hA : ∀ q : Nat, s.heap.size ≤ q → A q := fun q h => by rw [← hAe]; exact Or.inr h
  have hS : va_S A s.heap s.heap [] := va_S.rf
  have hl := lv_entry As (n := maxL) hn
  rw [lg_entry_eq]
  generalize (lg_sl As ++ List.replicate (maxL - (lg_sl As).length) Slot.unset).toArray = ls at hl ⊢
  rw [hlo] at hl
  exact body (p, e, s, m, As.toArray, below, meth, c, _, A) ⟨hx, hb, hml, hown, hts, hK, hN, hA⟩ ⟨hX, hbl, hbA⟩ ⟨hr, hlocks, rfl⟩ s.heap [] ls hl hP hD hS
theorem blindC {G : Gx} {b L : Nat} {xs : Nat → Int32} {As : List Value} {sz : Nat} : FrameBlind (PcC G b L xs As sz) := fun a U g mk q => by
  obtain ⟨q0, q1, ⟨qb, qX⟩, ⟨qK, qN⟩⟩ := q
  exact ⟨q0, q1, ⟨qb, va_X.moved (u := U) (U := U.calling g mk a) (Vm.Alike.refl U.vm) qX⟩, ⟨va_K.moved (u := U) (U := U.calling g mk a) (Vm.Alike.refl U.vm) qK, NW.same (u := U) (U := U.calling g mk a) rfl qN⟩⟩
theorem preC {s : State} {H : Heap} {G : Gx} {b L : Nat} {xs : Nat → Int32} {As : List Value} (hK : va_K G.1 vwCl (tysOf G) s) (hN : NW s) (hb : b < H.size) (hX : va_X b L xs s H) :
    ∀ U : State, U.heap = H → s.WarmedH U.vm → PcC G b L xs As H.size As.toArray U := fun U hU hW =>
  ⟨rfl, by rw [hU], ⟨hb, by rw [hU]; exact va_X.moved hW.alike hX⟩, ⟨va_K.moved hW.alike hK, hN.warm hW⟩⟩
theorem V.callC {X : Cx} {Y : Sx} {k n pc q b L : Nat} {xs : Nat → Int32} {lo : List (Option Value)} {st : List Value} {ws : va_W} {y : MethodName} {bytes : ByteArray} {maxL n' idx : Nat} {ret : Option FieldType} {wsy wsy' : List Cond} {rm : Room} {As st0 : List Value} {v : Option Value} (F : Fx X Y) (S : SC X b L xs) (d : decode Y.1 pc = .ok (.invokestatic idx, 3)) (hq : pc + 3 = q)
    (hC : CtC Y.2.2.2.2.2.1 Y.2.2.2.2.2.2 b L xs y wsy rm As (Fn v [])) (hG : GoodIn Y.2.2.2.1 (va_wsS Y.2.2.1 idx y wsy)) (hwy : wsy = Cond.code y bytes maxL ret :: wsy') (hd : ydOk y n') (hR : rm.frames + 1 ≤ Y.2.2.2.2.1.frames ∧ 8 + (maxL + 11) + rm.locals ≤ Y.2.2.2.2.1.locals)
    (hn : As.length = n') (hst : st0 = As.reverse ++ st) (hcat : (st.map fun v => v.category).sum ≤ 8) (hkn : k ≤ Y.2.2.2.2.1.cells ∧ n ≤ Y.2.2.2.2.1.slots)
    (kk : V X Y k n q lo (v.toList ++ st) ws) : V X Y k n pc lo st0 ws := by
  subst hq
  subst hst
  obtain ⟨p, e, s, m, args, below, meth, c, Q, A⟩ := X
  obtain ⟨cc, nL, own, Ts, R, l, G⟩ := Y
  obtain ⟨hx, hb, hml, hown, hts, hK, hN, hA⟩ := F
  obtain ⟨hX, hbl, hbA⟩ := S
  intro H locs ls hls hP hD hS
  have hFc : ∀ q, va_A [] H.size q → A q := by
    rintro q (⟨k, e, h⟩ | h)
    · simp at h
    · exact hA q (Nat.le_trans hS.1 h)
  have hXH : va_X b L xs s H := hX.kept (hS.2.1 b hbl hbA)
  refine W.callG (wc := []) (B := fun r w' t => Fn v [] r w' ∧ w'.map Prod.fst = ([] : va_W).map Prod.fst ∧ va_P G.1 vwCl w' t.heap) (va_runS (As := As) (rest := st) ⟨hx, hb, hml, hown, hts⟩ (hC.2.2 H.size) (va_cwS n' hts hG hwy hC.1 hC.2.1 hd hR) ⟨blindC, preC hK hN (Nat.lt_of_lt_of_le hbl hS.1) hXH⟩ rfl hn hls.1 rfl (lv_room hcat) d hkn) rfl hS hFc ?_
  rintro r w' t H1 locs1 ht ⟨⟨rfl, rfl⟩, hw, hP1⟩ hz hk hS1
  rw [ht] at hP1
  obtain ⟨hP2, hD2⟩ := putAt_join (wc := []) hP hD [] rfl rfl hk hP1
  exact kk H1 locs1 ls hls hP2 hD2 hS1
/-! ### the script's cells -/
def celz (xs : Nat → Int32) (L : Nat) (k : Int) : Int := if k < (L : Int) then scz xs k else 7919 * (k + 3) * (k + 11)
theorem celz_rng (xs : Nat → Int32) (L : Nat) {k : Int} (hk : 0 ≤ k ∧ k ≤ 200) : -2147483648 ≤ celz xs L k ∧ celz xs L k < 2147483648 := by
  unfold celz
  split
  · exact scz_rng xs k
  · have h1 : 0 ≤ 7919 * (k + 3) * (k + 11) := Int.mul_nonneg (Int.mul_nonneg (by omega) (by omega)) (by omega)
    have h2 : 7919 * (k + 3) * (k + 11) ≤ 7919 * 203 * 211 := Int.mul_le_mul (by omega) (by omega) (by omega) (by omega)
    omega
/-! ### a fresh object -/
theorem iez_00 (t : Int → Int) : iez t 0 0 = -1 := by
  have s0 : sgz t 0 0 = -1 := if_neg (by omega)
  have d0 : dgz t 0 0 = -1 := by
    unfold dgz
    rw [s0]
    exact if_neg (by omega)
  have n0 : nez t 0 0 0 3 = -1 := by
    unfold nez
    rw [d0, if_neg (by omega), if_pos (by omega)]
    rfl
  have bn : ∀ c, bez t 0 (-1) c = -1 := fun c => if_pos (by omega)
  have nn : ∀ lo hi, nez t 0 (-1) lo hi = -1 := fun lo hi => if_pos (by omega)
  have h0 : hez t 0 0 = -1 := by
    unfold hez
    rw [n0, bn, nn, bn]
  have w0 : wez t 0 (-1) = -1 := if_pos (by omega)
  have o0 : hoz t 0 (-1) = -1 := if_neg (by omega)
  unfold iez
  rw [h0, w0, o0]
theorem par_00 (t : Int → Int) : Par t 0 0 := ⟨fun k h => absurd h (Nat.not_lt_zero k), fun h => by
  have h1 := h.1
  rw [show plz t 0 0 = 0 from rfl, iez_00] at h1
  omega⟩
theorem rLA_00 (a t : Int → Int) : rLA a t 0 0 = -100 := by
  unfold rLA
  rw [show plz t 0 0 = 0 from rfl, iez_00, if_pos (by omega)]
  rfl

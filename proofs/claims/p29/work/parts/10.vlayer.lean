/-! THE V-LAYER: pure judgments over the kit's rows. Ints are zI of an Int, arrays functions Int → Int -/
def zI (z : Int) : Int32 := Int32.ofInt z
def zL (z : Int) : Int64 := Int64.ofInt z
def ia (g : Int → Int) : Nat → Int32 := fun j => zI (g (j : Int))
def la (g : Int → Int) : Nat → Int64 := fun j => zL (g (j : Int))
def upz (g : Int → Int) (i v : Int) : Int → Int := fun j => if j = i then v else g j
theorem upz_eq (g : Int → Int) (i v : Int) : upz g i v i = v := if_pos rfl
theorem upz_ne (g : Int → Int) (i v : Int) {j : Int} (h : j ≠ i) : upz g i v j = g j := if_neg h
theorem zI_toInt {z : Int} (h1 : -2147483648 ≤ z) (h2 : z < 2147483648) : (zI z).toInt = z := Int32.toInt_ofInt_of_le h1 h2
theorem zL_toInt {z : Int} (h1 : -9223372036854775808 ≤ z) (h2 : z < 9223372036854775808) : (zL z).toInt = z := Int64.toInt_ofInt_of_le h1 h2
theorem zI_of (x : Int32) : x = zI x.toInt := (Int32.ofInt_toInt x).symm
theorem zI_rng (x : Int32) : -2147483648 ≤ x.toInt ∧ x.toInt < 2147483648 := ⟨x.le_toInt, x.toInt_lt⟩
theorem zI_add (a b : Int) : zI a + zI b = zI (a + b) := Int32.toBitVec.inj (by simp [zI, BitVec.ofInt_add])
theorem zI_neg (a : Int) : -zI a = zI (-a) := Int32.neg_ofInt
theorem zI_sub (a b : Int) : zI a - zI b = zI (a - b) := by
  rw [Int32.sub_eq_add_neg, zI_neg, zI_add, Int.sub_eq_add_neg]
theorem zI_mul (a b : Int) : zI a * zI b = zI (a * b) := Int32.toBitVec.inj (by simp [zI, BitVec.ofInt_mul])
theorem zL_add (a b : Int) : zL a + zL b = zL (a + b) := Int64.toBitVec.inj (by simp [zL, BitVec.ofInt_add])
theorem zL_mul (a b : Int) : zL a * zL b = zL (a * b) := Int64.toBitVec.inj (by simp [zL, BitVec.ofInt_mul])
theorem zL_i (a : Int) : (zL a).toInt32 = zI a := Int64.toInt32_ofInt
theorem zI_l {a : Int} (h1 : -2147483648 ≤ a) (h2 : a < 2147483648) : (zI a).toInt64 = zL a := by
  apply Int64.toInt.inj
  rw [Int32.toInt_toInt64, zI_toInt h1 h2, zL_toInt (by omega) (by omega)]
theorem zI_le {a b : Int} (h : -2147483648 ≤ a ∧ a < 2147483648 ∧ -2147483648 ≤ b ∧ b < 2147483648) : zI a ≤ zI b ↔ a ≤ b := by
  rw [Int32.le_iff_toInt_le, zI_toInt h.1 h.2.1, zI_toInt h.2.2.1 h.2.2.2]
theorem zI_lt {a b : Int} (h : -2147483648 ≤ a ∧ a < 2147483648 ∧ -2147483648 ≤ b ∧ b < 2147483648) : zI a < zI b ↔ a < b := by
  rw [Int32.lt_iff_toInt_lt, zI_toInt h.1 h.2.1, zI_toInt h.2.2.1 h.2.2.2]
theorem zI_eq {a b : Int} (h : -2147483648 ≤ a ∧ a < 2147483648 ∧ -2147483648 ≤ b ∧ b < 2147483648) : zI a = zI b ↔ a = b := by
  rw [← Int32.toInt_inj, zI_toInt h.1 h.2.1, zI_toInt h.2.2.1 h.2.2.2]
theorem zI_0 : zI 0 = 0 := by decide +kernel
theorem zI_clamp {a : Int} (h1 : 0 ≤ a) (h2 : a < 2147483648) : (zI a).toNatClampNeg = a.toNat := Int32.toNatClampNeg_ofInt_of_le (by omega) h2
theorem zI_in {a : Int} {n : Nat} (hn : n ≤ 2147483648) (h : 0 ≤ a ∧ a < (n : Int)) : vp_in (zI a) n := by
  rw [vp_in_iff, zI_toInt (by omega) (by omega)]
  exact h
theorem ia_at {g : Int → Int} {a : Int} (h1 : 0 ≤ a) (h2 : a < 2147483648) : ia g (zI a).toNatClampNeg = zI (g a) := by
  show zI (g (((zI a).toNatClampNeg : Nat) : Int)) = _
  rw [zI_clamp h1 h2, Int.toNat_of_nonneg h1]
theorem la_at {g : Int → Int} {a : Int} (h1 : 0 ≤ a) (h2 : a < 2147483648) : la g (zI a).toNatClampNeg = zL (g a) := by
  show zL (g (((zI a).toNatClampNeg : Nat) : Int)) = _
  rw [zI_clamp h1 h2, Int.toNat_of_nonneg h1]
theorem ia_upd {g : Int → Int} {a v : Int} (h1 : 0 ≤ a) (h2 : a < 2147483648) : upd (ia g) (zI a).toNatClampNeg (zI v) = ia (upz g a v) := by
  funext j
  rw [zI_clamp h1 h2]
  by_cases h : j = a.toNat
  · have h' : (j : Int) = a := by omega
    simp only [upd, ia, upz, if_pos h, if_pos h']
  · have h' : ¬ (j : Int) = a := by omega
    simp [upd, ia, upz, h, h']
theorem la_upd {g : Int → Int} {a v : Int} (h1 : 0 ≤ a) (h2 : a < 2147483648) : vp_updL (la g) (zI a).toNatClampNeg (zL v) = la (upz g a v) := by
  funext j
  rw [zI_clamp h1 h2]
  by_cases h : j = a.toNat
  · have h' : (j : Int) = a := by omega
    simp only [vp_updL, la, upz, if_pos h, if_pos h']
  · have h' : ¬ (j : Int) = a := by omega
    simp [vp_updL, la, upz, h, h']
theorem zI_div {a b : Int} (ha : 0 ≤ a ∧ a < 2147483648) (hb : 0 < b ∧ b < 2147483648) : zI a / zI b = zI (a / b) := by
  have h3 : 0 ≤ a / b := Int.ediv_nonneg ha.1 (by omega)
  have h4 : a / b ≤ a := Int.ediv_le_self _ ha.1
  apply Int32.toInt.inj
  rw [Int32.toInt_div, zI_toInt (by omega) ha.2, zI_toInt (by omega) hb.2, zI_toInt (by omega) (by omega), Int.tdiv_eq_ediv_of_nonneg ha.1]
  rw [Int.bmod_eq_of_le (by omega) (by omega)]
theorem zI_rem {a b : Int} (ha : 0 ≤ a ∧ a < 2147483648) (hb : 0 < b ∧ b < 2147483648) : zI a - zI a / zI b * zI b = zI (a % b) := by
  rw [zI_div ha hb, zI_mul, zI_sub]
  congr 1
  have := Int.emod_def a b
  rw [this, Int.mul_comm]
theorem zI_ne0 {b : Int} (hb : b ≠ 0 ∧ -2147483648 ≤ b ∧ b < 2147483648) : ¬ zI b = 0 := by
  rw [← zI_0, zI_eq ⟨hb.2.1, hb.2.2, by omega, by omega⟩]
  exact hb.1
/-! ### locals by place -/
def lvl : Nat → List (Option Value) → List (Nat × Value)
  | _, [] => []
  | i, none :: t => lvl (i + 1) t
  | i, some v :: t => (i, v) :: lvl (i + 1) t
theorem lvl_mem : ∀ (lo : List (Option Value)) (i : Nat) (q : Nat × Value), q ∈ lvl i lo ↔ ∃ k : Nat, lo[k]? = some (some q.2) ∧ q.1 = i + k
  | [], i, q => by simp [lvl]
  | none :: t, i, q => by
    rw [lvl, lvl_mem t (i + 1) q]
    constructor
    · rintro ⟨k, h1, h2⟩
      exact ⟨k + 1, by simpa using h1, by omega⟩
    · rintro ⟨k, h1, h2⟩
      cases k with
      | zero => simp at h1
      | succ k => exact ⟨k, by simpa using h1, by omega⟩
  | some v :: t, i, q => by
    rw [lvl, List.mem_cons, lvl_mem t (i + 1) q]
    constructor
    · rintro (h | ⟨k, h1, h2⟩)
      · exact ⟨0, by rw [h]; rfl, by rw [h]; rfl⟩
      · exact ⟨k + 1, by simpa using h1, by omega⟩
    · rintro ⟨k, h1, h2⟩
      cases k with
      | zero =>
        left
        simp at h1
        obtain ⟨a, b⟩ := q
        simp at h2 h1 ⊢
        exact ⟨h2, h1.symm⟩
      | succ k => exact Or.inr ⟨k, by simpa using h1, by omega⟩
theorem lvl_at {ls : Array Slot} {nL : Nat} {lo : List (Option Value)} (h : lv_has ls nL (lvl 0 lo)) {i : Nat} {v : Value} (hk : lo[i]? = some (some v)) : ls[i]? = some (.val v) :=
  h.2.2 (i, v) ((lvl_mem lo 0 (i, v)).mpr ⟨i, hk, (Nat.zero_add i).symm⟩)
/-- no long stands just ahead of the place -/
def okst (lo : List (Option Value)) : Nat → Bool
  | 0 => true
  | j + 1 => match lo[j]? with
    | some (some w) => w.category != 2
    | _ => true
theorem lvl_put {ls : Array Slot} {nL i : Nat} {lo : List (Option Value)} {v : Value} (ho : okst lo i = true)
    (h : lv_has ls nL ((i, v) :: (lvl 0 lo).filter (fun q => !(q.1 == i) && !(q.1 + 1 == i && q.2.category == 2)))) : lv_has ls nL (lvl 0 (lo.set i (some v))) := by
  refine ⟨h.1, h.2.1, fun q hq => h.2.2 q ?_⟩
  obtain ⟨k, h1, h2⟩ := (lvl_mem _ 0 q).mp hq
  obtain ⟨a, b⟩ := q
  simp only [Nat.zero_add] at h2
  subst h2
  by_cases hk : a = i
  · subst hk
    rw [List.getElem?_set] at h1
    simp at h1
    rw [← h1.2]
    exact List.mem_cons_self
  · rw [List.getElem?_set_ne (Ne.symm hk)] at h1
    refine List.mem_cons_of_mem _ (List.mem_filter.mpr ⟨(lvl_mem lo 0 (a, b)).mpr ⟨a, h1, (Nat.zero_add a).symm⟩, ?_⟩)
    simp only [Bool.and_eq_true, Bool.not_eq_true', beq_eq_false_iff_ne, ne_eq, Bool.and_eq_false_iff]
    refine ⟨hk, ?_⟩
    by_cases hj : a + 1 = i
    · subst hj
      right
      simp only [okst, h1] at ho
      simpa using ho
    · exact Or.inl hj
theorem lvl_put2 {ls : Array Slot} {nL i : Nat} {lo : List (Option Value)} {v : Value} (ho : okst lo i = true)
    (h : lv_has ls nL ((i, v) :: (lvl 0 lo).filter (fun q => !(q.1 == i) && (!(q.1 == i + 1) && !(q.1 + 1 == i && q.2.category == 2))))) : lv_has ls nL (lvl 0 ((lo.set i (some v)).set (i + 1) none)) := by
  refine ⟨h.1, h.2.1, fun q hq => h.2.2 q ?_⟩
  obtain ⟨k, h1, h2⟩ := (lvl_mem _ 0 q).mp hq
  obtain ⟨a, b⟩ := q
  simp only [Nat.zero_add] at h2
  subst h2
  by_cases hk2 : a = i + 1
  · subst hk2
    rw [List.getElem?_set] at h1
    simp at h1
  · rw [List.getElem?_set_ne (Ne.symm hk2)] at h1
    by_cases hk : a = i
    · subst hk
      rw [List.getElem?_set] at h1
      simp at h1
      rw [← h1.2]
      exact List.mem_cons_self
    · rw [List.getElem?_set_ne (Ne.symm hk)] at h1
      refine List.mem_cons_of_mem _ (List.mem_filter.mpr ⟨(lvl_mem lo 0 (a, b)).mpr ⟨a, h1, (Nat.zero_add a).symm⟩, ?_⟩)
      simp only [Bool.and_eq_true, Bool.not_eq_true', beq_eq_false_iff_ne, ne_eq, Bool.and_eq_false_iff]
      refine ⟨hk, hk2, ?_⟩
      by_cases hj : a + 1 = i
      · subst hj
        right
        simp only [okst, h1] at ho
        simpa using ho
      · exact Or.inl hj
/-! ### the judgment -/
abbrev Gx : Type := va_G × ClassId × ClassId × ClassId × ClassId
/-- code, locals, own class, words, room, launch, the tables' numbers -/
abbrev Sx : Type := ByteArray × Nat × String × List Cond × Room × Launch × Gx
abbrev Cx : Type := Program × Env × State × MethodId × Array Value × List Frame × Method × Code × (State → Prop) × (Nat → Prop)
def tysOf (G : Gx) : List (ClassId × FieldType) := [(G.2.1, .int), (G.2.1, .int), (G.2.2.2.1, .boolean), (G.2.2.2.2, .char)]
def aI (G : Gx) (N : Nat) (g : Int → Int) : va_E := .inl (G.2.1, N, .inl (ia g))
def aJ (G : Gx) (N : Nat) (g : Int → Int) : va_E := .inl (G.2.2.1, N, .inr (.inl (la g)))
def aZ (G : Gx) (N : Nat) (g : Int → Int) : va_E := .inl (G.2.2.2.1, N, .inl (ia g))
def aC (G : Gx) (N : Nat) (g : Int → Int) : va_E := .inl (G.2.2.2.2, N, .inl (ia g))
/-- the private members of nest mates that are called -/
def NW (U : State) : Prop := va_Nw (.methodLinkNest RX3 64 yX6_roseOf RX6) U ∧ va_Nw (.methodLinkNest RX3 81 yX6_isBetween RX6) U ∧ va_Nw (.methodLinkNest RX4 45 yX6_partOf RX6) U ∧ va_Nw (.methodLinkNest RX5 23 yX6_isBetween RX6) U
theorem NW.warm {s U : State} (hW : s.WarmedH U.vm) (h : NW s) : NW U := ⟨h.1.warmM hW, h.2.1.warmM hW, h.2.2.1.warmM hW, h.2.2.2.warmM hW⟩
theorem NW.same {u U : State} (e : u.vm = U.vm) (h : NW u) : NW U := ⟨va_Nw.same rfl e h.1, va_Nw.same rfl e h.2.1, va_Nw.same rfl e h.2.2.1, va_Nw.same rfl e h.2.2.2⟩
/-- what is fixed in a walk -/
def Fx (X : Cx) (Y : Sx) : Prop := match X, Y with
  | (p, _, s, m, args, _, _, c, _, A), (cc, nL, own, Ts, _, _, G) =>
    p.tables.exec = Jvm.exec ∧ c.code = cc ∧ c.maxLocals = nL ∧ s.vm.findClass own = some m.cls ∧ (∀ w ∈ Ts, w.before args s = true) ∧ va_K G.1 vwCl (tysOf G) s ∧ NW s ∧ (∀ q : Nat, s.heap.size ≤ q → A q)
/-- from locals lo, stack st and cells ws at pc the walk comes to its end -/
def V (X : Cx) (Y : Sx) (k n pc : Nat) (lo : List (Option Value)) (st : List Value) (ws : va_W) : Prop := match X, Y with
  | (p, e, s, m, args, below, meth, c, Q, A), (_, nL, _, _, R, l, G) =>
    ∀ (H : Heap) (locs : List Loc) (ls : Array Slot), lv_has ls nL (lvl 0 lo) → va_P G.1 vwCl ws H → va_D A ws → va_S A s.heap H locs → W p l e R s m args below meth c H locs k n Q (F0 m pc ls st)
/-- a contract: on the cells wc, with As, the method returns r, the cells (at their addresses) being w' then, and P r w' -/
def Ct (l : Launch) (G : Gx) (y : MethodName) (words : List Cond) (rm : Room) (As : List Value) (wc : va_W) (P : Option Value → va_W → Prop) : Prop :=
  rm.cells = 0 ∧ rm.slots = 0 ∧ ∀ sz : Nat, Met l y words rm (va_Pc As (fun U => U.heap.size = sz ∧ va_P G.1 vwCl wc U.heap ∧ (va_K G.1 vwCl (tysOf G) U ∧ NW U) ∧ va_D (fun _ => True) wc))
    (fun _ st oc t => (∃ (r : Option Value) (w' : va_W), oc = .returned r ∧ P r w' ∧ w'.map Prod.fst = wc.map Prod.fst ∧ va_P G.1 vwCl w' t.heap) ∧ va_F (va_A wc sz) st t) 0 0 (va_A wc sz)
/-- where the walk may return -/
def Rt (X : Cx) (Y : Sx) (ret : Option FieldType) (wc : va_W) (P : Option Value → va_W → Prop) : Prop := match X, Y with
  | (_, _, s, _, args, below, meth, _, Q, A), (_, _, _, _, _, _, G) =>
    meth.sig.returnType = ret ∧ meth.locks = false ∧
    Q = MQ below (fun _ st oc t => (∃ (r : Option Value) (w' : va_W), oc = .returned r ∧ P r w' ∧ w'.map Prod.fst = wc.map Prod.fst ∧ va_P G.1 vwCl w' t.heap) ∧ va_F A st t) args s 0 0 A
theorem Ct.intro {l : Launch} {G : Gx} {y : MethodName} {words ws' : List Cond} {rm : Room} {As : List Value} {wc : va_W} {P : Option Value → va_W → Prop} {cc : ByteArray} {maxL : Nat} {ret : Option FieldType} {lo0 : List (Option Value)}
    (hy : plainName y.cls = true) (hw : words = Cond.code y cc maxL ret :: ws') (h0 : rm.cells = 0 ∧ rm.slots = 0) (hn : (lg_sl As).length ≤ maxL) (hlo : lv_args 0 As = lvl 0 lo0)
    (body : ∀ X : Cx, Fx X (cc, maxL, y.cls, words, rm, l, G) → Rt X (cc, maxL, y.cls, words, rm, l, G) ret wc P → V X (cc, maxL, y.cls, words, rm, l, G) 0 0 0 lo0 [] wc) : Ct l G y words rm As wc P := by
  refine ⟨h0.1, h0.2, fun sz => ?_⟩
  refine Met.ofW (cc := cc) (maxL := maxL) (ret := ret) hy hw ?_
  intro p e s m args below meth c s₁ B hml hv
  obtain ⟨rfl, hsz, hP, ⟨hK, hN⟩, hD0⟩ := hv
  have hx := B.exec
  have hb := B.bytes
  have hr := B.returns
  have hts := atoms_spec (ws := words) B.pre
  have hown : s.vm.findClass y.cls = some m.cls := findClass_of_methodNamed B.named
  have hlocks := B.notSynchronized
  subst hsz
  have hD := hD0.self (sz := s.heap.size)
  generalize hAe : va_A wc s.heap.size = A at hD ⊢
  have hA : ∀ q : Nat, s.heap.size ≤ q → A q := fun q h => by rw [← hAe]; exact Or.inr h
  have hS : va_S A s.heap s.heap [] := va_S.rf
  have hl := lv_entry As (n := maxL) hn
  rw [lg_entry_eq]
  generalize (lg_sl As ++ List.replicate (maxL - (lg_sl As).length) Slot.unset).toArray = ls at hl ⊢
  rw [hlo] at hl
  exact body (p, e, s, m, As.toArray, below, meth, c, _, A) ⟨hx, hb, hml, hown, hts, hK, hN, hA⟩ ⟨hr, hlocks, rfl⟩ s.heap [] ls hl hP hD hS
section VR
variable {X : Cx} {Y : Sx} {k n pc q : Nat} {lo lo' : List (Option Value)} {st : List Value} {ws ws' : va_W}
theorem V.eq {pc' : Nat} {st' : List Value} (h1 : pc = pc') (h2 : lo = lo') (h3 : st = st') (h4 : ws = ws') (kk : V X Y k n pc' lo' st' ws') : V X Y k n pc lo st ws := by
  subst h1; subst h2; subst h3; subst h4; exact kk
theorem V.iload_n (F : Fx X Y) {j : Fin 4} {i : Nat} {x : Int32} (d : decode Y.1 pc = .ok (.iload_n j, 1)) (hq : pc + 1 = q) (hi : (j : Nat) = i) (hl : lo[i]? = some (some (.int x))) (kk : V X Y k n q lo (.int x :: st) ws) : V X Y k n pc lo st ws := by
  subst hq
  obtain ⟨p, e, s, m, args, below, meth, c, Q, A⟩ := X
  obtain ⟨cc, nL, own, Ts, R, l, G⟩ := Y
  obtain ⟨hx, hb, hml, hown, hts, hK, hN, hA⟩ := F
  intro H locs ls hls hP hD hS
  exact lv_iload_n hx hb d hi (lvl_at hls hl) (kk H locs ls hls hP hD hS)
theorem V.iload (F : Fx X Y) {i : Nat} {x : Int32} (d : decode Y.1 pc = .ok (.iload i, 2)) (hq : pc + 2 = q) (hl : lo[i]? = some (some (.int x))) (kk : V X Y k n q lo (.int x :: st) ws) : V X Y k n pc lo st ws := by
  subst hq
  obtain ⟨p, e, s, m, args, below, meth, c, Q, A⟩ := X
  obtain ⟨cc, nL, own, Ts, R, l, G⟩ := Y
  obtain ⟨hx, hb, hml, hown, hts, hK, hN, hA⟩ := F
  intro H locs ls hls hP hD hS
  exact lv_iload hx hb d (lvl_at hls hl) (kk H locs ls hls hP hD hS)
theorem V.aload_n (F : Fx X Y) {j : Fin 4} {i : Nat} {x : Nat} (d : decode Y.1 pc = .ok (.aload_n j, 1)) (hq : pc + 1 = q) (hi : (j : Nat) = i) (hl : lo[i]? = some (some (.ref x))) (kk : V X Y k n q lo (.ref x :: st) ws) : V X Y k n pc lo st ws := by
  subst hq
  obtain ⟨p, e, s, m, args, below, meth, c, Q, A⟩ := X
  obtain ⟨cc, nL, own, Ts, R, l, G⟩ := Y
  obtain ⟨hx, hb, hml, hown, hts, hK, hN, hA⟩ := F
  intro H locs ls hls hP hD hS
  exact lv_aload_n hx hb d hi (lvl_at hls hl) (kk H locs ls hls hP hD hS)
theorem V.aload (F : Fx X Y) {i : Nat} {x : Nat} (d : decode Y.1 pc = .ok (.aload i, 2)) (hq : pc + 2 = q) (hl : lo[i]? = some (some (.ref x))) (kk : V X Y k n q lo (.ref x :: st) ws) : V X Y k n pc lo st ws := by
  subst hq
  obtain ⟨p, e, s, m, args, below, meth, c, Q, A⟩ := X
  obtain ⟨cc, nL, own, Ts, R, l, G⟩ := Y
  obtain ⟨hx, hb, hml, hown, hts, hK, hN, hA⟩ := F
  intro H locs ls hls hP hD hS
  exact lv_aload hx hb d (lvl_at hls hl) (kk H locs ls hls hP hD hS)
theorem V.lload_n (F : Fx X Y) {j : Fin 4} {i : Nat} {x : Int64} (d : decode Y.1 pc = .ok (.lload_n j, 1)) (hq : pc + 1 = q) (hi : (j : Nat) = i) (hl : lo[i]? = some (some (.long x))) (kk : V X Y k n q lo (.long x :: st) ws) : V X Y k n pc lo st ws := by
  subst hq
  obtain ⟨p, e, s, m, args, below, meth, c, Q, A⟩ := X
  obtain ⟨cc, nL, own, Ts, R, l, G⟩ := Y
  obtain ⟨hx, hb, hml, hown, hts, hK, hN, hA⟩ := F
  intro H locs ls hls hP hD hS
  exact lv_lload_n hx hb d hi (lvl_at hls hl) (kk H locs ls hls hP hD hS)
theorem V.lload (F : Fx X Y) {i : Nat} {x : Int64} (d : decode Y.1 pc = .ok (.lload i, 2)) (hq : pc + 2 = q) (hl : lo[i]? = some (some (.long x))) (kk : V X Y k n q lo (.long x :: st) ws) : V X Y k n pc lo st ws := by
  subst hq
  obtain ⟨p, e, s, m, args, below, meth, c, Q, A⟩ := X
  obtain ⟨cc, nL, own, Ts, R, l, G⟩ := Y
  obtain ⟨hx, hb, hml, hown, hts, hK, hN, hA⟩ := F
  intro H locs ls hls hP hD hS
  exact lv_lload hx hb d (lvl_at hls hl) (kk H locs ls hls hP hD hS)
theorem V.istore_n (F : Fx X Y) {j : Fin 4} {i : Nat} {x : Int32} (d : decode Y.1 pc = .ok (.istore_n j, 1)) (hq : pc + 1 = q) (hi : (j : Nat) = i) (hn : i < Y.2.1) (ho : okst lo i = true) (hlo : lo.set i (some (.int x)) = lo') (kk : V X Y k n q lo' st ws) : V X Y k n pc lo (.int x :: st) ws := by
  subst hq
  obtain ⟨p, e, s, m, args, below, meth, c, Q, A⟩ := X
  obtain ⟨cc, nL, own, Ts, R, l, G⟩ := Y
  obtain ⟨hx, hb, hml, hown, hts, hK, hN, hA⟩ := F
  intro H locs ls hls hP hD hS
  subst hlo; exact lv_istore_n hx hb d hi hls hn rfl (fun ls hls => kk H locs ls (lvl_put ho hls) hP hD hS)
theorem V.astore_n (F : Fx X Y) {j : Fin 4} {i : Nat} {x : Nat} (d : decode Y.1 pc = .ok (.astore_n j, 1)) (hq : pc + 1 = q) (hi : (j : Nat) = i) (hn : i < Y.2.1) (ho : okst lo i = true) (hlo : lo.set i (some (.ref x)) = lo') (kk : V X Y k n q lo' st ws) : V X Y k n pc lo (.ref x :: st) ws := by
  subst hq
  obtain ⟨p, e, s, m, args, below, meth, c, Q, A⟩ := X
  obtain ⟨cc, nL, own, Ts, R, l, G⟩ := Y
  obtain ⟨hx, hb, hml, hown, hts, hK, hN, hA⟩ := F
  intro H locs ls hls hP hD hS
  subst hlo; exact lv_astore_n hx hb d hi hls hn rfl (fun ls hls => kk H locs ls (lvl_put ho hls) hP hD hS)
theorem V.istore (F : Fx X Y) {i : Nat} {x : Int32} (d : decode Y.1 pc = .ok (.istore i, 2)) (hq : pc + 2 = q) (hn : i < Y.2.1) (ho : okst lo i = true) (hlo : lo.set i (some (.int x)) = lo') (kk : V X Y k n q lo' st ws) : V X Y k n pc lo (.int x :: st) ws := by
  subst hq
  obtain ⟨p, e, s, m, args, below, meth, c, Q, A⟩ := X
  obtain ⟨cc, nL, own, Ts, R, l, G⟩ := Y
  obtain ⟨hx, hb, hml, hown, hts, hK, hN, hA⟩ := F
  intro H locs ls hls hP hD hS
  subst hlo; exact lv_istore hx hb d hls hn rfl (fun ls hls => kk H locs ls (lvl_put ho hls) hP hD hS)
theorem V.lstore (F : Fx X Y) {i : Nat} {x : Int64} (d : decode Y.1 pc = .ok (.lstore i, 2)) (hq : pc + 2 = q) (hn : i + 1 < Y.2.1) (ho : okst lo i = true) (hlo : (lo.set i (some (.long x))).set (i + 1) none = lo') (kk : V X Y k n q lo' st ws) : V X Y k n pc lo (.long x :: st) ws := by
  subst hq
  obtain ⟨p, e, s, m, args, below, meth, c, Q, A⟩ := X
  obtain ⟨cc, nL, own, Ts, R, l, G⟩ := Y
  obtain ⟨hx, hb, hml, hown, hts, hK, hN, hA⟩ := F
  intro H locs ls hls hP hD hS
  subst hlo; exact lv_lstore hx hb d hls hn rfl (fun ls hls => kk H locs ls (lvl_put2 ho hls) hP hD hS)
theorem lvl_place {lo : List (Option Value)} {i : Nat} {v : Value} (h : lo[i]? = some (some v)) : ∃ j : Nat, (lvl 0 lo)[j]? = some (i, v) :=
  List.getElem?_of_mem ((lvl_mem lo 0 (i, v)).mpr ⟨i, h, (Nat.zero_add i).symm⟩)
theorem V.iinc (F : Fx X Y) {i : Nat} {z a : Int} (d : decode Y.1 pc = .ok (.iinc i z, 3)) (hq : pc + 3 = q) (hl : lo[i]? = some (some (.int (zI a)))) (hn : i < Y.2.1) (ho : okst lo i = true) (hlo : lo.set i (some (.int (zI (a + z)))) = lo') (kk : V X Y k n q lo' st ws) : V X Y k n pc lo st ws := by
  subst hq
  obtain ⟨p, e, s, m, args, below, meth, c, Q, A⟩ := X
  obtain ⟨cc, nL, own, Ts, R, l, G⟩ := Y
  obtain ⟨hx, hb, hml, hown, hts, hK, hN, hA⟩ := F
  intro H locs ls hls hP hD hS
  subst hlo; obtain ⟨j, hj⟩ := lvl_place hl; exact lv_iinc hx hb d hls hj (zI_add a z) hn rfl (fun ls hls => kk H locs ls (lvl_put ho hls) hP hD hS)
theorem V.iconst (F : Fx X Y) {z : Int} (d : decode Y.1 pc = .ok (.iconst z, 1)) (hq : pc + 1 = q) (kk : V X Y k n q lo (.int (zI z) :: st) ws) : V X Y k n pc lo st ws := by
  subst hq
  obtain ⟨p, e, s, m, args, below, meth, c, Q, A⟩ := X
  obtain ⟨cc, nL, own, Ts, R, l, G⟩ := Y
  obtain ⟨hx, hb, hml, hown, hts, hK, hN, hA⟩ := F
  intro H locs ls hls hP hD hS
  exact lv_iconst hx hb d rfl (kk H locs ls hls hP hD hS)
theorem V.bipush (F : Fx X Y) {z : Int} (d : decode Y.1 pc = .ok (.bipush z, 2)) (hq : pc + 2 = q) (hz : -128 ≤ z ∧ z ≤ 127) (kk : V X Y k n q lo (.int (zI z) :: st) ws) : V X Y k n pc lo st ws := by
  subst hq
  obtain ⟨p, e, s, m, args, below, meth, c, Q, A⟩ := X
  obtain ⟨cc, nL, own, Ts, R, l, G⟩ := Y
  obtain ⟨hx, hb, hml, hown, hts, hK, hN, hA⟩ := F
  intro H locs ls hls hP hD hS
  exact lv_bipush hx hb d (Int8.toInt32_ofInt hz.1 hz.2) (kk H locs ls hls hP hD hS)
theorem V.sipush (F : Fx X Y) {z : Int} (d : decode Y.1 pc = .ok (.sipush z, 3)) (hq : pc + 3 = q) (hz : -32768 ≤ z ∧ z ≤ 32767) (kk : V X Y k n q lo (.int (zI z) :: st) ws) : V X Y k n pc lo st ws := by
  subst hq
  obtain ⟨p, e, s, m, args, below, meth, c, Q, A⟩ := X
  obtain ⟨cc, nL, own, Ts, R, l, G⟩ := Y
  obtain ⟨hx, hb, hml, hown, hts, hK, hN, hA⟩ := F
  intro H locs ls hls hP hD hS
  exact lv_sipush hx hb d (Int16.toInt32_ofInt hz.1 hz.2) (kk H locs ls hls hP hD hS)
theorem V.ldc (F : Fx X Y) {idx : Nat} {v : Int32} {z : Int} (d : decode Y.1 pc = .ok (.ldc idx, 2)) (hq : pc + 2 = q) (hw : Cond.constant Y.2.2.1 idx v ∈ Y.2.2.2.1) (hz : v = zI z) (kk : V X Y k n q lo (.int (zI z) :: st) ws) : V X Y k n pc lo st ws := by
  subst hq
  obtain ⟨p, e, s, m, args, below, meth, c, Q, A⟩ := X
  obtain ⟨cc, nL, own, Ts, R, l, G⟩ := Y
  obtain ⟨hx, hb, hml, hown, hts, hK, hN, hA⟩ := F
  intro H locs ls hls hP hD hS
  subst hz; exact lv_ldc hx hb hown (hts _ hw) d (kk H locs ls hls hP hD hS)
theorem V.ldc2 (F : Fx X Y) {idx : Nat} {v : Int64} {z : Int} (d : decode Y.1 pc = .ok (.ldc2_w idx, 3)) (hq : pc + 3 = q) (hw : Cond.constantLong Y.2.2.1 idx v ∈ Y.2.2.2.1) (hz : v = zL z) (kk : V X Y k n q lo (.long (zL z) :: st) ws) : V X Y k n pc lo st ws := by
  subst hq
  obtain ⟨p, e, s, m, args, below, meth, c, Q, A⟩ := X
  obtain ⟨cc, nL, own, Ts, R, l, G⟩ := Y
  obtain ⟨hx, hb, hml, hown, hts, hK, hN, hA⟩ := F
  intro H locs ls hls hP hD hS
  subst hz; exact lv_ldc2 hx hb hown (hts _ hw) d (kk H locs ls hls hP hD hS)
theorem V.lconst (F : Fx X Y) {j : Fin 2} {z : Int} (d : decode Y.1 pc = .ok (.lconst j, 1)) (hq : pc + 1 = q) (hz : Int64.ofNat (j : Nat) = zL z) (kk : V X Y k n q lo (.long (zL z) :: st) ws) : V X Y k n pc lo st ws := by
  subst hq
  obtain ⟨p, e, s, m, args, below, meth, c, Q, A⟩ := X
  obtain ⟨cc, nL, own, Ts, R, l, G⟩ := Y
  obtain ⟨hx, hb, hml, hown, hts, hK, hN, hA⟩ := F
  intro H locs ls hls hP hD hS
  exact lv_lconst hx hb d hz (kk H locs ls hls hP hD hS)
theorem V.iadd (F : Fx X Y) {a b : Int} (d : decode Y.1 pc = .ok (.iadd, 1)) (hq : pc + 1 = q) (kk : V X Y k n q lo (.int (zI (a + b)) :: st) ws) : V X Y k n pc lo (.int (zI b) :: .int (zI a) :: st) ws := by
  subst hq
  obtain ⟨p, e, s, m, args, below, meth, c, Q, A⟩ := X
  obtain ⟨cc, nL, own, Ts, R, l, G⟩ := Y
  obtain ⟨hx, hb, hml, hown, hts, hK, hN, hA⟩ := F
  intro H locs ls hls hP hD hS
  refine lv_iadd hx hb d ?_; rw [zI_add]; exact kk H locs ls hls hP hD hS
theorem V.isub (F : Fx X Y) {a b : Int} (d : decode Y.1 pc = .ok (.isub, 1)) (hq : pc + 1 = q) (kk : V X Y k n q lo (.int (zI (a - b)) :: st) ws) : V X Y k n pc lo (.int (zI b) :: .int (zI a) :: st) ws := by
  subst hq
  obtain ⟨p, e, s, m, args, below, meth, c, Q, A⟩ := X
  obtain ⟨cc, nL, own, Ts, R, l, G⟩ := Y
  obtain ⟨hx, hb, hml, hown, hts, hK, hN, hA⟩ := F
  intro H locs ls hls hP hD hS
  refine lv_isub hx hb d ?_; rw [zI_sub]; exact kk H locs ls hls hP hD hS
theorem V.imul (F : Fx X Y) {a b : Int} (d : decode Y.1 pc = .ok (.imul, 1)) (hq : pc + 1 = q) (kk : V X Y k n q lo (.int (zI (a * b)) :: st) ws) : V X Y k n pc lo (.int (zI b) :: .int (zI a) :: st) ws := by
  subst hq
  obtain ⟨p, e, s, m, args, below, meth, c, Q, A⟩ := X
  obtain ⟨cc, nL, own, Ts, R, l, G⟩ := Y
  obtain ⟨hx, hb, hml, hown, hts, hK, hN, hA⟩ := F
  intro H locs ls hls hP hD hS
  refine lv_imul hx hb d ?_; rw [zI_mul]; exact kk H locs ls hls hP hD hS
theorem V.ineg (F : Fx X Y) {a : Int} (d : decode Y.1 pc = .ok (.ineg, 1)) (hq : pc + 1 = q) (kk : V X Y k n q lo (.int (zI (-a)) :: st) ws) : V X Y k n pc lo (.int (zI a) :: st) ws := by
  subst hq
  obtain ⟨p, e, s, m, args, below, meth, c, Q, A⟩ := X
  obtain ⟨cc, nL, own, Ts, R, l, G⟩ := Y
  obtain ⟨hx, hb, hml, hown, hts, hK, hN, hA⟩ := F
  intro H locs ls hls hP hD hS
  refine lv_ineg hx hb d ?_; rw [zI_neg]; exact kk H locs ls hls hP hD hS
theorem V.idiv (F : Fx X Y) {a b : Int} (d : decode Y.1 pc = .ok (.idiv, 1)) (hq : pc + 1 = q) (rg : (0 ≤ a ∧ a < 2147483648) ∧ (0 < b ∧ b < 2147483648)) (kk : V X Y k n q lo (.int (zI (a / b)) :: st) ws) : V X Y k n pc lo (.int (zI b) :: .int (zI a) :: st) ws := by
  subst hq
  obtain ⟨p, e, s, m, args, below, meth, c, Q, A⟩ := X
  obtain ⟨cc, nL, own, Ts, R, l, G⟩ := Y
  obtain ⟨hx, hb, hml, hown, hts, hK, hN, hA⟩ := F
  intro H locs ls hls hP hD hS
  refine lv_idiv hx hb d (zI_ne0 ⟨by omega, by omega, by omega⟩) ?_; rw [zI_div rg.1 rg.2]; exact kk H locs ls hls hP hD hS
theorem V.irem (F : Fx X Y) {a b : Int} (d : decode Y.1 pc = .ok (.irem, 1)) (hq : pc + 1 = q) (rg : (0 ≤ a ∧ a < 2147483648) ∧ (0 < b ∧ b < 2147483648)) (kk : V X Y k n q lo (.int (zI (a % b)) :: st) ws) : V X Y k n pc lo (.int (zI b) :: .int (zI a) :: st) ws := by
  subst hq
  obtain ⟨p, e, s, m, args, below, meth, c, Q, A⟩ := X
  obtain ⟨cc, nL, own, Ts, R, l, G⟩ := Y
  obtain ⟨hx, hb, hml, hown, hts, hK, hN, hA⟩ := F
  intro H locs ls hls hP hD hS
  refine lv_irem hx hb d (zI_ne0 ⟨by omega, by omega, by omega⟩) ?_; rw [zI_rem rg.1 rg.2]; exact kk H locs ls hls hP hD hS
theorem V.iremR (F : Fx X Y) {x y : Int32} (d : decode Y.1 pc = .ok (.irem, 1)) (hq : pc + 1 = q) (hy : ¬ y = 0) (kk : V X Y k n q lo (.int (x - x / y * y) :: st) ws) : V X Y k n pc lo (.int y :: .int x :: st) ws := by
  subst hq
  obtain ⟨p, e, s, m, args, below, meth, c, Q, A⟩ := X
  obtain ⟨cc, nL, own, Ts, R, l, G⟩ := Y
  obtain ⟨hx, hb, hml, hown, hts, hK, hN, hA⟩ := F
  intro H locs ls hls hP hD hS
  exact lv_irem hx hb d hy (kk H locs ls hls hP hD hS)
theorem V.ixorR (F : Fx X Y) {x y : Int32} (d : decode Y.1 pc = .ok (.ixor, 1)) (hq : pc + 1 = q) (kk : V X Y k n q lo (.int (x ^^^ y) :: st) ws) : V X Y k n pc lo (.int y :: .int x :: st) ws := by
  subst hq
  obtain ⟨p, e, s, m, args, below, meth, c, Q, A⟩ := X
  obtain ⟨cc, nL, own, Ts, R, l, G⟩ := Y
  obtain ⟨hx, hb, hml, hown, hts, hK, hN, hA⟩ := F
  intro H locs ls hls hP hD hS
  exact lv_ixor hx hb d (kk H locs ls hls hP hD hS)
theorem V.iandR (F : Fx X Y) {x y : Int32} (d : decode Y.1 pc = .ok (.iand, 1)) (hq : pc + 1 = q) (kk : V X Y k n q lo (.int (x &&& y) :: st) ws) : V X Y k n pc lo (.int y :: .int x :: st) ws := by
  subst hq
  obtain ⟨p, e, s, m, args, below, meth, c, Q, A⟩ := X
  obtain ⟨cc, nL, own, Ts, R, l, G⟩ := Y
  obtain ⟨hx, hb, hml, hown, hts, hK, hN, hA⟩ := F
  intro H locs ls hls hP hD hS
  exact lv_iand hx hb d (kk H locs ls hls hP hD hS)
theorem V.i2l (F : Fx X Y) {a : Int} (d : decode Y.1 pc = .ok (.i2l, 1)) (hq : pc + 1 = q) (rg : -2147483648 ≤ a ∧ a < 2147483648) (kk : V X Y k n q lo (.long (zL a) :: st) ws) : V X Y k n pc lo (.int (zI a) :: st) ws := by
  subst hq
  obtain ⟨p, e, s, m, args, below, meth, c, Q, A⟩ := X
  obtain ⟨cc, nL, own, Ts, R, l, G⟩ := Y
  obtain ⟨hx, hb, hml, hown, hts, hK, hN, hA⟩ := F
  intro H locs ls hls hP hD hS
  exact lv_i2l hx hb d (zI_l rg.1 rg.2) (kk H locs ls hls hP hD hS)
theorem V.l2i (F : Fx X Y) {a : Int} (d : decode Y.1 pc = .ok (.l2i, 1)) (hq : pc + 1 = q) (kk : V X Y k n q lo (.int (zI a) :: st) ws) : V X Y k n pc lo (.long (zL a) :: st) ws := by
  subst hq
  obtain ⟨p, e, s, m, args, below, meth, c, Q, A⟩ := X
  obtain ⟨cc, nL, own, Ts, R, l, G⟩ := Y
  obtain ⟨hx, hb, hml, hown, hts, hK, hN, hA⟩ := F
  intro H locs ls hls hP hD hS
  exact lv_l2i hx hb d (zL_i a) (kk H locs ls hls hP hD hS)
theorem V.i2cR (F : Fx X Y) {x v : Int32} (d : decode Y.1 pc = .ok (.i2c, 1)) (hq : pc + 1 = q) (hv : (x.toUInt32 % 65536).toInt32 = v) (kk : V X Y k n q lo (.int v :: st) ws) : V X Y k n pc lo (.int x :: st) ws := by
  subst hq
  obtain ⟨p, e, s, m, args, below, meth, c, Q, A⟩ := X
  obtain ⟨cc, nL, own, Ts, R, l, G⟩ := Y
  obtain ⟨hx, hb, hml, hown, hts, hK, hN, hA⟩ := F
  intro H locs ls hls hP hD hS
  exact lv_i2c hx hb d hv (kk H locs ls hls hP hD hS)
theorem V.ladd (F : Fx X Y) {a b : Int} (d : decode Y.1 pc = .ok (.ladd, 1)) (hq : pc + 1 = q) (kk : V X Y k n q lo (.long (zL (a + b)) :: st) ws) : V X Y k n pc lo (.long (zL b) :: .long (zL a) :: st) ws := by
  subst hq
  obtain ⟨p, e, s, m, args, below, meth, c, Q, A⟩ := X
  obtain ⟨cc, nL, own, Ts, R, l, G⟩ := Y
  obtain ⟨hx, hb, hml, hown, hts, hK, hN, hA⟩ := F
  intro H locs ls hls hP hD hS
  refine lv_ladd hx hb d ?_; rw [zL_add]; exact kk H locs ls hls hP hD hS
theorem V.lshrR (F : Fx X Y) {x v : Int64} {y : Int32} (d : decode Y.1 pc = .ok (.lshr, 1)) (hq : pc + 1 = q) (hv : x >>> (y.toInt64 &&& 63) = v) (kk : V X Y k n q lo (.long v :: st) ws) : V X Y k n pc lo (.int y :: .long x :: st) ws := by
  subst hq
  obtain ⟨p, e, s, m, args, below, meth, c, Q, A⟩ := X
  obtain ⟨cc, nL, own, Ts, R, l, G⟩ := Y
  obtain ⟨hx, hb, hml, hown, hts, hK, hN, hA⟩ := F
  intro H locs ls hls hP hD hS
  exact lv_lshr hx hb d hv (kk H locs ls hls hP hD hS)
theorem V.lshlR (F : Fx X Y) {x v : Int64} {y : Int32} (d : decode Y.1 pc = .ok (.lshl, 1)) (hq : pc + 1 = q) (hv : x <<< (y.toInt64 &&& 63) = v) (kk : V X Y k n q lo (.long v :: st) ws) : V X Y k n pc lo (.int y :: .long x :: st) ws := by
  subst hq
  obtain ⟨p, e, s, m, args, below, meth, c, Q, A⟩ := X
  obtain ⟨cc, nL, own, Ts, R, l, G⟩ := Y
  obtain ⟨hx, hb, hml, hown, hts, hK, hN, hA⟩ := F
  intro H locs ls hls hP hD hS
  exact lv_lshl hx hb d hv (kk H locs ls hls hP hD hS)
theorem V.landR (F : Fx X Y) {x y v : Int64} (d : decode Y.1 pc = .ok (.land, 1)) (hq : pc + 1 = q) (hv : x &&& y = v) (kk : V X Y k n q lo (.long v :: st) ws) : V X Y k n pc lo (.long y :: .long x :: st) ws := by
  subst hq
  obtain ⟨p, e, s, m, args, below, meth, c, Q, A⟩ := X
  obtain ⟨cc, nL, own, Ts, R, l, G⟩ := Y
  obtain ⟨hx, hb, hml, hown, hts, hK, hN, hA⟩ := F
  intro H locs ls hls hP hD hS
  subst hv; exact lv_land hx hb d (kk H locs ls hls hP hD hS)
theorem V.lcmp (F : Fx X Y) {a b : Int} (d : decode Y.1 pc = .ok (.lcmp, 1)) (hq : pc + 1 = q) (rg : -9223372036854775808 ≤ a ∧ a < 9223372036854775808 ∧ -9223372036854775808 ≤ b ∧ b < 9223372036854775808) (kk : ∀ c : Int, -1 ≤ c → c ≤ 1 → (c < 0 ↔ a < b) → (0 < c ↔ b < a) → V X Y k n q lo (.int (zI c) :: st) ws) : V X Y k n pc lo (.long (zL b) :: .long (zL a) :: st) ws := by
  subst hq
  obtain ⟨p, e, s, m, args, below, meth, c, Q, A⟩ := X
  obtain ⟨cc, nL, own, Ts, R, l, G⟩ := Y
  obtain ⟨hx, hb, hml, hown, hts, hK, hN, hA⟩ := F
  intro H locs ls hls hP hD hS
  refine W.lcmp hx hb d ?_
  have e1 : zL b < zL a ↔ b < a := by rw [Int64.lt_iff_toInt_lt, zL_toInt rg.1 rg.2.1, zL_toInt rg.2.2.1 rg.2.2.2]
  have e2 : zL a = zL b ↔ a = b := by rw [← Int64.toInt_inj, zL_toInt rg.1 rg.2.1, zL_toInt rg.2.2.1 rg.2.2.2]
  have e3 : zL a < zL b ↔ a < b := by rw [Int64.lt_iff_toInt_lt, zL_toInt rg.1 rg.2.1, zL_toInt rg.2.2.1 rg.2.2.2]
  by_cases h1 : b < a
  · have e : lg_cmp (zL a) (zL b) = zI 1 := by simp only [lg_cmp, e1, h1, if_true]; first | rfl | decide
    rw [e]; exact kk 1 (by omega) (by omega) (by omega) (by omega) H locs ls hls hP hD hS
  · by_cases h2 : a = b
    · have e : lg_cmp (zL a) (zL b) = zI 0 := by subst h2; unfold lg_cmp; rw [if_neg (by first | exact fun z => absurd (e1.mp z) (Int.lt_irrefl _) | exact fun z => absurd (e3.mp z) (Int.lt_irrefl _))]; first | (rw [if_pos rfl]; exact zI_0.symm) | (rw [if_neg (by first | exact fun z => absurd (e1.mp z) (Int.lt_irrefl _) | exact fun z => absurd (e3.mp z) (Int.lt_irrefl _))]; exact zI_0.symm)
      rw [e]; exact kk 0 (by omega) (by omega) (by omega) (by omega) H locs ls hls hP hD hS
    · have e : lg_cmp (zL a) (zL b) = zI (-1) := by simp only [lg_cmp, e1, e2, h1, h2, if_true, if_false]; first | rfl | (show (0 : Int32) = zI 0; exact zI_0.symm) | (show (-1 : Int32) = zI (-1); decide +kernel) | decide +kernel
      rw [e]; exact kk (-1) (by omega) (by omega) (by omega) (by omega) H locs ls hls hP hD hS
theorem V.icmp_eq (F : Fx X Y) {a b : Int} {off : Int} {tgt : Nat} (d : decode Y.1 pc = .ok (.if_icmp .eq off, 3)) (hq : pc + 3 = q) (ht : (pc : Int) + off = (tgt : Int)) (rg : -2147483648 ≤ a ∧ a < 2147483648 ∧ -2147483648 ≤ b ∧ b < 2147483648) (kt : a = b → V X Y k n tgt lo st ws) (kf : a ≠ b → V X Y k n q lo st ws) : V X Y k n pc lo (.int (zI b) :: .int (zI a) :: st) ws := by
  subst hq
  obtain ⟨p, e, s, m, args, below, meth, c, Q, A⟩ := X
  obtain ⟨cc, nL, own, Ts, R, l, G⟩ := Y
  obtain ⟨hx, hb, hml, hown, hts, hK, hN, hA⟩ := F
  intro H locs ls hls hP hD hS
  exact lv_icmp_eq hx hb d ht (fun h => kt ((zI_eq rg).mp h) H locs ls hls hP hD hS) (fun h => kf (fun e => h ((zI_eq rg).mpr e)) H locs ls hls hP hD hS)
theorem V.icmp_ne (F : Fx X Y) {a b : Int} {off : Int} {tgt : Nat} (d : decode Y.1 pc = .ok (.if_icmp .ne off, 3)) (hq : pc + 3 = q) (ht : (pc : Int) + off = (tgt : Int)) (rg : -2147483648 ≤ a ∧ a < 2147483648 ∧ -2147483648 ≤ b ∧ b < 2147483648) (kt : a ≠ b → V X Y k n tgt lo st ws) (kf : a = b → V X Y k n q lo st ws) : V X Y k n pc lo (.int (zI b) :: .int (zI a) :: st) ws := by
  subst hq
  obtain ⟨p, e, s, m, args, below, meth, c, Q, A⟩ := X
  obtain ⟨cc, nL, own, Ts, R, l, G⟩ := Y
  obtain ⟨hx, hb, hml, hown, hts, hK, hN, hA⟩ := F
  intro H locs ls hls hP hD hS
  exact lv_icmp_ne hx hb d ht (fun h => kt (fun e => h ((zI_eq rg).mpr e)) H locs ls hls hP hD hS) (fun h => kf ((zI_eq rg).mp (h)) H locs ls hls hP hD hS)
theorem V.icmp_lt (F : Fx X Y) {a b : Int} {off : Int} {tgt : Nat} (d : decode Y.1 pc = .ok (.if_icmp .lt off, 3)) (hq : pc + 3 = q) (ht : (pc : Int) + off = (tgt : Int)) (rg : -2147483648 ≤ a ∧ a < 2147483648 ∧ -2147483648 ≤ b ∧ b < 2147483648) (kt : a < b → V X Y k n tgt lo st ws) (kf : b ≤ a → V X Y k n q lo st ws) : V X Y k n pc lo (.int (zI b) :: .int (zI a) :: st) ws := by
  subst hq
  obtain ⟨p, e, s, m, args, below, meth, c, Q, A⟩ := X
  obtain ⟨cc, nL, own, Ts, R, l, G⟩ := Y
  obtain ⟨hx, hb, hml, hown, hts, hK, hN, hA⟩ := F
  intro H locs ls hls hP hD hS
  exact lv_icmp_lt hx hb d ht (fun h => kt ((zI_lt rg).mp h) H locs ls hls hP hD hS) (fun h => kf (Int.not_lt.mp (fun e => h ((zI_lt rg).mpr e))) H locs ls hls hP hD hS)
theorem V.icmp_ge (F : Fx X Y) {a b : Int} {off : Int} {tgt : Nat} (d : decode Y.1 pc = .ok (.if_icmp .ge off, 3)) (hq : pc + 3 = q) (ht : (pc : Int) + off = (tgt : Int)) (rg : -2147483648 ≤ a ∧ a < 2147483648 ∧ -2147483648 ≤ b ∧ b < 2147483648) (kt : b ≤ a → V X Y k n tgt lo st ws) (kf : a < b → V X Y k n q lo st ws) : V X Y k n pc lo (.int (zI b) :: .int (zI a) :: st) ws := by
  subst hq
  obtain ⟨p, e, s, m, args, below, meth, c, Q, A⟩ := X
  obtain ⟨cc, nL, own, Ts, R, l, G⟩ := Y
  obtain ⟨hx, hb, hml, hown, hts, hK, hN, hA⟩ := F
  intro H locs ls hls hP hD hS
  exact lv_icmp_ge hx hb d ht (fun h => kt ((zI_le ⟨rg.2.2.1, rg.2.2.2, rg.1, rg.2.1⟩).mp h) H locs ls hls hP hD hS) (fun h => kf (Int.not_le.mp (fun e => h ((zI_le ⟨rg.2.2.1, rg.2.2.2, rg.1, rg.2.1⟩).mpr e))) H locs ls hls hP hD hS)
theorem V.icmp_gt (F : Fx X Y) {a b : Int} {off : Int} {tgt : Nat} (d : decode Y.1 pc = .ok (.if_icmp .gt off, 3)) (hq : pc + 3 = q) (ht : (pc : Int) + off = (tgt : Int)) (rg : -2147483648 ≤ a ∧ a < 2147483648 ∧ -2147483648 ≤ b ∧ b < 2147483648) (kt : b < a → V X Y k n tgt lo st ws) (kf : a ≤ b → V X Y k n q lo st ws) : V X Y k n pc lo (.int (zI b) :: .int (zI a) :: st) ws := by
  subst hq
  obtain ⟨p, e, s, m, args, below, meth, c, Q, A⟩ := X
  obtain ⟨cc, nL, own, Ts, R, l, G⟩ := Y
  obtain ⟨hx, hb, hml, hown, hts, hK, hN, hA⟩ := F
  intro H locs ls hls hP hD hS
  exact lv_icmp_gt hx hb d ht (fun h => kt ((zI_lt ⟨rg.2.2.1, rg.2.2.2, rg.1, rg.2.1⟩).mp h) H locs ls hls hP hD hS) (fun h => kf (Int.not_lt.mp (fun e => h ((zI_lt ⟨rg.2.2.1, rg.2.2.2, rg.1, rg.2.1⟩).mpr e))) H locs ls hls hP hD hS)
theorem V.icmp_le (F : Fx X Y) {a b : Int} {off : Int} {tgt : Nat} (d : decode Y.1 pc = .ok (.if_icmp .le off, 3)) (hq : pc + 3 = q) (ht : (pc : Int) + off = (tgt : Int)) (rg : -2147483648 ≤ a ∧ a < 2147483648 ∧ -2147483648 ≤ b ∧ b < 2147483648) (kt : a ≤ b → V X Y k n tgt lo st ws) (kf : b < a → V X Y k n q lo st ws) : V X Y k n pc lo (.int (zI b) :: .int (zI a) :: st) ws := by
  subst hq
  obtain ⟨p, e, s, m, args, below, meth, c, Q, A⟩ := X
  obtain ⟨cc, nL, own, Ts, R, l, G⟩ := Y
  obtain ⟨hx, hb, hml, hown, hts, hK, hN, hA⟩ := F
  intro H locs ls hls hP hD hS
  exact lv_icmp_le hx hb d ht (fun h => kt ((zI_le rg).mp h) H locs ls hls hP hD hS) (fun h => kf (Int.not_le.mp (fun e => h ((zI_le rg).mpr e))) H locs ls hls hP hD hS)
theorem V.if_eq (F : Fx X Y) {a : Int} {off : Int} {tgt : Nat} (d : decode Y.1 pc = .ok (.ifCond .eq off, 3)) (hq : pc + 3 = q) (ht : (pc : Int) + off = (tgt : Int)) (rg : -2147483648 ≤ a ∧ a < 2147483648) (kt : a = 0 → V X Y k n tgt lo st ws) (kf : a ≠ 0 → V X Y k n q lo st ws) : V X Y k n pc lo (.int (zI a) :: st) ws := by
  subst hq
  obtain ⟨p, e, s, m, args, below, meth, c, Q, A⟩ := X
  obtain ⟨cc, nL, own, Ts, R, l, G⟩ := Y
  obtain ⟨hx, hb, hml, hown, hts, hK, hN, hA⟩ := F
  intro H locs ls hls hP hD hS
  exact lv_if_eq hx hb d ht (fun h => kt ((zI_eq (a := a) (b := 0) ⟨rg.1, rg.2, by omega, by omega⟩).mp (by rw [zI_0]; exact h)) H locs ls hls hP hD hS) (fun h => kf (fun e => h (by rw [← zI_0]; exact (zI_eq (a := a) (b := 0) ⟨rg.1, rg.2, by omega, by omega⟩).mpr e)) H locs ls hls hP hD hS)
theorem V.if_ne (F : Fx X Y) {a : Int} {off : Int} {tgt : Nat} (d : decode Y.1 pc = .ok (.ifCond .ne off, 3)) (hq : pc + 3 = q) (ht : (pc : Int) + off = (tgt : Int)) (rg : -2147483648 ≤ a ∧ a < 2147483648) (kt : a ≠ 0 → V X Y k n tgt lo st ws) (kf : a = 0 → V X Y k n q lo st ws) : V X Y k n pc lo (.int (zI a) :: st) ws := by
  subst hq
  obtain ⟨p, e, s, m, args, below, meth, c, Q, A⟩ := X
  obtain ⟨cc, nL, own, Ts, R, l, G⟩ := Y
  obtain ⟨hx, hb, hml, hown, hts, hK, hN, hA⟩ := F
  intro H locs ls hls hP hD hS
  exact lv_if_ne hx hb d ht (fun h => kt (fun e => h (by rw [← zI_0]; exact (zI_eq (a := a) (b := 0) ⟨rg.1, rg.2, by omega, by omega⟩).mpr e)) H locs ls hls hP hD hS) (fun h => kf ((zI_eq (a := a) (b := 0) ⟨rg.1, rg.2, by omega, by omega⟩).mp (by rw [zI_0]; exact h)) H locs ls hls hP hD hS)
theorem V.if_lt (F : Fx X Y) {a : Int} {off : Int} {tgt : Nat} (d : decode Y.1 pc = .ok (.ifCond .lt off, 3)) (hq : pc + 3 = q) (ht : (pc : Int) + off = (tgt : Int)) (rg : -2147483648 ≤ a ∧ a < 2147483648) (kt : a < 0 → V X Y k n tgt lo st ws) (kf : 0 ≤ a → V X Y k n q lo st ws) : V X Y k n pc lo (.int (zI a) :: st) ws := by
  subst hq
  obtain ⟨p, e, s, m, args, below, meth, c, Q, A⟩ := X
  obtain ⟨cc, nL, own, Ts, R, l, G⟩ := Y
  obtain ⟨hx, hb, hml, hown, hts, hK, hN, hA⟩ := F
  intro H locs ls hls hP hD hS
  exact lv_if_lt hx hb d ht (fun h => kt ((zI_lt (a := a) (b := 0) ⟨rg.1, rg.2, by omega, by omega⟩).mp (by rw [zI_0]; exact h)) H locs ls hls hP hD hS) (fun h => kf (Int.not_lt.mp (fun e => h (by rw [← zI_0]; exact (zI_lt (a := a) (b := 0) ⟨rg.1, rg.2, by omega, by omega⟩).mpr e))) H locs ls hls hP hD hS)
theorem V.if_ge (F : Fx X Y) {a : Int} {off : Int} {tgt : Nat} (d : decode Y.1 pc = .ok (.ifCond .ge off, 3)) (hq : pc + 3 = q) (ht : (pc : Int) + off = (tgt : Int)) (rg : -2147483648 ≤ a ∧ a < 2147483648) (kt : 0 ≤ a → V X Y k n tgt lo st ws) (kf : a < 0 → V X Y k n q lo st ws) : V X Y k n pc lo (.int (zI a) :: st) ws := by
  subst hq
  obtain ⟨p, e, s, m, args, below, meth, c, Q, A⟩ := X
  obtain ⟨cc, nL, own, Ts, R, l, G⟩ := Y
  obtain ⟨hx, hb, hml, hown, hts, hK, hN, hA⟩ := F
  intro H locs ls hls hP hD hS
  exact lv_if_ge hx hb d ht (fun h => kt ((zI_le (a := 0) (b := a) ⟨by omega, by omega, rg.1, rg.2⟩).mp (by rw [zI_0]; exact h)) H locs ls hls hP hD hS) (fun h => kf (Int.not_le.mp (fun e => h (by rw [← zI_0]; exact (zI_le (a := 0) (b := a) ⟨by omega, by omega, rg.1, rg.2⟩).mpr e))) H locs ls hls hP hD hS)
theorem V.if_gt (F : Fx X Y) {a : Int} {off : Int} {tgt : Nat} (d : decode Y.1 pc = .ok (.ifCond .gt off, 3)) (hq : pc + 3 = q) (ht : (pc : Int) + off = (tgt : Int)) (rg : -2147483648 ≤ a ∧ a < 2147483648) (kt : 0 < a → V X Y k n tgt lo st ws) (kf : a ≤ 0 → V X Y k n q lo st ws) : V X Y k n pc lo (.int (zI a) :: st) ws := by
  subst hq
  obtain ⟨p, e, s, m, args, below, meth, c, Q, A⟩ := X
  obtain ⟨cc, nL, own, Ts, R, l, G⟩ := Y
  obtain ⟨hx, hb, hml, hown, hts, hK, hN, hA⟩ := F
  intro H locs ls hls hP hD hS
  exact lv_if_gt hx hb d ht (fun h => kt ((zI_lt (a := 0) (b := a) ⟨by omega, by omega, rg.1, rg.2⟩).mp (by rw [zI_0]; exact h)) H locs ls hls hP hD hS) (fun h => kf (Int.not_lt.mp (fun e => h (by rw [← zI_0]; exact (zI_lt (a := 0) (b := a) ⟨by omega, by omega, rg.1, rg.2⟩).mpr e))) H locs ls hls hP hD hS)
theorem V.if_le (F : Fx X Y) {a : Int} {off : Int} {tgt : Nat} (d : decode Y.1 pc = .ok (.ifCond .le off, 3)) (hq : pc + 3 = q) (ht : (pc : Int) + off = (tgt : Int)) (rg : -2147483648 ≤ a ∧ a < 2147483648) (kt : a ≤ 0 → V X Y k n tgt lo st ws) (kf : 0 < a → V X Y k n q lo st ws) : V X Y k n pc lo (.int (zI a) :: st) ws := by
  subst hq
  obtain ⟨p, e, s, m, args, below, meth, c, Q, A⟩ := X
  obtain ⟨cc, nL, own, Ts, R, l, G⟩ := Y
  obtain ⟨hx, hb, hml, hown, hts, hK, hN, hA⟩ := F
  intro H locs ls hls hP hD hS
  exact lv_if_le hx hb d ht (fun h => kt ((zI_le (a := a) (b := 0) ⟨rg.1, rg.2, by omega, by omega⟩).mp (by rw [zI_0]; exact h)) H locs ls hls hP hD hS) (fun h => kf (Int.not_le.mp (fun e => h (by rw [← zI_0]; exact (zI_le (a := a) (b := 0) ⟨rg.1, rg.2, by omega, by omega⟩).mpr e))) H locs ls hls hP hD hS)
theorem V.if_geR (F : Fx X Y) {x : Int32} {off : Int} {tgt : Nat} (d : decode Y.1 pc = .ok (.ifCond .ge off, 3)) (hq : pc + 3 = q) (ht : (pc : Int) + off = (tgt : Int)) (kt : 0 ≤ x → V X Y k n tgt lo st ws) (kf : ¬ 0 ≤ x → V X Y k n q lo st ws) : V X Y k n pc lo (.int x :: st) ws := by
  subst hq
  obtain ⟨p, e, s, m, args, below, meth, c, Q, A⟩ := X
  obtain ⟨cc, nL, own, Ts, R, l, G⟩ := Y
  obtain ⟨hx, hb, hml, hown, hts, hK, hN, hA⟩ := F
  intro H locs ls hls hP hD hS
  exact lv_if_ge hx hb d ht (fun h => kt h H locs ls hls hP hD hS) (fun h => kf h H locs ls hls hP hD hS)
theorem V.goto (F : Fx X Y) {off : Int} {tgt : Nat} (d : decode Y.1 pc = .ok (.goto off, 3)) (ht : (pc : Int) + off = (tgt : Int)) (kk : V X Y k n tgt lo st ws) : V X Y k n pc lo st ws := by
  obtain ⟨p, e, s, m, args, below, meth, c, Q, A⟩ := X
  obtain ⟨cc, nL, own, Ts, R, l, G⟩ := Y
  obtain ⟨hx, hb, hml, hown, hts, hK, hN, hA⟩ := F
  intro H locs ls hls hP hD hS
  exact lv_goto hx hb d ht (kk H locs ls hls hP hD hS)
theorem V.tswIn (F : Fx X Y) {dflt lo_ hi : Int} {offs : Array Int} {len : Nat} {a off : Int} {tgt : Nat} (d : decode Y.1 pc = .ok (.tableswitch dflt lo_ hi offs, len)) (rg : -2147483648 ≤ a ∧ a < 2147483648) (h1 : lo_ ≤ a) (h2 : a ≤ hi) (ho : offs[(a - lo_).toNat]? = some off) (ht : (pc : Int) + off = (tgt : Int)) (kk : V X Y k n tgt lo st ws) : V X Y k n pc lo (.int (zI a) :: st) ws := by
  obtain ⟨p, e, s, m, args, below, meth, c, Q, A⟩ := X
  obtain ⟨cc, nL, own, Ts, R, l, G⟩ := Y
  obtain ⟨hx, hb, hml, hown, hts, hK, hN, hA⟩ := F
  intro H locs ls hls hP hD hS
  refine lv_tableIn hx hb d (by rw [zI_toInt rg.1 rg.2]; omega) (by rw [zI_toInt rg.1 rg.2]; omega) (by rw [zI_toInt rg.1 rg.2]; exact ho) ht (kk H locs ls hls hP hD hS)
theorem V.tswOut (F : Fx X Y) {dflt lo_ hi : Int} {offs : Array Int} {len : Nat} {a : Int} {tgt : Nat} (d : decode Y.1 pc = .ok (.tableswitch dflt lo_ hi offs, len)) (rg : -2147483648 ≤ a ∧ a < 2147483648) (h1 : a < lo_ ∨ hi < a) (ht : (pc : Int) + dflt = (tgt : Int)) (kk : V X Y k n tgt lo st ws) : V X Y k n pc lo (.int (zI a) :: st) ws := by
  obtain ⟨p, e, s, m, args, below, meth, c, Q, A⟩ := X
  obtain ⟨cc, nL, own, Ts, R, l, G⟩ := Y
  obtain ⟨hx, hb, hml, hown, hts, hK, hN, hA⟩ := F
  intro H locs ls hls hP hD hS
  refine lv_tableOut hx hb d (by rw [zI_toInt rg.1 rg.2]; exact h1) ht (kk H locs ls hls hP hD hS)
theorem V.dup (F : Fx X Y) {v : Value} (d : decode Y.1 pc = .ok (.dup, 1)) (hq : pc + 1 = q) (hc : v.category = 1) (kk : V X Y k n q lo (v :: v :: st) ws) : V X Y k n pc lo (v :: st) ws := by
  subst hq
  obtain ⟨p, e, s, m, args, below, meth, c, Q, A⟩ := X
  obtain ⟨cc, nL, own, Ts, R, l, G⟩ := Y
  obtain ⟨hx, hb, hml, hown, hts, hK, hN, hA⟩ := F
  intro H locs ls hls hP hD hS
  exact lv_dup hx hb d hc (kk H locs ls hls hP hD hS)
theorem V.dup2 (F : Fx X Y) {v w : Value} (d : decode Y.1 pc = .ok (.dup2, 1)) (hq : pc + 1 = q) (hv : v.category = 1) (hw : w.category = 1) (kk : V X Y k n q lo (v :: w :: v :: w :: st) ws) : V X Y k n pc lo (v :: w :: st) ws := by
  subst hq
  obtain ⟨p, e, s, m, args, below, meth, c, Q, A⟩ := X
  obtain ⟨cc, nL, own, Ts, R, l, G⟩ := Y
  obtain ⟨hx, hb, hml, hown, hts, hK, hN, hA⟩ := F
  intro H locs ls hls hP hD hS
  exact lv_dup2_11 hx hb d hv hw (kk H locs ls hls hP hD hS)
theorem V.iald (F : Fx X Y) (q0 : Nat) {a N : Nat} {g : Int → Int} {i : Int} (d : decode Y.1 pc = .ok (.iaload, 1)) (hq : pc + 1 = q) (he : ws[q0]? = some (a, aI Y.2.2.2.2.2.2 N g)) (hsz : N ≤ 2147483648) (rg : 0 ≤ i ∧ i < (N : Int)) (kk : V X Y k n q lo (.int (zI (g i)) :: st) ws) : V X Y k n pc lo (.int (zI i) :: .ref a :: st) ws := by
  subst hq
  obtain ⟨p, e, s, m, args, below, meth, c, Q, A⟩ := X
  obtain ⟨cc, nL, own, Ts, R, l, G⟩ := Y
  obtain ⟨hx, hb, hml, hown, hts, hK, hN, hA⟩ := F
  intro H locs ls hls hP hD hS
  refine va_iald hx hb hK hP q0 0 he rfl (zI_in hsz rg) d ?_; rw [ia_at rg.1 (by omega)]; exact kk H locs ls hls hP hD hS
theorem V.zald (F : Fx X Y) (q0 : Nat) {a N : Nat} {g : Int → Int} {i : Int} (d : decode Y.1 pc = .ok (.baload, 1)) (hq : pc + 1 = q) (he : ws[q0]? = some (a, aZ Y.2.2.2.2.2.2 N g)) (hsz : N ≤ 2147483648) (rg : 0 ≤ i ∧ i < (N : Int)) (kk : V X Y k n q lo (.int (zI (g i)) :: st) ws) : V X Y k n pc lo (.int (zI i) :: .ref a :: st) ws := by
  subst hq
  obtain ⟨p, e, s, m, args, below, meth, c, Q, A⟩ := X
  obtain ⟨cc, nL, own, Ts, R, l, G⟩ := Y
  obtain ⟨hx, hb, hml, hown, hts, hK, hN, hA⟩ := F
  intro H locs ls hls hP hD hS
  refine va_zald hx hb hK hP q0 2 he rfl (zI_in hsz rg) d ?_; rw [ia_at rg.1 (by omega)]; exact kk H locs ls hls hP hD hS
theorem V.cald (F : Fx X Y) (q0 : Nat) {a N : Nat} {g : Int → Int} {i : Int} (d : decode Y.1 pc = .ok (.caload, 1)) (hq : pc + 1 = q) (he : ws[q0]? = some (a, aC Y.2.2.2.2.2.2 N g)) (hsz : N ≤ 2147483648) (rg : 0 ≤ i ∧ i < (N : Int)) (kk : V X Y k n q lo (.int (zI (g i)) :: st) ws) : V X Y k n pc lo (.int (zI i) :: .ref a :: st) ws := by
  subst hq
  obtain ⟨p, e, s, m, args, below, meth, c, Q, A⟩ := X
  obtain ⟨cc, nL, own, Ts, R, l, G⟩ := Y
  obtain ⟨hx, hb, hml, hown, hts, hK, hN, hA⟩ := F
  intro H locs ls hls hP hD hS
  refine va_cald hx hb hK hP q0 3 he rfl (zI_in hsz rg) d ?_; rw [ia_at rg.1 (by omega)]; exact kk H locs ls hls hP hD hS
theorem V.iast (F : Fx X Y) (q0 : Nat) {a N : Nat} {g : Int → Int} {i v : Int} (d : decode Y.1 pc = .ok (.iastore, 1)) (hq : pc + 1 = q) (he : ws[q0]? = some (a, aI Y.2.2.2.2.2.2 N g)) (hsz : N ≤ 2147483648) (rg : 0 ≤ i ∧ i < (N : Int))  (hws : ws.set q0 (a, aI Y.2.2.2.2.2.2 N (upz g i v)) = ws') (kk : V X Y k n q lo st ws') : V X Y k n pc lo (.int (zI v) :: .int (zI i) :: .ref a :: st) ws := by
  subst hq
  obtain ⟨p, e, s, m, args, below, meth, c, Q, A⟩ := X
  obtain ⟨cc, nL, own, Ts, R, l, G⟩ := Y
  obtain ⟨hx, hb, hml, hown, hts, hK, hN, hA⟩ := F
  intro H locs ls hls hP hD hS
  subst hws
  refine va_iast hx hb hK hP hD hS q0 0 he rfl (zI_in hsz rg) d (fun H locs hP hD hS => ?_); rw [ia_upd rg.1 (by omega)] at hP hD; exact kk H locs ls hls hP hD hS
theorem V.zast (F : Fx X Y) (q0 : Nat) {a N : Nat} {g : Int → Int} {i v : Int} (d : decode Y.1 pc = .ok (.bastore, 1)) (hq : pc + 1 = q) (he : ws[q0]? = some (a, aZ Y.2.2.2.2.2.2 N g)) (hsz : N ≤ 2147483648) (rg : 0 ≤ i ∧ i < (N : Int)) (hv : v = 0 ∨ v = 1) (hws : ws.set q0 (a, aZ Y.2.2.2.2.2.2 N (upz g i v)) = ws') (kk : V X Y k n q lo st ws') : V X Y k n pc lo (.int (zI v) :: .int (zI i) :: .ref a :: st) ws := by
  subst hq
  obtain ⟨p, e, s, m, args, below, meth, c, Q, A⟩ := X
  obtain ⟨cc, nL, own, Ts, R, l, G⟩ := Y
  obtain ⟨hx, hb, hml, hown, hts, hK, hN, hA⟩ := F
  intro H locs ls hls hP hD hS
  subst hws
  have e9 : vp_nar .boolean (zI v) = zI v := by rcases hv with rfl | rfl <;> decide +kernel
  refine va_zast hx hb hK hP hD hS q0 2 he rfl (zI_in hsz rg) d (fun H locs hP hD hS => ?_); rw [e9] at hP hD; rw [ia_upd rg.1 (by omega)] at hP hD; exact kk H locs ls hls hP hD hS
theorem V.cast (F : Fx X Y) (q0 : Nat) {a N : Nat} {g : Int → Int} {i v : Int} (d : decode Y.1 pc = .ok (.castore, 1)) (hq : pc + 1 = q) (he : ws[q0]? = some (a, aC Y.2.2.2.2.2.2 N g)) (hsz : N ≤ 2147483648) (rg : 0 ≤ i ∧ i < (N : Int)) (hv : vp_nar .char (zI v) = zI v) (hws : ws.set q0 (a, aC Y.2.2.2.2.2.2 N (upz g i v)) = ws') (kk : V X Y k n q lo st ws') : V X Y k n pc lo (.int (zI v) :: .int (zI i) :: .ref a :: st) ws := by
  subst hq
  obtain ⟨p, e, s, m, args, below, meth, c, Q, A⟩ := X
  obtain ⟨cc, nL, own, Ts, R, l, G⟩ := Y
  obtain ⟨hx, hb, hml, hown, hts, hK, hN, hA⟩ := F
  intro H locs ls hls hP hD hS
  subst hws
  have e9 := hv
  refine va_cast hx hb hK hP hD hS q0 3 he rfl (zI_in hsz rg) d (fun H locs hP hD hS => ?_); rw [e9] at hP hD; rw [ia_upd rg.1 (by omega)] at hP hD; exact kk H locs ls hls hP hD hS
theorem V.get (F : Fx X Y) (q0 j : Nat) {a ci N idx : Nat} {fs : List Value} {C : String} {T : u_T} {v : Value} (d : decode Y.1 pc = .ok (.getfield idx, 3)) (hq : pc + 3 = q) (he : ws[q0]? = some (a, .inr (ci, fs))) (hc : vwCl[ci]? = some (C, T, N)) (hin : ∀ w ∈ u_ws C T N, w ∈ Y.2.2.2.1) (hj : j < N) (hw : Cond.fieldLink Y.2.2.1 idx (T j).1 (T j).2.1 (T j).2.2.1 ∈ Y.2.2.2.1) (hv : fs[j]? = some v) (kk : V X Y k n q lo (v :: st) ws) : V X Y k n pc lo (.ref a :: st) ws := by
  subst hq
  obtain ⟨p, e, s, m, args, below, meth, c, Q, A⟩ := X
  obtain ⟨cc, nL, own, Ts, R, l, G⟩ := Y
  obtain ⟨hx, hb, hml, hown, hts, hK, hN, hA⟩ := F
  intro H locs ls hls hP hD hS
  exact va_get hx hb hts hin hown hK hP q0 he hc j hj (hts _ hw) (fun _ h9 => h9) hv d (kk H locs ls hls hP hD hS)
theorem V.put (F : Fx X Y) (q0 j : Nat) {a ci N idx : Nat} {fs fs' : List Value} {C : String} {T : u_T} {v : Value} {ty : FieldType} (d : decode Y.1 pc = .ok (.putfield idx, 3)) (hq : pc + 3 = q) (he : ws[q0]? = some (a, .inr (ci, fs))) (hc : vwCl[ci]? = some (C, T, N)) (hin : ∀ w ∈ u_ws C T N, w ∈ Y.2.2.2.1) (ty0 : Nat → FieldType) (hty : ∀ k, k < N → parseFieldDescriptor (T k).2.2.1 = some (ty0 k)) (hnm : ∀ a, a < N → ∀ b, b < N → a ≠ b → (T a).2.1 ≠ (T b).2.1) (hj : j < N) (hw : Cond.fieldLink Y.2.2.1 idx (T j).1 (T j).2.1 (T j).2.2.1 ∈ Y.2.2.2.1) (hfin : (T j).2.2.2 = false) (hd : ty0 j = ty) (hn : narrow ty v = v) (hfit : fits ty v = true) (hl : j < fs.length) (hfs : fs.set j v = fs') (hws : ws.set q0 (a, .inr (ci, fs')) = ws') (kk : V X Y k n q lo st ws') : V X Y k n pc lo (v :: .ref a :: st) ws := by
  subst hq
  obtain ⟨p, e, s, m, args, below, meth, c, Q, A⟩ := X
  obtain ⟨cc, nL, own, Ts, R, l, G⟩ := Y
  obtain ⟨hx, hb, hml, hown, hts, hK, hN, hA⟩ := F
  intro H locs ls hls hP hD hS
  subst hfs; subst hws; subst hd; exact va_put hx hb hts hin ty0 hty hnm hown hK hP hD hS q0 he hc j hj (hts _ hw) (fun _ h9 => h9) hfin (hty j hj) hn hfit hl d (fun H locs hP hD hS => kk H locs ls hls hP hD hS)
theorem V.iret {wc : va_W} {P : Option Value → va_W → Prop} (F : Fx X Y) (T : Rt X Y (some .int) wc P) {v : Int32} (d : decode Y.1 pc = .ok (.ireturn, 1)) (hP' : P (some (.int v)) ws) (as : List Nat) (ha1 : ws.map Prod.fst = as) (ha2 : wc.map Prod.fst = as) : V X Y 0 0 pc lo [.int v] ws := by
  have ha := ha1.trans ha2.symm
  obtain ⟨p, e, s, m, args, below, meth, c, Q, A⟩ := X
  obtain ⟨cc, nL, own, Ts, R, l, G⟩ := Y
  obtain ⟨hx, hb, hml, hown, hts, hK, hN, hA⟩ := F
  obtain ⟨hr, hlocks, hQ⟩ := T
  subst hQ
  intro H locs ls hls hP hD hS
  exact W.iret hx hb hr (fun t ht hW => ⟨⟨_, ws, rfl, hP', ha, by rw [ht]; exact hP⟩, hS.F ht⟩) hS.2.2 d hlocks
theorem V.zret {wc : va_W} {P : Option Value → va_W → Prop} (F : Fx X Y) (T : Rt X Y (some .boolean) wc P) {v : Int} (hv : v = 0 ∨ v = 1) (d : decode Y.1 pc = .ok (.ireturn, 1)) (hP' : P (some (.int (zI v))) ws) (as : List Nat) (ha1 : ws.map Prod.fst = as) (ha2 : wc.map Prod.fst = as) : V X Y 0 0 pc lo [.int (zI v)] ws := by
  have ha := ha1.trans ha2.symm
  obtain ⟨p, e, s, m, args, below, meth, c, Q, A⟩ := X
  obtain ⟨cc, nL, own, Ts, R, l, G⟩ := Y
  obtain ⟨hx, hb, hml, hown, hts, hK, hN, hA⟩ := F
  obtain ⟨hr, hlocks, hQ⟩ := T
  subst hQ
  intro H locs ls hls hP hD hS
  exact W.zret hx hb hr (by rcases hv with rfl | rfl <;> decide +kernel) (fun t ht hW => ⟨⟨_, ws, rfl, hP', ha, by rw [ht]; exact hP⟩, hS.F ht⟩) hS.2.2 d hlocks
theorem V.vret {wc : va_W} {P : Option Value → va_W → Prop} (F : Fx X Y) (T : Rt X Y none wc P) (d : decode Y.1 pc = .ok (.return_, 1)) (hP' : P none ws) (as : List Nat) (ha1 : ws.map Prod.fst = as) (ha2 : wc.map Prod.fst = as) : V X Y 0 0 pc lo [] ws := by
  have ha := ha1.trans ha2.symm
  obtain ⟨p, e, s, m, args, below, meth, c, Q, A⟩ := X
  obtain ⟨cc, nL, own, Ts, R, l, G⟩ := Y
  obtain ⟨hx, hb, hml, hown, hts, hK, hN, hA⟩ := F
  obtain ⟨hr, hlocks, hQ⟩ := T
  subst hQ
  intro H locs ls hls hP hD hS
  exact W.vret hx hb hr (fun t ht hW => ⟨⟨_, ws, rfl, hP', ha, by rw [ht]; exact hP⟩, hS.F ht⟩) hS.2.2 d hlocks
def putAt : va_W → List Nat → va_W → va_W
  | ws, i :: is, w :: wc => putAt (ws.set i w) is wc
  | ws, _, _ => ws
theorem putAt_get : ∀ (is : List Nat) (ws w' : va_W), is.length = w'.length → ∀ (k : Nat) (x : Nat × va_E), (putAt ws is w')[k]? = some x → (∃ j : Nat, is[j]? = some k ∧ w'[j]? = some x) ∨ (k ∉ is ∧ ws[k]? = some x)
  | [], ws, w', _, k, x, h => by
    right
    cases w' <;> exact ⟨List.not_mem_nil, h⟩
  | i :: is, ws, [], hl, k, x, h => by simp at hl
  | i :: is, ws, w :: wc, hl, k, x, h => by
    rcases putAt_get is (ws.set i w) wc (by simpa using hl) k x h with ⟨j, h1, h2⟩ | ⟨h1, h2⟩
    · exact Or.inl ⟨j + 1, by simpa using h1, by simpa using h2⟩
    · by_cases hk : k = i
      · subst hk
        rw [List.getElem?_set] at h2
        simp at h2
        exact Or.inl ⟨0, rfl, by rw [← h2.2]; rfl⟩
      · rw [List.getElem?_set_ne (Ne.symm hk)] at h2
        exact Or.inr ⟨by rw [List.mem_cons]; exact fun z => z.elim hk h1, h2⟩
theorem putAt_fst : ∀ (is : List Nat) (ws w' : va_W), (∀ (j i : Nat) (x : Nat × va_E), is[j]? = some i → w'[j]? = some x → (ws.map Prod.fst)[i]? = some x.1) → (putAt ws is w').map Prod.fst = ws.map Prod.fst
  | [], ws, w', _ => by cases w' <;> rfl
  | i :: is, ws, [], _ => rfl
  | i :: is, ws, w :: wc, h => by
    have h0 : (ws.map Prod.fst)[i]? = some w.1 := h 0 i w rfl rfl
    have e : (ws.set i w).map Prod.fst = ws.map Prod.fst := by
      rw [List.map_set]
      apply List.ext_getElem?
      intro k
      by_cases hk : i = k
      · subst hk
        have hl := (List.getElem?_eq_some_iff.mp h0).1
        rw [List.getElem?_set_self hl, h0]
      · rw [List.getElem?_set_ne hk]
    rw [putAt, putAt_fst is (ws.set i w) wc (fun j i' x h1 h2 => by rw [e]; exact h (j + 1) i' x (by simpa using h1) (by simpa using h2)), e]
theorem va_D.addr {A : Nat → Prop} {ws ws' : va_W} (e : ws'.map Prod.fst = ws.map Prod.fst) (h : va_D A ws) : va_D A ws' := by
  have key : ∀ (k : Nat) (x : Nat × va_E), ws'[k]? = some x → ∃ y : Nat × va_E, ws[k]? = some y ∧ y.1 = x.1 := by
    intro k x hx
    have h1 : (ws'.map Prod.fst)[k]? = some x.1 := by rw [List.getElem?_map, hx]; rfl
    rw [e, List.getElem?_map] at h1
    cases hy : ws[k]? with
    | none => rw [hy] at h1; cases h1
    | some y => rw [hy] at h1; exact ⟨y, rfl, Option.some.inj h1⟩
  refine ⟨fun i j x y hx hy hxy => ?_, fun k x hx => ?_⟩
  · obtain ⟨x', h1, h2⟩ := key i x hx
    obtain ⟨y', h3, h4⟩ := key j y hy
    exact h.1 i j x' y' h1 h3 (h2.trans (hxy.trans h4.symm))
  · obtain ⟨x', h1, h2⟩ := key k x hx
    rw [← h2]; exact h.2 k x' h1
theorem putAt_join {A0 : Nat → Prop} {D : va_G} {cl : List vw_C} {ws wc w' : va_W} {H H1 : Heap} (hP : va_P D cl ws H) (hD : va_D A0 ws) (isC : List Nat) (hC : isC.map (fun i => ws[i]?) = wc.map some) (hw : w'.map Prod.fst = wc.map Prod.fst)
    (hk : ∀ q : Nat, q < H.size → ¬ va_A wc H.size q → H1[q]? = H[q]?) (hP1 : va_P D cl w' H1) : va_P D cl (putAt ws isC w') H1 ∧ va_D A0 (putAt ws isC w') := by
  have hl1 : isC.length = wc.length := by have := congrArg List.length hC; simpa using this
  have hl2 : w'.length = wc.length := by have := congrArg List.length hw; simpa using this
  have at' : ∀ (j i : Nat), isC[j]? = some i → ∃ x, wc[j]? = some x ∧ ws[i]? = some x := by
    intro j i hj
    have h1 : (isC.map (fun i => ws[i]?))[j]? = some ws[i]? := by rw [List.getElem?_map, hj]; rfl
    rw [hC, List.getElem?_map] at h1
    cases hx : wc[j]? with
    | none => rw [hx] at h1; cases h1
    | some x => rw [hx] at h1; exact ⟨x, rfl, (Option.some.inj h1).symm⟩
  refine ⟨fun k x hx => ?_, va_D.addr (putAt_fst isC ws w' (fun j i x h1 h2 => ?_)) hD⟩
  · rcases putAt_get isC ws w' (hl1.trans hl2.symm) k x hx with ⟨j, h1, h2⟩ | ⟨h1, h2⟩
    · exact hP1 j x h2
    · have hlt := (hP k x h2).lt
      refine (hP k x h2).kept (hk x.1 hlt (fun hA => ?_))
      rcases hA with ⟨j, e, hj⟩ | hA
      · have hjl : j < isC.length := by rw [hl1]; exact (List.getElem?_eq_some_iff.mp hj).1
        obtain ⟨i, hi⟩ : ∃ i, isC[j]? = some i := ⟨isC[j], List.getElem?_eq_getElem hjl⟩
        obtain ⟨z, hz1, hz2⟩ := at' j i hi
        rw [hj] at hz1
        have hz3 := Option.some.inj hz1
        have hki := hD.1 k i x z h2 hz2 (by rw [← hz3])
        subst hki
        exact h1 (List.mem_of_getElem? hi)
      · omega
  · obtain ⟨z, hz1, hz2⟩ := at' j i h1
    have e1 : (w'.map Prod.fst)[j]? = some x.1 := by rw [List.getElem?_map, h2]; rfl
    rw [hw, List.getElem?_map, hz1] at e1
    rw [List.getElem?_map, hz2]
    exact e1
theorem W.callG {p : Program} {l : Launch} {e : Env} {R : Room} {s : State} {m : MethodId} {args : Array Value} {below : List Frame} {meth : Method} {c : Code} {H : Heap} {locs : List Loc} {cells slots : Nat} {Q : State → Prop} {pc : Nat} {ls : Array Slot} {rest st0 : List Value} {A0 : Nat → Prop} {H0 : Heap} {mc ms : Nat} {wc : va_W} {B : Option Value → va_W → State → Prop} {sz : Nat}
    (hr : va_Run p l e R s m args below meth c H locs cells slots mc ms (F0 m pc ls st0) rest (fun st oc t => (∃ (r : Option Value) (w' : va_W), oc = .returned r ∧ B r w' t) ∧ va_F (va_A wc sz) st t) (va_A wc sz)) (hsz : H.size = sz) (hS : va_S A0 H0 H locs) (hA : ∀ q, va_A wc H.size q → A0 q)
    (kk : ∀ (r : Option Value) (w' : va_W) (t : State) (H1 : Heap) (locs1 : List Loc), t.heap = H1 → B r w' t → H.size ≤ H1.size → (∀ q : Nat, q < H.size → ¬ va_A wc H.size q → H1[q]? = H[q]?) → va_S A0 H0 H1 locs1 → W p l e R s m args below meth c H1 locs1 (cells + mc) (slots + ms) Q (F0 m (pc + 3) ls (r.toList ++ rest))) : W p l e R s m args below meth c H locs cells slots Q (F0 m pc ls st0) := by
  subst hsz
  intro T hT X
  obtain ⟨v, st₀, t, T', L, h0, X', hL, e1, e2, ⟨⟨r, w', hv, hb⟩, hz, hk⟩, st⟩ := hr T hT X
  cases hv
  rw [h0] at hz hk
  obtain ⟨t2, a1, b1⟩ := kk v w' t T'.heap (locs ++ L) e1.symm hb (by rw [e1]; exact hz) (fun q h1 h2 => by rw [e1]; exact hk q h1 h2)
    ⟨Nat.le_trans hS.1 (by rw [e1]; exact hz), fun q h1 h2 => by rw [e1, hk q (Nat.lt_of_lt_of_le h1 hS.1) (fun z => h2 (hA q z))]; exact hS.2.1 q h1 h2, fun q hq => by
      rcases List.mem_append.mp hq with h | h
      · exact hS.2.2 q h
      · exact hA _ (hL q h)⟩ T' rfl X'
  exact ⟨t2, st t2 a1, b1⟩
theorem blindG {G : Gx} {As : List Value} {wc : va_W} {sz : Nat} : FrameBlind (va_Pc As (fun U => U.heap.size = sz ∧ va_P G.1 vwCl wc U.heap ∧ (va_K G.1 vwCl (tysOf G) U ∧ NW U) ∧ va_D (fun _ => True) wc)) := fun a U g mk q => by
  obtain ⟨q0, q1, qP, ⟨qK, qN⟩, qD⟩ := q
  exact ⟨q0, q1, qP, ⟨va_K.moved (u := U) (U := U.calling g mk a) (Vm.Alike.refl U.vm) qK, NW.same (u := U) (U := U.calling g mk a) rfl qN⟩, qD⟩
/-- what every call asks of the state -/
theorem preG {s : State} {H : Heap} {G : Gx} {As : List Value} {wc ws : va_W} {A0 : Nat → Prop} (hK : va_K G.1 vwCl (tysOf G) s) (hN : NW s) (hP : va_P G.1 vwCl ws H) (hD : va_D A0 ws) (isC : List Nat) (hnd : va_nd isC = true) (hC : isC.map (fun i => ws[i]?) = wc.map some) :
    ∀ U : State, U.heap = H → s.WarmedH U.vm → va_Pc As (fun U => U.heap.size = H.size ∧ va_P G.1 vwCl wc U.heap ∧ (va_K G.1 vwCl (tysOf G) U ∧ NW U) ∧ va_D (fun _ => True) wc) As.toArray U := fun U hU hW =>
  ⟨rfl, by rw [hU], by
    rw [hU]
    intro k x hx
    have h1 : (isC.map (fun i => ws[i]?))[k]? = some (some x) := by rw [hC, List.getElem?_map, hx]; rfl
    rw [List.getElem?_map] at h1
    cases hi : isC[k]? with
    | none => rw [hi] at h1; cases h1
    | some i => rw [hi] at h1; exact hP i x (Option.some.inj h1), ⟨va_K.moved hW.alike hK, hN.warm hW⟩, (hD.sub isC hnd hC).weaken (fun _ _ _ _ => trivial)⟩
abbrev ydOk (y : MethodName) (n : Nat) : Prop := y.cls ≠ "java/lang/invoke/MethodHandle" ∧ y.cls ≠ "java/lang/invoke/VarHandle" ∧ (parseMethodDescriptor y.desc).map (fun d => d.parameters.length) = some n
theorem V.callV {y : MethodName} {bytes : ByteArray} {maxL n' idx a ci N : Nat} {ret : Option FieldType} {wsy wsy' : List Cond} {rm : Room} {As st0 : List Value} {wc : va_W} {P : Option Value → va_W → Prop} {C : String} {T : u_T} {fs : List Value} (F : Fx X Y) (isC : List Nat) (q0 : Nat) (d : decode Y.1 pc = .ok (.invokevirtual idx, 3)) (hq : pc + 3 = q)
    (hC : Ct Y.2.2.2.2.2.1 Y.2.2.2.2.2.2 y wsy rm (.ref a :: As) wc P) (hG : GoodIn Y.2.2.2.1 (wsV Y.2.2.1 idx C y wsy)) (hwy : wsy = Cond.code y bytes maxL ret :: wsy') (hy : y.cls = C) (hd : ydOk y n') (hR : rm.frames + 1 ≤ Y.2.2.2.2.1.frames ∧ 8 + (maxL + 11) + rm.locals ≤ Y.2.2.2.2.1.locals)
    (hcl : vwCl[ci]? = some (C, T, N)) (hn : As.length = n') (hst : st0 = As.reverse ++ .ref a :: st) (he : ws[q0]? = some (a, .inr (ci, fs))) (hcat : (st.map fun v => v.category).sum ≤ 8) (hcells : isC.map (fun i => ws[i]?) = wc.map some) (hnd : va_nd isC = true) (hkn : k ≤ Y.2.2.2.2.1.cells ∧ n ≤ Y.2.2.2.2.1.slots)
    (kk : ∀ r w', P r w' → w'.map Prod.fst = wc.map Prod.fst → V X Y k n q lo (r.toList ++ st) (putAt ws isC w')) : V X Y k n pc lo st0 ws := by
  subst hq
  subst hst
  obtain ⟨p, e, s, m, args, below, meth, c, Q, A⟩ := X
  obtain ⟨cc, nL, own, Ts, R, l, G⟩ := Y
  obtain ⟨hx, hb, hml, hown, hts, hK, hN, hA⟩ := F
  intro H locs ls hls hP hD hS
  have hFc := va_free (wc := wc) hD hS hA isC hcells
  refine W.callG (B := fun r w' t => P r w' ∧ w'.map Prod.fst = wc.map Prod.fst ∧ va_P G.1 vwCl w' t.heap) (va_runV (As := As) (rest := st) ⟨hx, hb, hml, hown, hts⟩ (hC.2.2 H.size) (cwV n' hts hG hwy hC.1 hC.2.1 ⟨hy, hd⟩ hR) ⟨blindG, va_recv hK hP hcl he, preG hK hN hP hD isC hnd hcells⟩ rfl hn hls.1 rfl (lv_room hcat) d hkn) rfl hS hFc ?_
  rintro r w' t H1 locs1 ht ⟨hPr, hw, hP1⟩ hz hk hS1
  rw [ht] at hP1
  obtain ⟨hP2, hD2⟩ := putAt_join hP hD isC hcells hw hk hP1
  exact kk r w' hPr hw H1 locs1 ls hls hP2 hD2 hS1
theorem V.callS {y : MethodName} {bytes : ByteArray} {maxL n' idx : Nat} {ret : Option FieldType} {wsy wsy' : List Cond} {rm : Room} {As st0 : List Value} {wc : va_W} {P : Option Value → va_W → Prop} (F : Fx X Y) (isC : List Nat) (d : decode Y.1 pc = .ok (.invokestatic idx, 3)) (hq : pc + 3 = q)
    (hC : Ct Y.2.2.2.2.2.1 Y.2.2.2.2.2.2 y wsy rm As wc P) (hG : GoodIn Y.2.2.2.1 (va_wsS Y.2.2.1 idx y wsy)) (hwy : wsy = Cond.code y bytes maxL ret :: wsy') (hd : ydOk y n') (hR : rm.frames + 1 ≤ Y.2.2.2.2.1.frames ∧ 8 + (maxL + 11) + rm.locals ≤ Y.2.2.2.2.1.locals)
    (hn : As.length = n') (hst : st0 = As.reverse ++ st) (hcat : (st.map fun v => v.category).sum ≤ 8) (hcells : isC.map (fun i => ws[i]?) = wc.map some) (hnd : va_nd isC = true) (hkn : k ≤ Y.2.2.2.2.1.cells ∧ n ≤ Y.2.2.2.2.1.slots)
    (kk : ∀ r w', P r w' → w'.map Prod.fst = wc.map Prod.fst → V X Y k n q lo (r.toList ++ st) (putAt ws isC w')) : V X Y k n pc lo st0 ws := by
  subst hq
  subst hst
  obtain ⟨p, e, s, m, args, below, meth, c, Q, A⟩ := X
  obtain ⟨cc, nL, own, Ts, R, l, G⟩ := Y
  obtain ⟨hx, hb, hml, hown, hts, hK, hN, hA⟩ := F
  intro H locs ls hls hP hD hS
  have hFc := va_free (wc := wc) hD hS hA isC hcells
  refine W.callG (B := fun r w' t => P r w' ∧ w'.map Prod.fst = wc.map Prod.fst ∧ va_P G.1 vwCl w' t.heap) (va_runS (As := As) (rest := st) ⟨hx, hb, hml, hown, hts⟩ (hC.2.2 H.size) (va_cwS n' hts hG hwy hC.1 hC.2.1 hd hR) ⟨blindG, preG hK hN hP hD isC hnd hcells⟩ rfl hn hls.1 rfl (lv_room hcat) d hkn) rfl hS hFc ?_
  rintro r w' t H1 locs1 ht ⟨hPr, hw, hP1⟩ hz hk hS1
  rw [ht] at hP1
  obtain ⟨hP2, hD2⟩ := putAt_join hP hD isC hcells hw hk hP1
  exact kk r w' hPr hw H1 locs1 ls hls hP2 hD2 hS1
theorem V.callSN {y : MethodName} {host : String} {bytes : ByteArray} {maxL n' idx : Nat} {ret : Option FieldType} {wsy wsy' : List Cond} {rm : Room} {As st0 : List Value} {wc : va_W} {P : Option Value → va_W → Prop} (F : Fx X Y) (isC : List Nat) (d : decode Y.1 pc = .ok (.invokestatic idx, 3)) (hq : pc + 3 = q)
    (hC : Ct Y.2.2.2.2.2.1 Y.2.2.2.2.2.2 y wsy rm As wc P) (hG : GoodIn Y.2.2.2.1 wsy) (hwy : wsy = Cond.code y bytes maxL ret :: wsy') (hd : ydOk y n') (hR : rm.frames + 1 ≤ Y.2.2.2.2.1.frames ∧ 8 + (maxL + 11) + rm.locals ≤ Y.2.2.2.2.1.locals)
    (hnest : ∀ U, NW U → va_Nw (.methodLinkNest Y.2.2.1 idx y host) U) (hini : Cond.initialized y.cls ∈ Y.2.2.2.1) (hstat : Cond.static y ∈ Y.2.2.2.1)
    (hn : As.length = n') (hst : st0 = As.reverse ++ st) (hcat : (st.map fun v => v.category).sum ≤ 8) (hcells : isC.map (fun i => ws[i]?) = wc.map some) (hnd : va_nd isC = true) (hkn : k ≤ Y.2.2.2.2.1.cells ∧ n ≤ Y.2.2.2.2.1.slots)
    (kk : ∀ r w', P r w' → w'.map Prod.fst = wc.map Prod.fst → V X Y k n q lo (r.toList ++ st) (putAt ws isC w')) : V X Y k n pc lo st0 ws := by
  subst hq
  subst hst
  obtain ⟨p, e, s, m, args, below, meth, c, Q, A⟩ := X
  obtain ⟨cc, nL, own, Ts, R, l, G⟩ := Y
  obtain ⟨hx, hb, hml, hown, hts, hK, hN, hA⟩ := F
  intro H locs ls hls hP hD hS
  have hFc := va_free (wc := wc) hD hS hA isC hcells
  refine W.callG (B := fun r w' t => P r w' ∧ w'.map Prod.fst = wc.map Prod.fst ∧ va_P G.1 vwCl w' t.heap) (va_runSN (As := As) (rest := st) ⟨hx, hb, hml, hown, hts⟩ (hC.2.2 H.size) ⟨va_cnB n' hts hG hwy hC.1 hC.2.1 (hnest s hN) (hts _ hini) hd hR, hts _ hstat, trivial⟩ ⟨blindG, preG hK hN hP hD isC hnd hcells⟩ rfl hn hls.1 rfl (lv_room hcat) d hkn) rfl hS hFc ?_
  rintro r w' t H1 locs1 ht ⟨hPr, hw, hP1⟩ hz hk hS1
  rw [ht] at hP1
  obtain ⟨hP2, hD2⟩ := putAt_join hP hD isC hcells hw hk hP1
  exact kk r w' hPr hw H1 locs1 ls hls hP2 hD2 hS1
/-- a contract whose answer and world are told outright -/
def Fn (r : Option Value) (w : va_W) : Option Value → va_W → Prop := fun r' w' => r' = r ∧ w' = w
theorem kkf {r : Option Value} {wc wc' : va_W} {st st' : List Value} {isC : List Nat} (hst' : r.toList ++ st = st') (hws' : putAt ws isC wc' = ws') (kk : V X Y k n q lo st' ws') : ∀ r' w', Fn r wc' r' w' → w'.map Prod.fst = wc.map Prod.fst → V X Y k n q lo (r'.toList ++ st) (putAt ws isC w') := by
  rintro r' w' ⟨rfl, rfl⟩ -
  subst hst'; subst hws'
  exact kk
theorem V.mmax {a b : Int} {idx : Nat} (F : Fx X Y) (d : decode Y.1 pc = .ok (.invokestatic idx, 3)) (hq : pc + 3 = q) (w1 : Cond.methodLink Y.2.2.1 idx Lib.Math.max.name ∈ Y.2.2.2.1) (w2 : Cond.static Lib.Math.max.name ∈ Y.2.2.2.1) (w3 : Cond.initialized "java/lang/Math" ∈ Y.2.2.2.1) (w4 : Cond.code Lib.Math.max.name Lib.Math.max.code 2 (some .int) ∈ Y.2.2.2.1)
    (hfr : 1 ≤ Y.2.2.2.2.1.frames) (hlo : (st.map fun v => v.category).sum + 13 ≤ Y.2.2.2.2.1.locals) (hkn : k ≤ Y.2.2.2.2.1.cells ∧ n ≤ Y.2.2.2.2.1.slots) (rg : -2147483648 ≤ a ∧ a < 2147483648 ∧ -2147483648 ≤ b ∧ b < 2147483648)
    (kk : V X Y k n q lo (.int (zI (if a < b then b else a)) :: st) ws) : V X Y k n pc lo (.int (zI b) :: .int (zI a) :: st) ws := by
  subst hq
  obtain ⟨p, e, s, m, args, below, meth, c, Q, A⟩ := X
  obtain ⟨cc, nL, own, Ts, R, l, G⟩ := Y
  obtain ⟨hx, hb, hml, hown, hts, hK, hN, hA⟩ := F
  intro H locs ls hls hP hD hS
  refine va_mmax hx hb (hml.trans hls.1.symm) hown (hts _ w1) (hts _ w2) (hts _ w3) (hts _ w4) hfr hlo hkn.1 hkn.2 d ?_
  have e : (if zI a < zI b then zI b else zI a) = zI (if a < b then b else a) := by
    by_cases h : a < b
    · rw [if_pos h, if_pos ((zI_lt rg).mpr h)]
    · rw [if_neg h, if_neg (fun z => h ((zI_lt rg).mp z))]
  rw [e]
  exact kk H locs ls hls hP hD hS
theorem V.mabs {a : Int} {idx : Nat} (F : Fx X Y) (d : decode Y.1 pc = .ok (.invokestatic idx, 3)) (hq : pc + 3 = q) (w1 : Cond.methodLink Y.2.2.1 idx Lib.Math.abs.name ∈ Y.2.2.2.1) (w2 : Cond.static Lib.Math.abs.name ∈ Y.2.2.2.1) (w3 : Cond.initialized "java/lang/Math" ∈ Y.2.2.2.1) (w4 : Cond.code Lib.Math.abs.name Lib.Math.abs.code 1 (some .int) ∈ Y.2.2.2.1)
    (hfr : 1 ≤ Y.2.2.2.2.1.frames) (hlo : (st.map fun v => v.category).sum + 13 ≤ Y.2.2.2.2.1.locals) (hkn : k ≤ Y.2.2.2.2.1.cells ∧ n ≤ Y.2.2.2.2.1.slots) (rg : -2147483648 ≤ a ∧ a < 2147483648)
    (kk : V X Y k n q lo (.int (zI (if 0 ≤ a then a else -a)) :: st) ws) : V X Y k n pc lo (.int (zI a) :: st) ws := by
  subst hq
  obtain ⟨p, e, s, m, args, below, meth, c, Q, A⟩ := X
  obtain ⟨cc, nL, own, Ts, R, l, G⟩ := Y
  obtain ⟨hx, hb, hml, hown, hts, hK, hN, hA⟩ := F
  intro H locs ls hls hP hD hS
  refine va_mabs hx hb (hml.trans hls.1.symm) hown (hts _ w1) (hts _ w2) (hts _ w3) (hts _ w4) hfr hlo hkn.1 hkn.2 d ?_
  have e : (if 0 ≤ zI a then zI a else 0 - zI a) = zI (if 0 ≤ a then a else -a) := by
    have e1 : (0 : Int32) ≤ zI a ↔ 0 ≤ a := by rw [← zI_0]; exact zI_le ⟨by omega, by omega, rg.1, rg.2⟩
    by_cases h : 0 ≤ a
    · rw [if_pos h, if_pos (e1.mpr h)]
    · rw [if_neg h, if_neg (fun z => h (e1.mp z)), ← zI_0, zI_sub]
      congr 1; omega
  rw [e]
  exact kk H locs ls hls hP hD hS
/-- a stretch of one row copied into another -/
def cpz (f g : Int → Int) (sp dp n : Int) : Int → Int := fun j => if dp ≤ j ∧ j < dp + n then f (sp + (j - dp)) else g j
theorem ia_cpy {f g : Int → Int} {sp dp n : Int} (h1 : 0 ≤ sp) (h2 : 0 ≤ dp) (h3 : 0 ≤ n) : va_cpy (ia f) (ia g) sp.toNat dp.toNat n.toNat = ia (cpz f g sp dp n) := by
  funext j
  simp only [va_cpy, ia, cpz]
  by_cases h : dp.toNat ≤ j ∧ j < dp.toNat + n.toNat
  · rw [if_pos h, if_pos (by omega)]
    congr 2; omega
  · rw [if_neg h, if_neg (by omega)]
theorem V.copyi (F : Fx X Y) (q0 q1 : Nat) {a a0 n0 n1 idx : Nat} {f g : Int → Int} {sp dp nn : Int} (d : decode Y.1 pc = .ok (.invokestatic idx, 3)) (hq : pc + 3 = q) (w1 : Cond.methodLink Y.2.2.1 idx arraycopyName ∈ Y.2.2.2.1) (w2 : Cond.native arraycopyName ∈ Y.2.2.2.1) (w3 : Cond.static arraycopyName ∈ Y.2.2.2.1) (w4 : Cond.initialized "java/lang/System" ∈ Y.2.2.2.1)
    (he0 : ws[q0]? = some (a0, aI Y.2.2.2.2.2.2 n0 f)) (he1 : ws[q1]? = some (a, aI Y.2.2.2.2.2.2 n1 g)) (rg : (0 ≤ sp ∧ 0 ≤ dp ∧ 0 ≤ nn) ∧ (sp + nn ≤ (n0 : Int) ∧ dp + nn ≤ (n1 : Int)) ∧ ((n0 : Int) < 2147483648 ∧ (n1 : Int) < 2147483648))
    (hfr : 1 ≤ Y.2.2.2.2.1.frames) (hlo : (st.map fun v => v.category).sum + (nativeFrameWords "java/lang/System" "arraycopy" 5 + 11) ≤ Y.2.2.2.2.1.locals) (hws : ws.set q1 (a, aI Y.2.2.2.2.2.2 n1 (cpz f g sp dp nn)) = ws')
    (kk : V X Y k n q lo st ws') : V X Y k n pc lo (.int (zI nn) :: .int (zI dp) :: .ref a :: .int (zI sp) :: .ref a0 :: st) ws := by
  subst hq
  subst hws
  obtain ⟨p, e, s, m, args, below, meth, c, Q, A⟩ := X
  obtain ⟨cc, nL, own, Ts, R, l, G⟩ := Y
  obtain ⟨hx, hb, hml, hown, hts, hK, hN, hA⟩ := F
  obtain ⟨⟨g1, g2, g3⟩, ⟨g4, g5⟩, g6, g7⟩ := rg
  intro H locs ls hls hP hD hS
  have nn0 : ∀ z : Int, 0 ≤ z → z < 2147483648 → ¬ zI z < 0 := by
    intro z hz1 hz2
    rw [← zI_0, zI_lt ⟨by omega, hz2, by omega, by omega⟩]; omega
  have c1 := zI_clamp g1 (show sp < 2147483648 by omega)
  have c2 := zI_clamp g2 (show dp < 2147483648 by omega)
  have c3 := zI_clamp g3 (show nn < 2147483648 by omega)
  refine va_copyi hx hb (hml.trans hls.1.symm) hown (hts _ w1) (hts _ w2) (hts _ w3) (hts _ w4) hK hP hD hS q0 q1 0 0 he0 he1 rfl rfl rfl (nn0 sp g1 (by omega)) (nn0 dp g2 (by omega)) (nn0 nn g3 (by omega)) (by rw [c1, c3]; omega) (by rw [c2, c3]; omega) (fun _ _ => rfl) hfr hlo d (fun H1 locs1 hP hD hS => ?_)
  rw [c1, c2, c3, ia_cpy g1 g2 g3] at hP hD
  exact kk H1 locs1 ls hls hP hD hS
end VR

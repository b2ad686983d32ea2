/-! the law's own rules -/
theorem V.ishrR {X : Cx} {Y : Sx} {k n pc q : Nat} {lo : List (Option Value)} {st : List Value} {ws : va_W} (F : Fx X Y) {x y v : Int32} (d : decode Y.1 pc = .ok (.ishr, 1)) (hq : pc + 1 = q) (hv : x >>> (y &&& 31) = v) (kk : V X Y k n q lo (.int v :: st) ws) : V X Y k n pc lo (.int y :: .int x :: st) ws := by
  subst hq
  subst hv
  obtain ⟨p, e, s, m, args, below, meth, c, Q, A⟩ := X
  obtain ⟨cc, nL, own, Ts, R, l, G⟩ := Y
  obtain ⟨hx, hb, hml, hown, hts, hK, hN, hA⟩ := F
  intro H locs ls hls hP hD hS
  exact lv_ishr hx hb d (kk H locs ls hls hP hD hS)
theorem zI_shr {x : Int} (hx : -2147483648 ≤ x ∧ x < 2147483648) (D : Int32) (k : Nat) (m : Int) (hD : ((D &&& 31).toBitVec.smod 32).toNat = k) (hm : ((2 ^ k : Nat) : Int) = m) (hr : -2147483648 ≤ x / m ∧ x / m < 2147483648) : zI x >>> (D &&& 31) = zI (x / m) := by
  apply Int32.toInt_inj.mp
  have h1 : (zI x >>> (D &&& 31)).toInt = (zI x).toInt >>> k := by
    show ((zI x).toBitVec.sshiftRight ((D &&& 31).toBitVec.smod 32).toNat).toInt = _
    rw [hD, BitVec.toInt_sshiftRight]
    rfl
  rw [h1, zI_toInt hx.1 hx.2, zI_toInt hr.1 hr.2, Int.shiftRight_eq_div_pow, hm]
theorem zI_and1 (a : Int) : zI a &&& zI 1 = zI (a % 2) := by
  apply Int32.toBitVec_inj.mp
  rw [Int32.toBitVec_and]
  show BitVec.ofInt 32 a &&& BitVec.ofInt 32 1 = BitVec.ofInt 32 (a % 2)
  apply BitVec.eq_of_toNat_eq
  rw [BitVec.toNat_and, show (BitVec.ofInt 32 1).toNat = 2 ^ 1 - 1 by decide, Nat.and_two_pow_sub_one_eq_mod, BitVec.toNat_ofInt, BitVec.toNat_ofInt]
  omega
theorem zI_and3 (a : Int) : zI a &&& zI 3 = zI (a % 4) := by
  apply Int32.toBitVec_inj.mp
  rw [Int32.toBitVec_and]
  show BitVec.ofInt 32 a &&& BitVec.ofInt 32 3 = BitVec.ofInt 32 (a % 4)
  apply BitVec.eq_of_toNat_eq
  rw [BitVec.toNat_and, show (BitVec.ofInt 32 3).toNat = 2 ^ 2 - 1 by decide, Nat.and_two_pow_sub_one_eq_mod, BitVec.toNat_ofInt, BitVec.toNat_ofInt]
  omega
theorem zI_andm (a : Int) : zI a &&& zI 2147483647 = zI (a % 2147483648) := by
  apply Int32.toBitVec_inj.mp
  rw [Int32.toBitVec_and]
  show BitVec.ofInt 32 a &&& BitVec.ofInt 32 2147483647 = BitVec.ofInt 32 (a % 2147483648)
  apply BitVec.eq_of_toNat_eq
  rw [BitVec.toNat_and, show (BitVec.ofInt 32 2147483647).toNat = 2 ^ 31 - 1 by decide, Nat.and_two_pow_sub_one_eq_mod, BitVec.toNat_ofInt, BitVec.toNat_ofInt]
  omega
theorem cells_l {wA wB : va_W} {nA : Nat} (hl : wA.length = nA) : (List.range nA).map (fun i => (wA ++ wB)[i]?) = wA.map some := by
  apply List.ext_getElem?
  intro k
  rw [List.getElem?_map, List.getElem?_map]
  by_cases h : k < nA
  · rw [List.getElem?_range h]
    show some ((wA ++ wB)[k]?) = _
    rw [List.getElem?_append_left (by omega), List.getElem?_eq_getElem (by omega)]
    rfl
  · rw [List.getElem?_eq_none (by rw [List.length_range]; omega), List.getElem?_eq_none (l := wA) (by omega)]
    rfl
theorem cells_r {wA wB : va_W} {nA nB : Nat} (hl : wA.length = nA) (hr : wB.length = nB) : ((List.range nB).map (fun j => nA + j)).map (fun i => (wA ++ wB)[i]?) = wB.map some := by
  apply List.ext_getElem?
  intro k
  rw [List.getElem?_map, List.getElem?_map, List.getElem?_map]
  by_cases h : k < nB
  · rw [List.getElem?_range h]
    show some ((wA ++ wB)[nA + k]?) = _
    rw [List.getElem?_append_right (by omega), show nA + k - wA.length = k by omega, List.getElem?_eq_getElem (by omega)]
    rfl
  · rw [List.getElem?_eq_none (by rw [List.length_range]; omega), List.getElem?_eq_none (l := wB) (by omega)]
    rfl
theorem putAt_eq {ws w1 w' : va_W} {is : List Nat} (hlen : is.length = w'.length) (hf : (putAt ws is w').map Prod.fst = ws.map Prod.fst) (hl1 : w1.length = ws.length) (h1 : ∀ (j k : Nat), is[j]? = some k → w1[k]? = w'[j]?) (h2 : ∀ k, k ∉ is → w1[k]? = ws[k]?) : putAt ws is w' = w1 := by
  have hl : (putAt ws is w').length = ws.length := by
    have := congrArg List.length hf
    rwa [List.length_map, List.length_map] at this
  apply List.ext_getElem?
  intro k
  by_cases hk : k < ws.length
  · obtain ⟨x, hx⟩ : ∃ x, (putAt ws is w')[k]? = some x := ⟨_, List.getElem?_eq_getElem (by omega)⟩
    rw [hx]
    rcases putAt_get is ws w' hlen k x hx with ⟨j, hj1, hj2⟩ | ⟨h3, h4⟩
    · rw [h1 j k hj1, hj2]
    · rw [h2 k h3, h4]
  · rw [List.getElem?_eq_none (by omega), List.getElem?_eq_none (by omega)]
theorem putAt_l {wA wB w' : va_W} {nA : Nat} (hl : wA.length = nA) (hw : w'.map Prod.fst = wA.map Prod.fst) : putAt (wA ++ wB) (List.range nA) w' = w' ++ wB := by
  have hl' : w'.length = nA := by
    have := congrArg List.length hw
    rw [List.length_map, List.length_map] at this
    omega
  have e1 : ∀ (j k : Nat), (List.range nA)[j]? = some k → j = k ∧ k < nA := by
    intro j k h
    have hj : j < nA := by
      have := (List.getElem?_eq_some_iff.mp h).1
      rwa [List.length_range] at this
    rw [List.getElem?_range hj] at h
    exact ⟨Option.some.inj h, by have := Option.some.inj h; omega⟩
  refine putAt_eq (by rw [List.length_range]; omega) (putAt_fst _ _ _ (fun j i x h1 h2 => ?_)) (by rw [List.length_append, List.length_append]; omega) (fun j k h => ?_) (fun k h => ?_)
  · obtain ⟨rfl, h4⟩ := e1 j i h1
    rw [List.map_append, List.getElem?_append_left (by rw [List.length_map]; omega), ← hw, List.getElem?_map, h2]
    rfl
  · obtain ⟨rfl, h4⟩ := e1 j k h
    rw [List.getElem?_append_left (by omega)]
  · have hk : nA ≤ k := by
      rcases Nat.lt_or_ge k nA with g | g
      · exact absurd (List.mem_range.mpr g) h
      · exact g
    rw [List.getElem?_append_right (by omega), List.getElem?_append_right (by omega), hl, hl']
theorem putAt_r {wA wB w' : va_W} {nA nB : Nat} (hl : wA.length = nA) (hr : wB.length = nB) (hw : w'.map Prod.fst = wB.map Prod.fst) : putAt (wA ++ wB) ((List.range nB).map (fun j => nA + j)) w' = wA ++ w' := by
  have hl' : w'.length = nB := by
    have := congrArg List.length hw
    rw [List.length_map, List.length_map] at this
    omega
  have e1 : ∀ (j k : Nat), ((List.range nB).map (fun j => nA + j))[j]? = some k → k = nA + j ∧ j < nB := by
    intro j k h
    have hj : j < nB := by
      have := (List.getElem?_eq_some_iff.mp h).1
      rwa [List.length_map, List.length_range] at this
    rw [List.getElem?_map, List.getElem?_range hj] at h
    exact ⟨(Option.some.inj h).symm, hj⟩
  refine putAt_eq (by rw [List.length_map, List.length_range]; omega) (putAt_fst _ _ _ (fun j i x h1 h2 => ?_)) (by rw [List.length_append, List.length_append]; omega) (fun j k h => ?_) (fun k h => ?_)
  · obtain ⟨rfl, h4⟩ := e1 j i h1
    rw [List.map_append, List.getElem?_append_right (by rw [List.length_map]; omega), List.length_map, show nA + j - wA.length = j by omega, ← hw, List.getElem?_map, h2]
    rfl
  · obtain ⟨rfl, h4⟩ := e1 j k h
    rw [List.getElem?_append_right (by omega), show nA + j - wA.length = j by omega]
  · rcases Nat.lt_or_ge k nA with g | g
    · rw [List.getElem?_append_left (by omega), List.getElem?_append_left (by omega)]
    · have hk : nB ≤ k - nA := by
        rcases Nat.lt_or_ge (k - nA) nB with g2 | g2
        · exact absurd (List.mem_map.mpr ⟨k - nA, List.mem_range.mpr g2, by omega⟩) h
        · exact g2
      rw [List.getElem?_eq_none (by rw [List.length_append]; omega), List.getElem?_eq_none (by rw [List.length_append]; omega)]
section VSX
variable {X : Cx} {Y : Sx} {k n pc q : Nat} {lo lo' : List (Option Value)} {st : List Value} {wA wB : va_W}
theorem V.callX {y : MethodName} {bytes : ByteArray} {maxL n' idx a ci N : Nat} {ret : Option FieldType} {wsy wsy' : List Cond} {rm : Room} {As st0 : List Value} {P : Option Value → va_W → Prop} {C : String} {T : u_T} {fs : List Value} (F : Fx X Y) (nA : Nat) (hl : wA.length = nA) (hnd : va_nd (List.range nA) = true) (d : decode Y.1 pc = .ok (.invokevirtual idx, 3)) (hq : pc + 3 = q)
    (hC : Ct Y.2.2.2.2.2.1 Y.2.2.2.2.2.2 y wsy rm (.ref a :: As) wA P) (hG : GoodIn Y.2.2.2.1 (wsV Y.2.2.1 idx C y wsy)) (hwy : wsy = Cond.code y bytes maxL ret :: wsy') (hy : y.cls = C) (hd : ydOk y n') (hR : rm.frames + 1 ≤ Y.2.2.2.2.1.frames ∧ 8 + (maxL + 11) + rm.locals ≤ Y.2.2.2.2.1.locals)
    (hcl : vwCl[ci]? = some (C, T, N)) (hn : As.length = n') (hst : st0 = As.reverse ++ .ref a :: st) (he : wA[0]? = some (a, .inr (ci, fs))) (hcat : (st.map fun v => v.category).sum ≤ 8) (hkn : k ≤ Y.2.2.2.2.1.cells ∧ n ≤ Y.2.2.2.2.1.slots)
    (kk : ∀ r w', P r w' → V X Y k n q lo (r.toList ++ st) (w' ++ wB)) : V X Y k n pc lo st0 (wA ++ wB) :=
  V.callV F (List.range nA) 0 d hq hC hG hwy hy hd hR hcl hn hst (by rw [List.getElem?_append_left (List.getElem?_eq_some_iff.mp he).1]; exact he) hcat (cells_l hl) hnd hkn (fun r w' hp hw => by rw [putAt_l hl hw]; exact kk r w' hp)
theorem V.callSX {y : MethodName} {bytes : ByteArray} {maxL n' idx : Nat} {ret : Option FieldType} {wsy wsy' : List Cond} {rm : Room} {As st0 : List Value} {P : Option Value → va_W → Prop} (F : Fx X Y) (nA : Nat) (hl : wA.length = nA) (hnd : va_nd (List.range nA) = true) (d : decode Y.1 pc = .ok (.invokestatic idx, 3)) (hq : pc + 3 = q)
    (hC : Ct Y.2.2.2.2.2.1 Y.2.2.2.2.2.2 y wsy rm As wA P) (hG : GoodIn Y.2.2.2.1 (va_wsS Y.2.2.1 idx y wsy)) (hwy : wsy = Cond.code y bytes maxL ret :: wsy') (hd : ydOk y n') (hR : rm.frames + 1 ≤ Y.2.2.2.2.1.frames ∧ 8 + (maxL + 11) + rm.locals ≤ Y.2.2.2.2.1.locals)
    (hn : As.length = n') (hst : st0 = As.reverse ++ st) (hcat : (st.map fun v => v.category).sum ≤ 8) (hkn : k ≤ Y.2.2.2.2.1.cells ∧ n ≤ Y.2.2.2.2.1.slots)
    (kk : ∀ r w', P r w' → V X Y k n q lo (r.toList ++ st) (w' ++ wB)) : V X Y k n pc lo st0 (wA ++ wB) :=
  V.callS F (List.range nA) d hq hC hG hwy hd hR hn hst hcat (cells_l hl) hnd hkn (fun r w' hp hw => by rw [putAt_l hl hw]; exact kk r w' hp)
theorem V.callS0 {y : MethodName} {bytes : ByteArray} {maxL n' idx : Nat} {ret : Option FieldType} {wsy wsy' : List Cond} {rm : Room} {As st0 : List Value} {P : Option Value → va_W → Prop} (F : Fx X Y) (nA : Nat) (hl : wA.length = nA) (hnd : va_nd (List.range nA) = true) (d : decode Y.1 pc = .ok (.invokestatic idx, 3)) (hq : pc + 3 = q)
    (hC : Ct Y.2.2.2.2.2.1 Y.2.2.2.2.2.2 y wsy rm As wA P) (hG : GoodIn Y.2.2.2.1 (va_wsS Y.2.2.1 idx y wsy)) (hwy : wsy = Cond.code y bytes maxL ret :: wsy') (hd : ydOk y n') (hR : rm.frames + 1 ≤ Y.2.2.2.2.1.frames ∧ 8 + (maxL + 11) + rm.locals ≤ Y.2.2.2.2.1.locals)
    (hn : As.length = n') (hst : st0 = As.reverse ++ st) (hcat : (st.map fun v => v.category).sum ≤ 8) (hkn : k ≤ Y.2.2.2.2.1.cells ∧ n ≤ Y.2.2.2.2.1.slots)
    (kk : ∀ r w', P r w' → V X Y k n q lo (r.toList ++ st) w') : V X Y k n pc lo st0 wA := by
  have h := V.callSX (wB := []) F nA hl hnd d hq hC hG hwy hd hR hn hst hcat hkn (lo := lo) (fun r w' hp => by rw [List.append_nil]; exact kk r w' hp)
  rw [List.append_nil] at h
  exact h
end VSX
theorem nd27 : va_nd (List.range 27) = true := by decide +kernel
theorem nd28 : va_nd (List.range 28) = true := by decide +kernel
/-! ### more bounds -/
theorem mxz_rng {f : Int → Int} {c : Int} (hc : 0 ≤ c) : ∀ n : Nat, (∀ j : Int, 0 ≤ j → j < n → f j ≤ c) → 0 ≤ mxz f n ∧ mxz f n ≤ c
  | 0, _ => ⟨Int.le_refl 0, hc⟩
  | n + 1, h => by
    have ih := mxz_rng hc n (fun j h1 h2 => h j h1 (by omega))
    have h2 := h n (by omega) (by omega)
    rw [mxz]
    split <;> omega
theorem lonS_rng {a : Int → Int} (hI : Inv a) {r i : Int} (hr : 0 ≤ r ∧ r < 16) : 0 ≤ lonS a r i ∧ lonS a r i ≤ 100 := mxz_rng (by omega) _ (fun j h1 h2 => (hI.p (by omega) (by split at h2 <;> omega)).2)
theorem prevz_rng {a : Int → Int} (hI : Inv a) {r : Int} (hr : 0 ≤ r ∧ r < 16) : -5 ≤ prevz a r ∧ prevz a r < 16 := by
  have h := pvz_rng (f := fun d => hbz a r d 1 100) (c := 9999) (by omega) 16 (fun j h1 h2 => dirH_rng hI hr ⟨h1, by omega⟩)
  exact ⟨h.2.2.1, h.2.2.2⟩
theorem rNext_rng {a : Int → Int} (hI : Inv a) : -5 ≤ rNext a ∧ rNext a < 16 := by
  have h := pvz_rng (f := nxf a) (c := 1000000) (by omega) 16 (fun j h1 h2 => nxf_rng hI ⟨h1, by omega⟩)
  exact ⟨h.2.2.1, h.2.2.2⟩
theorem sumz_rng {a : Int → Int} {t c : Int} (hc : 0 ≤ c) (h : ∀ k, 0 ≤ k → k < 16 → 0 ≤ a (t + k) ∧ a (t + k) ≤ c) : 0 ≤ sumz a t ∧ sumz a t ≤ c * 16 := by
  have := sz_le (f := fun k => a (t + k)) (a := 0) (b := 16) (by omega) hc h
  unfold sumz
  omega
theorem pnad_o {a : Int → Int} : pnad a 16 = sz (fun r => if 0 < disz a r then 1 else 0) 0 16 := sz_congr (fun r _ _ => by
  by_cases hc : 0 < disz a r
  · rw [if_pos hc, if_pos ((dis_dif a r).mp hc)]
  · rw [if_neg hc, if_neg (fun z => hc ((dis_dif a r).mpr z))])
def EnX (A : Nat → Nat) (G : Gx) (N bb : Int) (sn t : Int → Int) (n : Int) : Option Value → va_W → Prop := fun r w => ∃ (κ : Scr) (a' R' : Int → Int) (o' s' : Int), r = some (.int (zI 1)) ∧ PI N a' o' s' ∧ w = WX A G a' o' s' R' bb sn t n κ
def DoX (A : Nat → Nat) (G : Gx) (wa : Nat) (N bb : Int) (sn t : Int → Int) (n : Int) : Option Value → va_W → Prop := fun r w => ∃ (κ : Scr) (a' R' wf' : Int → Int) (o' s' : Int), r = some (.int (zI 1)) ∧ PI N a' o' s' ∧ w = WX A G a' o' s' R' bb sn t n κ ++ [(wa, aI G 48 wf')]

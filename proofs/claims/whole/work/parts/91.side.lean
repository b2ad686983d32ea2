/-! the two worlds side by side -/
theorem cells_l {wA wB : va_W} {nA : Nat} (hl : wA.length = nA) : (List.range nA).map (fun i => (wA ++ wB)[i]?) = wA.map some := by
  apply List.ext_getElem?
  intro k
  rw [List.getElem?_map, List.getElem?_map]
  by_cases h : k < nA
  · rw [List.getElem?_range h]
    show some ((wA ++ wB)[k]?) = _
    rw [List.getElem?_append_left (by omega), List.getElem?_eq_getElem (by omega)]
    rfl
  · rw [List.getElem?_eq_none (by rw [List.length_range]; omega), List.getElem?_eq_none (l := wA) (by omega)]
    rfl
theorem cells_r {wA wB : va_W} {nA nB : Nat} (hl : wA.length = nA) (hr : wB.length = nB) : ((List.range nB).map (fun j => nA + j)).map (fun i => (wA ++ wB)[i]?) = wB.map some := by
  apply List.ext_getElem?
  intro k
  rw [List.getElem?_map, List.getElem?_map, List.getElem?_map]
  by_cases h : k < nB
  · rw [List.getElem?_range h]
    show some ((wA ++ wB)[nA + k]?) = _
    rw [List.getElem?_append_right (by omega), show nA + k - wA.length = k by omega, List.getElem?_eq_getElem (by omega)]
    rfl
  · rw [List.getElem?_eq_none (by rw [List.length_range]; omega), List.getElem?_eq_none (l := wB) (by omega)]
    rfl
theorem putAt_eq {ws w1 w' : va_W} {is : List Nat} (hlen : is.length = w'.length) (hf : (putAt ws is w').map Prod.fst = ws.map Prod.fst) (hl1 : w1.length = ws.length) (h1 : ∀ (j k : Nat), is[j]? = some k → w1[k]? = w'[j]?) (h2 : ∀ k, k ∉ is → w1[k]? = ws[k]?) : putAt ws is w' = w1 := by
  have hl : (putAt ws is w').length = ws.length := by
    have := congrArg List.length hf
    rwa [List.length_map, List.length_map] at this
  apply List.ext_getElem?
  intro k
  by_cases hk : k < ws.length
  · obtain ⟨x, hx⟩ : ∃ x, (putAt ws is w')[k]? = some x := ⟨_, List.getElem?_eq_getElem (by omega)⟩
    rw [hx]
    rcases putAt_get is ws w' hlen k x hx with ⟨j, hj1, hj2⟩ | ⟨h3, h4⟩
    · rw [h1 j k hj1, hj2]
    · rw [h2 k h3, h4]
  · rw [List.getElem?_eq_none (by omega), List.getElem?_eq_none (by omega)]
theorem putAt_l {wA wB w' : va_W} {nA : Nat} (hl : wA.length = nA) (hw : w'.map Prod.fst = wA.map Prod.fst) : putAt (wA ++ wB) (List.range nA) w' = w' ++ wB := by
  have hl' : w'.length = nA := by
    have := congrArg List.length hw
    rw [List.length_map, List.length_map] at this
    omega
  have e1 : ∀ (j k : Nat), (List.range nA)[j]? = some k → j = k ∧ k < nA := by
    intro j k h
    have hj : j < nA := by
      have := (List.getElem?_eq_some_iff.mp h).1
      rwa [List.length_range] at this
    rw [List.getElem?_range hj] at h
    exact ⟨Option.some.inj h, by have := Option.some.inj h; omega⟩
  refine putAt_eq (by rw [List.length_range]; omega) (putAt_fst _ _ _ (fun j i x h1 h2 => ?_)) (by rw [List.length_append, List.length_append]; omega) (fun j k h => ?_) (fun k h => ?_)
  · obtain ⟨rfl, h4⟩ := e1 j i h1
    rw [List.map_append, List.getElem?_append_left (by rw [List.length_map]; omega), ← hw, List.getElem?_map, h2]
    rfl
  · obtain ⟨rfl, h4⟩ := e1 j k h
    rw [List.getElem?_append_left (by omega)]
  · have hk : nA ≤ k := by
      rcases Nat.lt_or_ge k nA with g | g
      · exact absurd (List.mem_range.mpr g) h
      · exact g
    rw [List.getElem?_append_right (by omega), List.getElem?_append_right (by omega), hl, hl']
theorem putAt_r {wA wB w' : va_W} {nA nB : Nat} (hl : wA.length = nA) (hr : wB.length = nB) (hw : w'.map Prod.fst = wB.map Prod.fst) : putAt (wA ++ wB) ((List.range nB).map (fun j => nA + j)) w' = wA ++ w' := by
  have hl' : w'.length = nB := by
    have := congrArg List.length hw
    rw [List.length_map, List.length_map] at this
    omega
  have e1 : ∀ (j k : Nat), ((List.range nB).map (fun j => nA + j))[j]? = some k → k = nA + j ∧ j < nB := by
    intro j k h
    have hj : j < nB := by
      have := (List.getElem?_eq_some_iff.mp h).1
      rwa [List.length_map, List.length_range] at this
    rw [List.getElem?_map, List.getElem?_range hj] at h
    exact ⟨(Option.some.inj h).symm, hj⟩
  refine putAt_eq (by rw [List.length_map, List.length_range]; omega) (putAt_fst _ _ _ (fun j i x h1 h2 => ?_)) (by rw [List.length_append, List.length_append]; omega) (fun j k h => ?_) (fun k h => ?_)
  · obtain ⟨rfl, h4⟩ := e1 j i h1
    rw [List.map_append, List.getElem?_append_right (by rw [List.length_map]; omega), List.length_map, show nA + j - wA.length = j by omega, ← hw, List.getElem?_map, h2]
    rfl
  · obtain ⟨rfl, h4⟩ := e1 j k h
    rw [List.getElem?_append_right (by omega), show nA + j - wA.length = j by omega]
  · rcases Nat.lt_or_ge k nA with g | g
    · rw [List.getElem?_append_left (by omega), List.getElem?_append_left (by omega)]
    · have hk : nB ≤ k - nA := by
        rcases Nat.lt_or_ge (k - nA) nB with g2 | g2
        · exact absurd (List.mem_map.mpr ⟨k - nA, List.mem_range.mpr g2, by omega⟩) h
        · exact g2
      rw [List.getElem?_eq_none (by rw [List.length_append]; omega), List.getElem?_eq_none (by rw [List.length_append]; omega)]
section VXM
variable {X : Cx} {Y : Sx} {k n pc q : Nat} {lo lo' : List (Option Value)} {st : List Value} {wA wB : va_W}
theorem V.callX {y : MethodName} {bytes : ByteArray} {maxL n' idx a ci N : Nat} {ret : Option FieldType} {wsy wsy' : List Cond} {rm : Room} {As st0 : List Value} {P : Option Value → va_W → Prop} {C : String} {T : u_T} {fs : List Value} (F : Fx X Y) (nA : Nat) (hl : wA.length = nA) (hnd : va_nd (List.range nA) = true) (d : decode Y.1 pc = .ok (.invokevirtual idx, 3)) (hq : pc + 3 = q)
    (hC : Ct Y.2.2.2.2.2.1 Y.2.2.2.2.2.2 y wsy rm (.ref a :: As) wA P) (hG : GoodIn Y.2.2.2.1 (wsV Y.2.2.1 idx C y wsy)) (hwy : wsy = Cond.code y bytes maxL ret :: wsy') (hy : y.cls = C) (hd : ydOk y n') (hR : rm.frames + 1 ≤ Y.2.2.2.2.1.frames ∧ 8 + (maxL + 11) + rm.locals ≤ Y.2.2.2.2.1.locals)
    (hcl : vwCl[ci]? = some (C, T, N)) (hn : As.length = n') (hst : st0 = As.reverse ++ .ref a :: st) (he : wA[0]? = some (a, .inr (ci, fs))) (hcat : (st.map fun v => v.category).sum ≤ 8) (hkn : k ≤ Y.2.2.2.2.1.cells ∧ n ≤ Y.2.2.2.2.1.slots)
    (kk : ∀ r w', P r w' → V X Y k n q lo (r.toList ++ st) (w' ++ wB)) : V X Y k n pc lo st0 (wA ++ wB) :=
  V.callV F (List.range nA) 0 d hq hC hG hwy hy hd hR hcl hn hst (by rw [List.getElem?_append_left (List.getElem?_eq_some_iff.mp he).1]; exact he) hcat (cells_l hl) hnd hkn (fun r w' hp hw => by rw [putAt_l hl hw]; exact kk r w' hp)
theorem V.callM {y : MethodName} {bytes : ByteArray} {maxL n' idx a ci N : Nat} {ret : Option FieldType} {wsy wsy' : List Cond} {rm : Room} {As st0 : List Value} {P : Option Value → va_W → Prop} {C : String} {T : u_T} {fs : List Value} (F : Fx X Y) (nA nB : Nat) (hl : wA.length = nA) (hr : wB.length = nB) (hnd : va_nd ((List.range nB).map (fun j => nA + j)) = true) (d : decode Y.1 pc = .ok (.invokevirtual idx, 3)) (hq : pc + 3 = q)
    (hC : Ct Y.2.2.2.2.2.1 Y.2.2.2.2.2.2 y wsy rm (.ref a :: As) wB P) (hG : GoodIn Y.2.2.2.1 (wsV Y.2.2.1 idx C y wsy)) (hwy : wsy = Cond.code y bytes maxL ret :: wsy') (hy : y.cls = C) (hd : ydOk y n') (hR : rm.frames + 1 ≤ Y.2.2.2.2.1.frames ∧ 8 + (maxL + 11) + rm.locals ≤ Y.2.2.2.2.1.locals)
    (hcl : vwCl[ci]? = some (C, T, N)) (hn : As.length = n') (hst : st0 = As.reverse ++ .ref a :: st) (he : wB[0]? = some (a, .inr (ci, fs))) (hcat : (st.map fun v => v.category).sum ≤ 8) (hkn : k ≤ Y.2.2.2.2.1.cells ∧ n ≤ Y.2.2.2.2.1.slots)
    (kk : ∀ r w', P r w' → V X Y k n q lo (r.toList ++ st) (wA ++ w')) : V X Y k n pc lo st0 (wA ++ wB) :=
  V.callV F ((List.range nB).map (fun j => nA + j)) nA d hq hC hG hwy hy hd hR hcl hn hst (by rw [List.getElem?_append_right (by omega), hl, Nat.sub_self]; exact he) hcat (cells_r hl hr) hnd hkn (fun r w' hp hw => by rw [putAt_r hl hr hw]; exact kk r w' hp)
end VXM
theorem nd27 : va_nd (List.range 27) = true := by decide +kernel
theorem nd9 : va_nd ((List.range 9).map (fun j => 27 + j)) = true := by decide +kernel

/-! Desk: what its methods tell of a row a -/
def cel (r d s : Int) : Int := r * 1584 + d * 99 + s - 1
def hbz (a : Int → Int) (r d f e : Int) : Int := sz (fun s => a (r * 1584 + d * 99 + s - 1)) f e
def stg (a : Int → Int) (k : Int) : Int := a (26176 + k)
def phz (a : Int → Int) (r d k : Int) : Int := hbz a r d (if k = 0 then 1 else a (26176 + (k - 1))) (if k = 2 then 100 else a (26176 + k))
def clz (a : Int → Int) (r k : Int) : Int := sz (fun d => phz a r d k) 0 16
def spz (a : Int → Int) (r s : Int) : Int := sz (fun d => a (r * 1584 + d * 99 + s - 1)) 0 16
def allz (a : Int → Int) (r : Int) : Int := a (25344 + r) + a (25360 + r)
def cshz (a : Int → Int) (r : Int) : Int := if 0 < allz a r then 100 * a (25360 + r) / allz a r else 0
def sumz (a : Int → Int) (at_ : Int) : Int := sz (fun k => a (at_ + k)) 0 16
def addW (a : Int → Int) (r d s h : Int) : Int → Int := upz (upz a (r * 1584 + d * 99 + s - 1) (a (r * 1584 + d * 99 + s - 1) + h)) (25344 + r) ((upz a (r * 1584 + d * 99 + s - 1) (a (r * 1584 + d * 99 + s - 1) + h)) (25344 + r) + h)
def turnI (a : Int → Int) (r b i : Int) : Int → Int := fun j => if (r * 1584 ≤ j ∧ j < r * 1584 + 1584) ∧ ((j - r * 1584) / 99 - b) % 16 < i then a (r * 1584 + ((j - r * 1584) / 99 - b) % 16 * 99 + (j - r * 1584) % 99) else a j
theorem turnI_0 (a : Int → Int) (r b : Int) : turnI a r b 0 = a := by
  funext j
  unfold turnI
  rw [if_neg]
  omega
theorem turnI_s (a t : Int → Int) {r b i : Int} (hr : 0 ≤ r) (hb : 0 ≤ b ∧ b < 16) (hi : 0 ≤ i ∧ i < 16) : cpz (cpz a t (r * 1584) 0 1584) (turnI a r b i) (i * 99) (r * 1584 + (i + b) % 16 * 99) 99 = turnI a r b (i + 1) := by
  funext j
  unfold cpz turnI
  by_cases h : r * 1584 + (i + b) % 16 * 99 ≤ j ∧ j < r * 1584 + (i + b) % 16 * 99 + 99
  · rw [if_pos h, if_pos (by omega), if_pos (by omega)]
    congr 1
    omega
  · rw [if_neg h]
    by_cases h2 : (r * 1584 ≤ j ∧ j < r * 1584 + 1584) ∧ ((j - r * 1584) / 99 - b) % 16 < i
    · rw [if_pos h2, if_pos (by omega)]
    · rw [if_neg h2, if_neg (by omega)]
def petz (a : Int → Int) (r p : Int) : Int := a (25376 + r * 48 + p)
def cutz (a : Int → Int) (r : Int) : Int := sz (fun p => if 0 < a (25376 + r * 48 + p) then 1 else 0) 0 48
def mxz (f : Int → Int) : Nat → Int
  | 0 => 0
  | n + 1 => if mxz f n < f (n : Int) then f (n : Int) else mxz f n
def longz (a : Int → Int) (r : Int) : Int := mxz (fun p => a (25376 + r * 48 + p)) 48
def cutA (a : Int → Int) (r : Int) (sh : Int → Int) (n : Int) : Int → Int :=
  let a1 := cpz sh a 0 (25376 + r * 48) 48
  let a2 := upz a1 (26144 + r) (cshz a1 r)
  let a3 := upz a2 (26160 + r) (a2 (26160 + r) + n)
  upz a3 26179 (a3 26179 + 1)
def zeroI (a : Int → Int) (r i : Int) : Int → Int := fun j => if 25376 + r * 48 ≤ j ∧ j < 25376 + r * 48 + i then 0 else a j
theorem zeroI_0 (a : Int → Int) (r : Int) : zeroI a r 0 = a := by
  funext j
  unfold zeroI
  rw [if_neg (by omega)]
theorem zeroI_s (a : Int → Int) {r i : Int} (hi : 0 ≤ i) : upz (zeroI a r i) (25376 + r * 48 + i) 0 = zeroI a r (i + 1) := by
  funext j
  simp only [zeroI, upz]
  by_cases h : j = 25376 + r * 48 + i
  · rw [if_pos h, if_pos (by omega)]
  · rw [if_neg h]
    by_cases h2 : 25376 + r * 48 ≤ j ∧ j < 25376 + r * 48 + i
    · rw [if_pos h2, if_pos (by omega)]
    · rw [if_neg h2, if_neg (by omega)]
def newA (a : Int → Int) (r : Int) : Int → Int :=
  let a1 := upz (upz (zeroI a r 48) (26144 + r) 0) (26160 + r) 0
  upz a1 26180 (a1 26180 + 1)
theorem sz_cnt {f : Int → Int} {a b : Int} (hab : a ≤ b) (h : ∀ j : Int, a ≤ j → j < b → 0 ≤ f j ∧ f j ≤ 1) : 0 ≤ sz f a b ∧ sz f a b ≤ b - a := by
  have key : ∀ n : Nat, a + n ≤ b → 0 ≤ sz f a (a + n) ∧ sz f a (a + n) ≤ n := by
    intro n
    induction n with
    | zero => intro _; simp [sz_self]
    | succ n ih =>
      intro hn
      have e : a + ((n + 1 : Nat) : Int) = (a + n) + 1 := by omega
      have h1 := ih (by omega)
      have h2 := h (a + n) (by omega) (by omega)
      rw [e, sz_succ _ (by omega)]; omega
  have := key (b - a).toNat (by omega)
  rw [show a + ((b - a).toNat : Int) = b by omega] at this
  omega
theorem cutz_rng (a : Int → Int) (r : Int) : 0 ≤ cutz a r ∧ cutz a r ≤ 48 := by
  have := sz_cnt (f := fun p => if 0 < a (25376 + r * 48 + p) then 1 else 0) (a := 0) (b := 48) (by omega) (fun j _ _ => by split <;> omega)
  exact ⟨this.1, by unfold cutz; omega⟩
theorem sz_shift (f : Int → Int) (c a b : Int) : sz (fun s => f (c + s)) a b = sz f (c + a) (c + b) := by
  by_cases hab : a ≤ b
  · have key : ∀ n : Nat, sz (fun s => f (c + s)) a (a + n) = sz f (c + a) (c + (a + n)) := by
      intro n
      induction n with
      | zero => simp [sz_self]
      | succ n ih =>
        have e : a + ((n + 1 : Nat) : Int) = (a + n) + 1 := by omega
        rw [e, sz_succ _ (by omega), ih, show c + (a + n + 1) = (c + (a + n)) + 1 by omega, sz_succ _ (by omega)]
    have := key (b - a).toNat
    rw [show a + ((b - a).toNat : Int) = b by omega] at this
    exact this
  · rw [sz_nil _ (by omega), sz_nil _ (by omega)]
/-- what holds of a desk's row in every state -/
def Inv (a : Int → Int) : Prop := (∀ j, 0 ≤ a j) ∧ (∀ r, 0 ≤ r → r < 16 → a (25344 + r) = sz a (r * 1584) (r * 1584 + 1584) ∧ a (25344 + r) + a (25360 + r) ≤ 9999) ∧ (1 ≤ a 26176 ∧ a 26176 < a 26177 ∧ a 26177 ≤ 99 ∧ a 26178 ≤ 9) ∧ (∀ j, 25376 ≤ j → j < 26176 → a j ≤ 100)
theorem Inv.w {a : Int → Int} (h : Inv a) {r : Int} (hr : 0 ≤ r ∧ r < 16) : 0 ≤ a (25344 + r) ∧ 0 ≤ a (25360 + r) ∧ a (25344 + r) + a (25360 + r) ≤ 9999 := ⟨h.1 _, h.1 _, (h.2.1 r hr.1 hr.2).2⟩
theorem Inv.s {a : Int → Int} (h : Inv a) : 1 ≤ a 26176 ∧ a 26176 < a 26177 ∧ a 26177 ≤ 99 := ⟨h.2.2.1.1, h.2.2.1.2.1, h.2.2.1.2.2.1⟩
theorem Inv.p {a : Int → Int} (h : Inv a) {j : Int} (h1 : 25376 ≤ j) (h2 : j < 26176) : 0 ≤ a j ∧ a j ≤ 100 := ⟨h.1 j, h.2.2.2 j h1 h2⟩
theorem hbz_rng {a : Int → Int} (h : Inv a) {r d f e : Int} (hr : 0 ≤ r ∧ r < 16) (hd : 0 ≤ d ∧ d < 16) (hf : 1 ≤ f) (hfe : f ≤ e) (he : e ≤ 100) : 0 ≤ hbz a r d f e ∧ hbz a r d f e ≤ a (25344 + r) := by
  have e1 : hbz a r d f e = sz a (r * 1584 + d * 99 - 1 + f) (r * 1584 + d * 99 - 1 + e) := by
    unfold hbz
    rw [← sz_shift]
    exact sz_congr (fun j _ _ => by congr 1; omega)
  rw [e1, (h.2.1 r hr.1 hr.2).1]
  exact ⟨sz_nonneg (fun j _ _ => h.1 j), sz_mono (fun j _ _ => h.1 j) (by omega) (by omega) (by omega)⟩
theorem phz_rng {a : Int → Int} (h : Inv a) {r d k : Int} (hr : 0 ≤ r ∧ r < 16) (hd : 0 ≤ d ∧ d < 16) (hk : 0 ≤ k ∧ k ≤ 2) : 0 ≤ phz a r d k ∧ phz a r d k ≤ a (25344 + r) := by
  have hs := h.s
  rcases (show k = 0 ∨ k = 1 ∨ k = 2 by omega) with rfl | rfl | rfl
  · exact hbz_rng h hr hd (by simp) (by simp; omega) (by simp; omega)
  · exact hbz_rng h hr hd (by simp; omega) (by simp; omega) (by simp; omega)
  · exact hbz_rng h hr hd (by simp; omega) (by simp; omega) (by simp)

abbrev YX0_cellOf (l : Launch) (G : Gx) : Sx := (cX0_cellOf, 3, RX0, wsX0_cellOf, rmD 0, l, G)
theorem ydX0_cellOf : ydOk yX0_cellOf 3 := by decide +kernel
set_option maxHeartbeats 1000000 in
set_option maxRecDepth 20000 in
theorem c_X0_cellOf (l : Launch) (G : Gx)  (r d s : Int)  : Ct l G yX0_cellOf wsX0_cellOf (rmD 0) [.int (zI r), .int (zI d), .int (zI s)] [] (Fn (some (.int (zI (r * 1584 + d * 99 + s - 1)))) []) := by
  refine Ct.intro (cc := cX0_cellOf) (maxL := 3) (ret := (some .int)) (lo0 := [some (.int (zI r)), some (.int (zI d)), some (.int (zI s))]) (by decide +kernel) rfl ⟨rfl, rfl⟩ (Nat.le_of_ble_eq_true rfl) rfl ?_
  intro X F T
  change Fx X (YX0_cellOf l G) at F
  change V X (YX0_cellOf l G) 0 0 0 _ _ _
  refine V.iload_n (q := 1) F dX0_cellOf_0 rfl rfl rfl ?_
  refine V.sipush (q := 4) F dX0_cellOf_1 rfl (by decide) ?_
  refine V.imul (q := 5) F dX0_cellOf_4 rfl ?_
  refine V.iload_n (q := 6) F dX0_cellOf_5 rfl rfl rfl ?_
  refine V.bipush (q := 8) F dX0_cellOf_6 rfl (by decide) ?_
  refine V.imul (q := 9) F dX0_cellOf_8 rfl ?_
  refine V.iadd (q := 10) F dX0_cellOf_9 rfl ?_
  refine V.iload_n (q := 11) F dX0_cellOf_10 rfl rfl rfl ?_
  refine V.iadd (q := 12) F dX0_cellOf_11 rfl ?_
  refine V.iconst (q := 13) F dX0_cellOf_12 rfl ?_
  refine V.isub (q := 14) F dX0_cellOf_13 rfl ?_
  exact V.iret F T dX0_cellOf_14 (fnI rfl rfl) [] rfl rfl

abbrev YX0_hoursAt (l : Launch) (G : Gx) : Sx := (cX0_hoursAt, 4, RX0, wsX0_hoursAt, rmD 1, l, G)
theorem ydX0_hoursAt : ydOk yX0_hoursAt 3 := by decide +kernel
theorem inX0_hoursAt_X0 : ∀ w ∈ wsX00, w ∈ wsX0_hoursAt := fun _ h => List.mem_cons_of_mem _ (List.mem_append_right _ h)
set_option maxHeartbeats 1000000 in
set_option maxRecDepth 20000 in
theorem c_X0_hoursAt (l : Launch) (G : Gx) (hd hr ht : Nat) (a : Int → Int) (r d s : Int) (h1 : 0 ≤ r ∧ r < 16) (h2 : 0 ≤ d ∧ d < 16) (h3 : 1 ≤ s ∧ s ≤ 99) : Ct l G yX0_hoursAt wsX0_hoursAt (rmD 1) [.ref hd, .int (zI r), .int (zI d), .int (zI s)] [(hd, .inr (0, [.ref hr, .ref ht])), (hr, aI G 26181 a)] (Fn (some (.int (zI (a (r * 1584 + d * 99 + s - 1))))) [(hd, .inr (0, [.ref hr, .ref ht])), (hr, aI G 26181 a)]) := by
  refine Ct.intro (cc := cX0_hoursAt) (maxL := 4) (ret := (some .int)) (lo0 := [some (.ref hd), some (.int (zI r)), some (.int (zI d)), some (.int (zI s))]) (by decide +kernel) rfl ⟨rfl, rfl⟩ (Nat.le_of_ble_eq_true rfl) rfl ?_
  intro X F T
  change Fx X (YX0_hoursAt l G) at F
  change V X (YX0_hoursAt l G) 0 0 0 _ _ _
  refine V.aload_n (q := 1) F dX0_hoursAt_0 rfl rfl rfl ?_
  refine V.get (q := 4) F 0 0 dX0_hoursAt_1 rfl rfl rfl inX0_hoursAt_X0 (by decide) (List.mem_of_getElem? (i := 1) rfl) rfl ?_
  refine V.iload_n (q := 5) F dX0_hoursAt_4 rfl rfl rfl ?_
  refine V.iload_n (q := 6) F dX0_hoursAt_5 rfl rfl rfl ?_
  refine V.iload_n (q := 7) F dX0_hoursAt_6 rfl rfl rfl ?_
  refine V.callS (q := 10) F [] dX0_hoursAt_7 rfl (c_X0_cellOf l G  _ _ _ ) gX0_hoursAt_X0_cellOf rfl ydX0_cellOf ⟨Nat.le_of_ble_eq_true rfl, Nat.le_of_ble_eq_true rfl⟩ rfl rfl (Nat.le_of_ble_eq_true rfl) rfl rfl ⟨Nat.zero_le _, Nat.zero_le _⟩ (kkf (st' := [_, _]) (ws' := [_, _]) rfl rfl ?_)
  refine V.iald (q := 11) F 1 dX0_hoursAt_10 rfl rfl (by decide) (by omega) ?_
  exact V.iret F T dX0_hoursAt_11 (fnI rfl rfl) [hd, hr] rfl rfl

abbrev YX0_windyHours (l : Launch) (G : Gx) : Sx := (cX0_windyHours, 2, RX0, wsX0_windyHours, rmD 0, l, G)
theorem ydX0_windyHours : ydOk yX0_windyHours 1 := by decide +kernel
theorem inX0_windyHours_X0 : ∀ w ∈ wsX00, w ∈ wsX0_windyHours := fun _ h => List.mem_cons_of_mem _ (List.mem_append_right _ h)
set_option maxHeartbeats 1000000 in
set_option maxRecDepth 20000 in
theorem c_X0_windyHours (l : Launch) (G : Gx) (hd hr ht : Nat) (a : Int → Int) (r : Int) (h1 : 0 ≤ r ∧ r < 16) : Ct l G yX0_windyHours wsX0_windyHours (rmD 0) [.ref hd, .int (zI r)] [(hd, .inr (0, [.ref hr, .ref ht])), (hr, aI G 26181 a)] (Fn (some (.int (zI (a (25344 + r))))) [(hd, .inr (0, [.ref hr, .ref ht])), (hr, aI G 26181 a)]) := by
  refine Ct.intro (cc := cX0_windyHours) (maxL := 2) (ret := (some .int)) (lo0 := [some (.ref hd), some (.int (zI r))]) (by decide +kernel) rfl ⟨rfl, rfl⟩ (Nat.le_of_ble_eq_true rfl) rfl ?_
  intro X F T
  change Fx X (YX0_windyHours l G) at F
  change V X (YX0_windyHours l G) 0 0 0 _ _ _
  refine V.aload_n (q := 1) F dX0_windyHours_0 rfl rfl rfl ?_
  refine V.get (q := 4) F 0 0 dX0_windyHours_1 rfl rfl rfl inX0_windyHours_X0 (by decide) (List.mem_of_getElem? (i := 1) rfl) rfl ?_
  refine V.sipush (q := 7) F dX0_windyHours_4 rfl (by decide) ?_
  refine V.iload_n (q := 8) F dX0_windyHours_7 rfl rfl rfl ?_
  refine V.iadd (q := 9) F dX0_windyHours_8 rfl ?_
  refine V.iald (q := 10) F 1 dX0_windyHours_9 rfl rfl (by decide) (by omega) ?_
  exact V.iret F T dX0_windyHours_10 (fnI rfl rfl) [hd, hr] rfl rfl

abbrev YX0_calmHours (l : Launch) (G : Gx) : Sx := (cX0_calmHours, 2, RX0, wsX0_calmHours, rmD 0, l, G)
theorem ydX0_calmHours : ydOk yX0_calmHours 1 := by decide +kernel
theorem inX0_calmHours_X0 : ∀ w ∈ wsX00, w ∈ wsX0_calmHours := fun _ h => List.mem_cons_of_mem _ (List.mem_append_right _ h)
set_option maxHeartbeats 1000000 in
set_option maxRecDepth 20000 in
theorem c_X0_calmHours (l : Launch) (G : Gx) (hd hr ht : Nat) (a : Int → Int) (r : Int) (h1 : 0 ≤ r ∧ r < 16) : Ct l G yX0_calmHours wsX0_calmHours (rmD 0) [.ref hd, .int (zI r)] [(hd, .inr (0, [.ref hr, .ref ht])), (hr, aI G 26181 a)] (Fn (some (.int (zI (a (25360 + r))))) [(hd, .inr (0, [.ref hr, .ref ht])), (hr, aI G 26181 a)]) := by
  refine Ct.intro (cc := cX0_calmHours) (maxL := 2) (ret := (some .int)) (lo0 := [some (.ref hd), some (.int (zI r))]) (by decide +kernel) rfl ⟨rfl, rfl⟩ (Nat.le_of_ble_eq_true rfl) rfl ?_
  intro X F T
  change Fx X (YX0_calmHours l G) at F
  change V X (YX0_calmHours l G) 0 0 0 _ _ _
  refine V.aload_n (q := 1) F dX0_calmHours_0 rfl rfl rfl ?_
  refine V.get (q := 4) F 0 0 dX0_calmHours_1 rfl rfl rfl inX0_calmHours_X0 (by decide) (List.mem_of_getElem? (i := 1) rfl) rfl ?_
  refine V.sipush (q := 7) F dX0_calmHours_4 rfl (by decide) ?_
  refine V.iload_n (q := 8) F dX0_calmHours_7 rfl rfl rfl ?_
  refine V.iadd (q := 9) F dX0_calmHours_8 rfl ?_
  refine V.iald (q := 10) F 1 dX0_calmHours_9 rfl rfl (by decide) (by omega) ?_
  exact V.iret F T dX0_calmHours_10 (fnI rfl rfl) [hd, hr] rfl rfl

abbrev YX0_allHours (l : Launch) (G : Gx) : Sx := (cX0_allHours, 2, RX0, wsX0_allHours, rmD 1, l, G)
theorem ydX0_allHours : ydOk yX0_allHours 1 := by decide +kernel
set_option maxHeartbeats 1000000 in
set_option maxRecDepth 20000 in
theorem c_X0_allHours (l : Launch) (G : Gx) (hd hr ht : Nat) (a : Int → Int) (r : Int) (h1 : 0 ≤ r ∧ r < 16) : Ct l G yX0_allHours wsX0_allHours (rmD 1) [.ref hd, .int (zI r)] [(hd, .inr (0, [.ref hr, .ref ht])), (hr, aI G 26181 a)] (Fn (some (.int (zI (a (25344 + r) + a (25360 + r))))) [(hd, .inr (0, [.ref hr, .ref ht])), (hr, aI G 26181 a)]) := by
  refine Ct.intro (cc := cX0_allHours) (maxL := 2) (ret := (some .int)) (lo0 := [some (.ref hd), some (.int (zI r))]) (by decide +kernel) rfl ⟨rfl, rfl⟩ (Nat.le_of_ble_eq_true rfl) rfl ?_
  intro X F T
  change Fx X (YX0_allHours l G) at F
  change V X (YX0_allHours l G) 0 0 0 _ _ _
  refine V.aload_n (q := 1) F dX0_allHours_0 rfl rfl rfl ?_
  refine V.iload_n (q := 2) F dX0_allHours_1 rfl rfl rfl ?_
  refine V.callV (q := 5) F [0, 1] 0 dX0_allHours_2 rfl (c_X0_windyHours l G hd hr ht _ _ (by omega)) gX0_allHours_X0_windyHours rfl rfl ydX0_windyHours ⟨Nat.le_of_ble_eq_true rfl, Nat.le_of_ble_eq_true rfl⟩ (ci := 0) rfl rfl rfl rfl (Nat.le_of_ble_eq_true rfl) rfl rfl ⟨Nat.zero_le _, Nat.zero_le _⟩ (kkf (st' := [_]) (ws' := [_, _]) rfl rfl ?_)
  refine V.aload_n (q := 6) F dX0_allHours_5 rfl rfl rfl ?_
  refine V.iload_n (q := 7) F dX0_allHours_6 rfl rfl rfl ?_
  refine V.callV (q := 10) F [0, 1] 0 dX0_allHours_7 rfl (c_X0_calmHours l G hd hr ht _ _ (by omega)) gX0_allHours_X0_calmHours rfl rfl ydX0_calmHours ⟨Nat.le_of_ble_eq_true rfl, Nat.le_of_ble_eq_true rfl⟩ (ci := 0) rfl rfl rfl rfl (Nat.le_of_ble_eq_true rfl) rfl rfl ⟨Nat.zero_le _, Nat.zero_le _⟩ (kkf (st' := [_, _]) (ws' := [_, _]) rfl rfl ?_)
  refine V.iadd (q := 11) F dX0_allHours_10 rfl ?_
  exact V.iret F T dX0_allHours_11 (fnI rfl rfl) [hd, hr] rfl rfl

abbrev YX0_hasRoom (l : Launch) (G : Gx) : Sx := (cX0_hasRoom, 3, RX0, wsX0_hasRoom, rmD 2, l, G)
theorem ydX0_hasRoom : ydOk yX0_hasRoom 2 := by decide +kernel
set_option maxHeartbeats 1000000 in
set_option maxRecDepth 20000 in
theorem c_X0_hasRoom (l : Launch) (G : Gx) (hd hr ht : Nat) (a : Int → Int) (r h : Int) (h1 : 0 ≤ r ∧ r < 16) (hw : 0 ≤ a (25344 + r) ∧ 0 ≤ a (25360 + r) ∧ a (25344 + r) + a (25360 + r) ≤ 9999) (hh : 0 ≤ h ∧ h ≤ 100000) : Ct l G yX0_hasRoom wsX0_hasRoom (rmD 2) [.ref hd, .int (zI r), .int (zI h)] [(hd, .inr (0, [.ref hr, .ref ht])), (hr, aI G 26181 a)] (Fn (some (.int (zI (if a (25344 + r) + a (25360 + r) + h ≤ 9999 then 1 else 0)))) [(hd, .inr (0, [.ref hr, .ref ht])), (hr, aI G 26181 a)]) := by
  refine Ct.intro (cc := cX0_hasRoom) (maxL := 3) (ret := (some .boolean)) (lo0 := [some (.ref hd), some (.int (zI r)), some (.int (zI h))]) (by decide +kernel) rfl ⟨rfl, rfl⟩ (Nat.le_of_ble_eq_true rfl) rfl ?_
  intro X F T
  change Fx X (YX0_hasRoom l G) at F
  change V X (YX0_hasRoom l G) 0 0 0 _ _ _
  refine V.aload_n (q := 1) F dX0_hasRoom_0 rfl rfl rfl ?_
  refine V.iload_n (q := 2) F dX0_hasRoom_1 rfl rfl rfl ?_
  refine V.callV (q := 5) F [0, 1] 0 dX0_hasRoom_2 rfl (c_X0_allHours l G hd hr ht _ _ (by omega)) gX0_hasRoom_X0_allHours rfl rfl ydX0_allHours ⟨Nat.le_of_ble_eq_true rfl, Nat.le_of_ble_eq_true rfl⟩ (ci := 0) rfl rfl rfl rfl (Nat.le_of_ble_eq_true rfl) rfl rfl ⟨Nat.zero_le _, Nat.zero_le _⟩ (kkf (st' := [_]) (ws' := [_, _]) rfl rfl ?_)
  refine V.iload_n (q := 6) F dX0_hasRoom_5 rfl rfl rfl ?_
  refine V.iadd (q := 7) F dX0_hasRoom_6 rfl ?_
  refine V.sipush (q := 10) F dX0_hasRoom_7 rfl (by decide) ?_
  refine V.icmp_gt (q := 13) (tgt := 17) F dX0_hasRoom_10 rfl (by decide) (by omega) (fun k10 => ?_) (fun k10 => ?_)
  · refine V.iconst (q := 18) F dX0_hasRoom_17 rfl ?_
    exact V.zret F T (by omega) dX0_hasRoom_18 (fnI (by omega) rfl) [hd, hr] rfl rfl
  · refine V.iconst (q := 14) F dX0_hasRoom_13 rfl ?_
    refine V.goto (tgt := 18) F dX0_hasRoom_14 (by decide) ?_
    exact V.zret F T (by omega) dX0_hasRoom_18 (fnI (by omega) rfl) [hd, hr] rfl rfl

abbrev YX0_addWindy (l : Launch) (G : Gx) : Sx := (cX0_addWindy, 5, RX0, wsX0_addWindy, rmD 1, l, G)
theorem ydX0_addWindy : ydOk yX0_addWindy 4 := by decide +kernel
theorem inX0_addWindy_X0 : ∀ w ∈ wsX00, w ∈ wsX0_addWindy := fun _ h => List.mem_cons_of_mem _ (List.mem_append_right _ h)
set_option maxHeartbeats 1000000 in
set_option maxRecDepth 20000 in
theorem c_X0_addWindy (l : Launch) (G : Gx) (hd hr ht : Nat) (a : Int → Int) (r d s h : Int) (h1 : 0 ≤ r ∧ r < 16) (h2 : 0 ≤ d ∧ d < 16) (h3 : 1 ≤ s ∧ s ≤ 99) : Ct l G yX0_addWindy wsX0_addWindy (rmD 1) [.ref hd, .int (zI r), .int (zI d), .int (zI s), .int (zI h)] [(hd, .inr (0, [.ref hr, .ref ht])), (hr, aI G 26181 a)] (Fn none [(hd, .inr (0, [.ref hr, .ref ht])), (hr, aI G 26181 (addW a r d s h))]) := by
  refine Ct.intro (cc := cX0_addWindy) (maxL := 5) (ret := none) (lo0 := [some (.ref hd), some (.int (zI r)), some (.int (zI d)), some (.int (zI s)), some (.int (zI h))]) (by decide +kernel) rfl ⟨rfl, rfl⟩ (Nat.le_of_ble_eq_true rfl) rfl ?_
  intro X F T
  change Fx X (YX0_addWindy l G) at F
  change V X (YX0_addWindy l G) 0 0 0 _ _ _
  refine V.aload_n (q := 1) F dX0_addWindy_0 rfl rfl rfl ?_
  refine V.get (q := 4) F 0 0 dX0_addWindy_1 rfl rfl rfl inX0_addWindy_X0 (by decide) (List.mem_of_getElem? (i := 1) rfl) rfl ?_
  refine V.iload_n (q := 5) F dX0_addWindy_4 rfl rfl rfl ?_
  refine V.iload_n (q := 6) F dX0_addWindy_5 rfl rfl rfl ?_
  refine V.iload_n (q := 7) F dX0_addWindy_6 rfl rfl rfl ?_
  refine V.callS (q := 10) F [] dX0_addWindy_7 rfl (c_X0_cellOf l G  _ _ _ ) gX0_addWindy_X0_cellOf rfl ydX0_cellOf ⟨Nat.le_of_ble_eq_true rfl, Nat.le_of_ble_eq_true rfl⟩ rfl rfl (Nat.le_of_ble_eq_true rfl) rfl rfl ⟨Nat.zero_le _, Nat.zero_le _⟩ (kkf (st' := [_, _]) (ws' := [_, _]) rfl rfl ?_)
  refine V.dup2 (q := 11) F dX0_addWindy_10 rfl rfl rfl ?_
  refine V.iald (q := 12) F 1 dX0_addWindy_11 rfl rfl (by decide) (by omega) ?_
  refine V.iload (q := 14) F dX0_addWindy_12 rfl rfl ?_
  refine V.iadd (q := 15) F dX0_addWindy_14 rfl ?_
  refine V.iast (q := 16) (ws' := [_, _]) F 1 dX0_addWindy_15 rfl rfl (by decide) (by omega) rfl ?_
  refine V.aload_n (q := 17) F dX0_addWindy_16 rfl rfl rfl ?_
  refine V.get (q := 20) F 0 0 dX0_addWindy_17 rfl rfl rfl inX0_addWindy_X0 (by decide) (List.mem_of_getElem? (i := 1) rfl) rfl ?_
  refine V.sipush (q := 23) F dX0_addWindy_20 rfl (by decide) ?_
  refine V.iload_n (q := 24) F dX0_addWindy_23 rfl rfl rfl ?_
  refine V.iadd (q := 25) F dX0_addWindy_24 rfl ?_
  refine V.dup2 (q := 26) F dX0_addWindy_25 rfl rfl rfl ?_
  refine V.iald (q := 27) F 1 dX0_addWindy_26 rfl rfl (by decide) (by omega) ?_
  refine V.iload (q := 29) F dX0_addWindy_27 rfl rfl ?_
  refine V.iadd (q := 30) F dX0_addWindy_29 rfl ?_
  refine V.iast (q := 31) (ws' := [_, _]) F 1 dX0_addWindy_30 rfl rfl (by decide) (by omega) rfl ?_
  exact V.vret F T dX0_addWindy_31 ⟨rfl, rfl⟩ [hd, hr] rfl rfl

abbrev YX0_addCalm (l : Launch) (G : Gx) : Sx := (cX0_addCalm, 3, RX0, wsX0_addCalm, rmD 0, l, G)
theorem ydX0_addCalm : ydOk yX0_addCalm 2 := by decide +kernel
theorem inX0_addCalm_X0 : ∀ w ∈ wsX00, w ∈ wsX0_addCalm := fun _ h => List.mem_cons_of_mem _ (List.mem_append_right _ h)
set_option maxHeartbeats 1000000 in
set_option maxRecDepth 20000 in
theorem c_X0_addCalm (l : Launch) (G : Gx) (hd hr ht : Nat) (a : Int → Int) (r h : Int) (h1 : 0 ≤ r ∧ r < 16) : Ct l G yX0_addCalm wsX0_addCalm (rmD 0) [.ref hd, .int (zI r), .int (zI h)] [(hd, .inr (0, [.ref hr, .ref ht])), (hr, aI G 26181 a)] (Fn none [(hd, .inr (0, [.ref hr, .ref ht])), (hr, aI G 26181 (upz a (25360 + r) (a (25360 + r) + h)))]) := by
  refine Ct.intro (cc := cX0_addCalm) (maxL := 3) (ret := none) (lo0 := [some (.ref hd), some (.int (zI r)), some (.int (zI h))]) (by decide +kernel) rfl ⟨rfl, rfl⟩ (Nat.le_of_ble_eq_true rfl) rfl ?_
  intro X F T
  change Fx X (YX0_addCalm l G) at F
  change V X (YX0_addCalm l G) 0 0 0 _ _ _
  refine V.aload_n (q := 1) F dX0_addCalm_0 rfl rfl rfl ?_
  refine V.get (q := 4) F 0 0 dX0_addCalm_1 rfl rfl rfl inX0_addCalm_X0 (by decide) (List.mem_of_getElem? (i := 1) rfl) rfl ?_
  refine V.sipush (q := 7) F dX0_addCalm_4 rfl (by decide) ?_
  refine V.iload_n (q := 8) F dX0_addCalm_7 rfl rfl rfl ?_
  refine V.iadd (q := 9) F dX0_addCalm_8 rfl ?_
  refine V.dup2 (q := 10) F dX0_addCalm_9 rfl rfl rfl ?_
  refine V.iald (q := 11) F 1 dX0_addCalm_10 rfl rfl (by decide) (by omega) ?_
  refine V.iload_n (q := 12) F dX0_addCalm_11 rfl rfl rfl ?_
  refine V.iadd (q := 13) F dX0_addCalm_12 rfl ?_
  refine V.iast (q := 14) (ws' := [_, _]) F 1 dX0_addCalm_13 rfl rfl (by decide) (by omega) rfl ?_
  exact V.vret F T dX0_addCalm_14 ⟨rfl, rfl⟩ [hd, hr] rfl rfl

abbrev YX0_turnLog (l : Launch) (G : Gx) : Sx := (cX0_turnLog, 6, RX0, wsX0_turnLog, rmD 1, l, G)
theorem ydX0_turnLog : ydOk yX0_turnLog 2 := by decide +kernel
theorem inX0_turnLog_X0 : ∀ w ∈ wsX00, w ∈ wsX0_turnLog := fun _ h => List.mem_cons_of_mem _ (List.mem_append_right _ h)
set_option maxHeartbeats 1000000 in
set_option maxRecDepth 20000 in
theorem c_X0_turnLog (l : Launch) (G : Gx) (hd hr ht : Nat) (a t : Int → Int) (r b : Int) (h1 : 0 ≤ r ∧ r < 16) (hb : 0 ≤ b ∧ b < 16) : Ct l G yX0_turnLog wsX0_turnLog (rmD 1) [.ref hd, .int (zI r), .int (zI b)] [(hd, .inr (0, [.ref hr, .ref ht])), (hr, aI G 26181 a), (ht, aI G 1584 t)] (Fn none [(hd, .inr (0, [.ref hr, .ref ht])), (hr, aI G 26181 (turnI a r b 16)), (ht, aI G 1584 (cpz a t (r * 1584) 0 1584))]) := by
  refine Ct.intro (cc := cX0_turnLog) (maxL := 6) (ret := none) (lo0 := [some (.ref hd), some (.int (zI r)), some (.int (zI b)), none, none, none]) (by decide +kernel) rfl ⟨rfl, rfl⟩ (Nat.le_of_ble_eq_true rfl) rfl ?_
  intro X F T
  change Fx X (YX0_turnLog l G) at F
  change V X (YX0_turnLog l G) 0 0 0 _ _ _
  refine V.iload_n (q := 1) F dX0_turnLog_0 rfl rfl rfl ?_
  refine V.sipush (q := 4) F dX0_turnLog_1 rfl (by decide) ?_
  refine V.imul (q := 5) F dX0_turnLog_4 rfl ?_
  refine V.istore_n (q := 6) (lo' := [_, _, _, _, _, _]) F dX0_turnLog_5 rfl rfl (Nat.le_of_ble_eq_true rfl) rfl rfl ?_
  refine V.aload_n (q := 7) F dX0_turnLog_6 rfl rfl rfl ?_
  refine V.get (q := 10) F 0 0 dX0_turnLog_7 rfl rfl rfl inX0_turnLog_X0 (by decide) (List.mem_of_getElem? (i := 1) rfl) rfl ?_
  refine V.iload_n (q := 11) F dX0_turnLog_10 rfl rfl rfl ?_
  refine V.aload_n (q := 12) F dX0_turnLog_11 rfl rfl rfl ?_
  refine V.get (q := 15) F 0 1 dX0_turnLog_12 rfl rfl rfl inX0_turnLog_X0 (by decide) (List.mem_of_getElem? (i := 2) rfl) rfl ?_
  refine V.iconst (q := 16) F dX0_turnLog_15 rfl ?_
  refine V.sipush (q := 19) F dX0_turnLog_16 rfl (by decide) ?_
  refine V.copyi (q := 22) (ws' := [_, _, _]) F 1 2 dX0_turnLog_19 rfl (List.mem_of_getElem? (i := 3) rfl) (List.mem_of_getElem? (i := 4) rfl) (List.mem_of_getElem? (i := 5) rfl) (List.mem_of_getElem? (i := 6) rfl) rfl rfl ⟨by omega, by omega, by omega⟩ (Nat.le_of_ble_eq_true rfl) (Nat.le_of_ble_eq_true rfl) rfl ?_
  refine V.iconst (q := 23) F dX0_turnLog_22 rfl ?_
  refine V.istore (q := 25) (lo' := [_, _, _, _, _, _]) F dX0_turnLog_23 rfl (Nat.le_of_ble_eq_true rfl) rfl rfl ?_
  have L25 : ∀ (nq : Nat) (i : Int) (hi : 0 ≤ i ∧ i ≤ 16), (16 - i).toNat < nq → V X (YX0_turnLog l G) 0 0 25 [some (.ref hd), some (.int (zI r)), some (.int (zI b)), some (.int (zI (r * 1584))), some (.int (zI i)), none] [] [(hd, .inr (0, [.ref hr, .ref ht])), (hr, aI G 26181 (turnI a r b i)), (ht, aI G 1584 (cpz a t (r * 1584) 0 1584))] := by
    intro n25
    induction n25 with
    | zero => intro i hi hm25; exact absurd hm25 (Nat.not_lt_zero _)
    | succ n25 ih25 =>
      intro i hi hm25
      refine V.iload (q := 27) F dX0_turnLog_25 rfl rfl ?_
      refine V.bipush (q := 29) F dX0_turnLog_27 rfl (by decide) ?_
      refine V.icmp_ge (q := 32) (tgt := 72) F dX0_turnLog_29 rfl (by decide) (by omega) (fun k29 => ?_) (fun k29 => ?_)
      · exact V.vret F T dX0_turnLog_72 ⟨rfl, (by rw [show i = 16 by omega])⟩ [hd, hr, ht] rfl rfl
      · refine V.iload (q := 34) F dX0_turnLog_32 rfl rfl ?_
        refine V.iload_n (q := 35) F dX0_turnLog_34 rfl rfl rfl ?_
        refine V.iadd (q := 36) F dX0_turnLog_35 rfl ?_
        refine V.bipush (q := 38) F dX0_turnLog_36 rfl (by decide) ?_
        refine V.irem (q := 39) F dX0_turnLog_38 rfl (by omega) ?_
        refine V.istore (q := 41) (lo' := [_, _, _, _, _, _]) F dX0_turnLog_39 rfl (Nat.le_of_ble_eq_true rfl) rfl rfl ?_
        refine V.aload_n (q := 42) F dX0_turnLog_41 rfl rfl rfl ?_
        refine V.get (q := 45) F 0 1 dX0_turnLog_42 rfl rfl rfl inX0_turnLog_X0 (by decide) (List.mem_of_getElem? (i := 2) rfl) rfl ?_
        refine V.iload (q := 47) F dX0_turnLog_45 rfl rfl ?_
        refine V.bipush (q := 49) F dX0_turnLog_47 rfl (by decide) ?_
        refine V.imul (q := 50) F dX0_turnLog_49 rfl ?_
        refine V.aload_n (q := 51) F dX0_turnLog_50 rfl rfl rfl ?_
        refine V.get (q := 54) F 0 0 dX0_turnLog_51 rfl rfl rfl inX0_turnLog_X0 (by decide) (List.mem_of_getElem? (i := 1) rfl) rfl ?_
        refine V.iload_n (q := 55) F dX0_turnLog_54 rfl rfl rfl ?_
        refine V.iload (q := 57) F dX0_turnLog_55 rfl rfl ?_
        refine V.bipush (q := 59) F dX0_turnLog_57 rfl (by decide) ?_
        refine V.imul (q := 60) F dX0_turnLog_59 rfl ?_
        refine V.iadd (q := 61) F dX0_turnLog_60 rfl ?_
        refine V.bipush (q := 63) F dX0_turnLog_61 rfl (by decide) ?_
        refine V.copyi (q := 66) (ws' := [_, _, _]) F 2 1 dX0_turnLog_63 rfl (List.mem_of_getElem? (i := 3) rfl) (List.mem_of_getElem? (i := 4) rfl) (List.mem_of_getElem? (i := 5) rfl) (List.mem_of_getElem? (i := 6) rfl) rfl rfl ⟨by omega, by omega, by omega⟩ (Nat.le_of_ble_eq_true rfl) (Nat.le_of_ble_eq_true rfl) rfl ?_
        rw [turnI_s a t h1.1 hb ⟨hi.1, by omega⟩]
        refine V.iinc (q := 69) (lo' := [_, _, _, _, _, _]) F dX0_turnLog_66 rfl rfl (Nat.le_of_ble_eq_true rfl) rfl rfl ?_
        refine V.goto (tgt := 25) F dX0_turnLog_69 (by decide) ?_
        refine V.mask [true, true, true, true, true, false] (lo' := [_, _, _, _, _, _]) rfl ?_
        exact ih25 (i + 1) (by omega) (by omega)
  refine V.eq (pc' := 25) (lo' := [_, _, _, _, _, _]) (st' := []) (ws' := [_, (hr, aI G 26181 (turnI a r b 0)), _]) rfl rfl rfl (by rw [turnI_0]) ?_
  refine V.mask [true, true, true, true, true, false] (lo' := [_, _, _, _, _, _]) rfl ?_
  exact L25 _ 0 (by omega) (Nat.lt_succ_self _)

abbrev YX0_hoursBetween (l : Launch) (G : Gx) : Sx := (cX0_hoursBetween, 8, RX0, wsX0_hoursBetween, rmD 0, l, G)
theorem ydX0_hoursBetween : ydOk yX0_hoursBetween 4 := by decide +kernel
theorem inX0_hoursBetween_X0 : ∀ w ∈ wsX00, w ∈ wsX0_hoursBetween := fun _ h => List.mem_cons_of_mem _ (List.mem_append_right _ h)
set_option maxHeartbeats 1000000 in
set_option maxRecDepth 20000 in
theorem c_X0_hoursBetween (l : Launch) (G : Gx) (hd hr ht : Nat) (a : Int → Int) (r d f e : Int) (h1 : 0 ≤ r ∧ r < 16) (h2 : 0 ≤ d ∧ d < 16) (h3 : 1 ≤ f ∧ f ≤ e ∧ e ≤ 100) : Ct l G yX0_hoursBetween wsX0_hoursBetween (rmD 0) [.ref hd, .int (zI r), .int (zI d), .int (zI f), .int (zI e)] [(hd, .inr (0, [.ref hr, .ref ht])), (hr, aI G 26181 a)] (Fn (some (.int (zI (hbz a r d f e)))) [(hd, .inr (0, [.ref hr, .ref ht])), (hr, aI G 26181 a)]) := by
  refine Ct.intro (cc := cX0_hoursBetween) (maxL := 8) (ret := (some .int)) (lo0 := [some (.ref hd), some (.int (zI r)), some (.int (zI d)), some (.int (zI f)), some (.int (zI e)), none, none, none]) (by decide +kernel) rfl ⟨rfl, rfl⟩ (Nat.le_of_ble_eq_true rfl) rfl ?_
  intro X F T
  change Fx X (YX0_hoursBetween l G) at F
  change V X (YX0_hoursBetween l G) 0 0 0 _ _ _
  refine V.iload_n (q := 1) F dX0_hoursBetween_0 rfl rfl rfl ?_
  refine V.sipush (q := 4) F dX0_hoursBetween_1 rfl (by decide) ?_
  refine V.imul (q := 5) F dX0_hoursBetween_4 rfl ?_
  refine V.iload_n (q := 6) F dX0_hoursBetween_5 rfl rfl rfl ?_
  refine V.bipush (q := 8) F dX0_hoursBetween_6 rfl (by decide) ?_
  refine V.imul (q := 9) F dX0_hoursBetween_8 rfl ?_
  refine V.iadd (q := 10) F dX0_hoursBetween_9 rfl ?_
  refine V.istore (q := 12) (lo' := [_, _, _, _, _, _, _, _]) F dX0_hoursBetween_10 rfl (Nat.le_of_ble_eq_true rfl) rfl rfl ?_
  refine V.iconst (q := 13) F dX0_hoursBetween_12 rfl ?_
  refine V.istore (q := 15) (lo' := [_, _, _, _, _, _, _, _]) F dX0_hoursBetween_13 rfl (Nat.le_of_ble_eq_true rfl) rfl rfl ?_
  refine V.iload_n (q := 16) F dX0_hoursBetween_15 rfl rfl rfl ?_
  refine V.istore (q := 18) (lo' := [_, _, _, _, _, _, _, _]) F dX0_hoursBetween_16 rfl (Nat.le_of_ble_eq_true rfl) rfl rfl ?_
  have L18 : ∀ (nq : Nat) (i S : Int) (hi : f ≤ i ∧ i ≤ e) (hS : S = hbz a r d f i), (e - i).toNat < nq → V X (YX0_hoursBetween l G) 0 0 18 [some (.ref hd), some (.int (zI r)), some (.int (zI d)), some (.int (zI f)), some (.int (zI e)), some (.int (zI (r * 1584 + d * 99))), some (.int (zI S)), some (.int (zI i))] [] [(hd, .inr (0, [.ref hr, .ref ht])), (hr, aI G 26181 a)] := by
    intro n18
    induction n18 with
    | zero => intro i S hi hS hm18; exact absurd hm18 (Nat.not_lt_zero _)
    | succ n18 ih18 =>
      intro i S hi hS hm18
      refine V.iload (q := 20) F dX0_hoursBetween_18 rfl rfl ?_
      refine V.iload (q := 22) F dX0_hoursBetween_20 rfl rfl ?_
      refine V.icmp_ge (q := 25) (tgt := 48) F dX0_hoursBetween_22 rfl (by decide) (by omega) (fun k22 => ?_) (fun k22 => ?_)
      · refine V.iload (q := 50) F dX0_hoursBetween_48 rfl rfl ?_
        exact V.iret F T dX0_hoursBetween_50 (fnI (by rw [hS, show i = e by omega]) rfl) [hd, hr] rfl rfl
      · refine V.iload (q := 27) F dX0_hoursBetween_25 rfl rfl ?_
        refine V.aload_n (q := 28) F dX0_hoursBetween_27 rfl rfl rfl ?_
        refine V.get (q := 31) F 0 0 dX0_hoursBetween_28 rfl rfl rfl inX0_hoursBetween_X0 (by decide) (List.mem_of_getElem? (i := 1) rfl) rfl ?_
        refine V.iload (q := 33) F dX0_hoursBetween_31 rfl rfl ?_
        refine V.iload (q := 35) F dX0_hoursBetween_33 rfl rfl ?_
        refine V.iadd (q := 36) F dX0_hoursBetween_35 rfl ?_
        refine V.iconst (q := 37) F dX0_hoursBetween_36 rfl ?_
        refine V.isub (q := 38) F dX0_hoursBetween_37 rfl ?_
        refine V.iald (q := 39) F 1 dX0_hoursBetween_38 rfl rfl (by decide) (by omega) ?_
        refine V.iadd (q := 40) F dX0_hoursBetween_39 rfl ?_
        refine V.istore (q := 42) (lo' := [_, _, _, _, _, _, _, _]) F dX0_hoursBetween_40 rfl (Nat.le_of_ble_eq_true rfl) rfl rfl ?_
        refine V.iinc (q := 45) (lo' := [_, _, _, _, _, _, _, _]) F dX0_hoursBetween_42 rfl rfl (Nat.le_of_ble_eq_true rfl) rfl rfl ?_
        refine V.goto (tgt := 18) F dX0_hoursBetween_45 (by decide) ?_
        exact ih18 (i + 1) _ (by omega) (by rw [hS]; exact (sz_succ _ hi.1).symm) (by omega)
  exact L18 _ f 0 (by omega) (sz_self _ _).symm (Nat.lt_succ_self _)

abbrev YX0_directionHours (l : Launch) (G : Gx) : Sx := (cX0_directionHours, 3, RX0, wsX0_directionHours, rmD 1, l, G)
theorem ydX0_directionHours : ydOk yX0_directionHours 2 := by decide +kernel
set_option maxHeartbeats 1000000 in
set_option maxRecDepth 20000 in
theorem c_X0_directionHours (l : Launch) (G : Gx) (hd hr ht : Nat) (a : Int → Int) (r d : Int) (h1 : 0 ≤ r ∧ r < 16) (h2 : 0 ≤ d ∧ d < 16) : Ct l G yX0_directionHours wsX0_directionHours (rmD 1) [.ref hd, .int (zI r), .int (zI d)] [(hd, .inr (0, [.ref hr, .ref ht])), (hr, aI G 26181 a)] (Fn (some (.int (zI (hbz a r d 1 100)))) [(hd, .inr (0, [.ref hr, .ref ht])), (hr, aI G 26181 a)]) := by
  refine Ct.intro (cc := cX0_directionHours) (maxL := 3) (ret := (some .int)) (lo0 := [some (.ref hd), some (.int (zI r)), some (.int (zI d))]) (by decide +kernel) rfl ⟨rfl, rfl⟩ (Nat.le_of_ble_eq_true rfl) rfl ?_
  intro X F T
  change Fx X (YX0_directionHours l G) at F
  change V X (YX0_directionHours l G) 0 0 0 _ _ _
  refine V.aload_n (q := 1) F dX0_directionHours_0 rfl rfl rfl ?_
  refine V.iload_n (q := 2) F dX0_directionHours_1 rfl rfl rfl ?_
  refine V.iload_n (q := 3) F dX0_directionHours_2 rfl rfl rfl ?_
  refine V.iconst (q := 4) F dX0_directionHours_3 rfl ?_
  refine V.bipush (q := 6) F dX0_directionHours_4 rfl (by decide) ?_
  refine V.callV (q := 9) F [0, 1] 0 dX0_directionHours_6 rfl (c_X0_hoursBetween l G hd hr ht _ _ _ _ _ (by omega) (by omega) (by omega)) gX0_directionHours_X0_hoursBetween rfl rfl ydX0_hoursBetween ⟨Nat.le_of_ble_eq_true rfl, Nat.le_of_ble_eq_true rfl⟩ (ci := 0) rfl rfl rfl rfl (Nat.le_of_ble_eq_true rfl) rfl rfl ⟨Nat.zero_le _, Nat.zero_le _⟩ (kkf (st' := [_]) (ws' := [_, _]) rfl rfl ?_)
  exact V.iret F T dX0_directionHours_9 (fnI rfl rfl) [hd, hr] rfl rfl

abbrev YX0_setting (l : Launch) (G : Gx) : Sx := (cX0_setting, 2, RX0, wsX0_setting, rmD 0, l, G)
theorem ydX0_setting : ydOk yX0_setting 1 := by decide +kernel
theorem inX0_setting_X0 : ∀ w ∈ wsX00, w ∈ wsX0_setting := fun _ h => List.mem_cons_of_mem _ (List.mem_append_right _ h)
set_option maxHeartbeats 1000000 in
set_option maxRecDepth 20000 in
theorem c_X0_setting (l : Launch) (G : Gx) (hd hr ht : Nat) (a : Int → Int) (k : Int) (h1 : 0 ≤ k ∧ k ≤ 2) : Ct l G yX0_setting wsX0_setting (rmD 0) [.ref hd, .int (zI k)] [(hd, .inr (0, [.ref hr, .ref ht])), (hr, aI G 26181 a)] (Fn (some (.int (zI (a (26176 + k))))) [(hd, .inr (0, [.ref hr, .ref ht])), (hr, aI G 26181 a)]) := by
  refine Ct.intro (cc := cX0_setting) (maxL := 2) (ret := (some .int)) (lo0 := [some (.ref hd), some (.int (zI k))]) (by decide +kernel) rfl ⟨rfl, rfl⟩ (Nat.le_of_ble_eq_true rfl) rfl ?_
  intro X F T
  change Fx X (YX0_setting l G) at F
  change V X (YX0_setting l G) 0 0 0 _ _ _
  refine V.aload_n (q := 1) F dX0_setting_0 rfl rfl rfl ?_
  refine V.get (q := 4) F 0 0 dX0_setting_1 rfl rfl rfl inX0_setting_X0 (by decide) (List.mem_of_getElem? (i := 1) rfl) rfl ?_
  refine V.sipush (q := 7) F dX0_setting_4 rfl (by decide) ?_
  refine V.iload_n (q := 8) F dX0_setting_7 rfl rfl rfl ?_
  refine V.iadd (q := 9) F dX0_setting_8 rfl ?_
  refine V.iald (q := 10) F 1 dX0_setting_9 rfl rfl (by decide) (by omega) ?_
  exact V.iret F T dX0_setting_10 (fnI rfl rfl) [hd, hr] rfl rfl

abbrev YX0_partHours (l : Launch) (G : Gx) : Sx := (cX0_partHours, 6, RX0, wsX0_partHours, rmD 1, l, G)
theorem ydX0_partHours : ydOk yX0_partHours 3 := by decide +kernel
set_option maxHeartbeats 1000000 in
set_option maxRecDepth 20000 in
theorem c_X0_partHours (l : Launch) (G : Gx) (hd hr ht : Nat) (a : Int → Int) (r d k : Int) (h1 : 0 ≤ r ∧ r < 16) (h2 : 0 ≤ d ∧ d < 16) (h3 : 0 ≤ k ∧ k ≤ 2) (hset : 1 ≤ a 26176 ∧ a 26176 < a 26177 ∧ a 26177 ≤ 99) : Ct l G yX0_partHours wsX0_partHours (rmD 1) [.ref hd, .int (zI r), .int (zI d), .int (zI k)] [(hd, .inr (0, [.ref hr, .ref ht])), (hr, aI G 26181 a)] (Fn (some (.int (zI (phz a r d k)))) [(hd, .inr (0, [.ref hr, .ref ht])), (hr, aI G 26181 a)]) := by
  refine Ct.intro (cc := cX0_partHours) (maxL := 6) (ret := (some .int)) (lo0 := [some (.ref hd), some (.int (zI r)), some (.int (zI d)), some (.int (zI k)), none, none]) (by decide +kernel) rfl ⟨rfl, rfl⟩ (Nat.le_of_ble_eq_true rfl) rfl ?_
  intro X F T
  change Fx X (YX0_partHours l G) at F
  change V X (YX0_partHours l G) 0 0 0 _ _ _
  have J15 : ∀ (f : Int) (hf : f = if k = 0 then 1 else a (26176 + (k - 1))), V X (YX0_partHours l G) 0 0 15 [some (.ref hd), some (.int (zI r)), some (.int (zI d)), some (.int (zI k)), none, none] [.int (zI f)] [(hd, .inr (0, [.ref hr, .ref ht])), (hr, aI G 26181 a)] := by
    intro f hf
    refine V.istore (q := 17) (lo' := [_, _, _, _, _, _]) F dX0_partHours_15 rfl (Nat.le_of_ble_eq_true rfl) rfl rfl ?_
    have J32 : ∀ (e : Int) (he : e = if k = 2 then 100 else a (26176 + k)), V X (YX0_partHours l G) 0 0 32 [some (.ref hd), some (.int (zI r)), some (.int (zI d)), some (.int (zI k)), some (.int (zI f)), none] [.int (zI e)] [(hd, .inr (0, [.ref hr, .ref ht])), (hr, aI G 26181 a)] := by
      intro e he
      refine V.istore (q := 34) (lo' := [_, _, _, _, _, _]) F dX0_partHours_32 rfl (Nat.le_of_ble_eq_true rfl) rfl rfl ?_
      refine V.aload_n (q := 35) F dX0_partHours_34 rfl rfl rfl ?_
      refine V.iload_n (q := 36) F dX0_partHours_35 rfl rfl rfl ?_
      refine V.iload_n (q := 37) F dX0_partHours_36 rfl rfl rfl ?_
      refine V.iload (q := 39) F dX0_partHours_37 rfl rfl ?_
      refine V.iload (q := 41) F dX0_partHours_39 rfl rfl ?_
      have hfe : 1 ≤ f ∧ f ≤ e ∧ e ≤ 100 := by
        rcases (show k = 0 ∨ k = 1 ∨ k = 2 by omega) with rfl | rfl | rfl
        · rw [hf, he]; simp; omega
        · rw [hf, he]; simp; omega
        · rw [hf, he]; simp; omega
      refine V.callV (q := 44) F [0, 1] 0 dX0_partHours_41 rfl (c_X0_hoursBetween l G hd hr ht _ _ _ _ _ (by omega) (by omega) (by omega)) gX0_partHours_X0_hoursBetween rfl rfl ydX0_hoursBetween ⟨Nat.le_of_ble_eq_true rfl, Nat.le_of_ble_eq_true rfl⟩ (ci := 0) rfl rfl rfl rfl (Nat.le_of_ble_eq_true rfl) rfl rfl ⟨Nat.zero_le _, Nat.zero_le _⟩ (kkf (st' := [_]) (ws' := [_, _]) rfl rfl ?_)
      exact V.iret F T dX0_partHours_44 (fnI (by rw [hf, he]; rfl) rfl) [hd, hr] rfl rfl
    refine V.iload_n (q := 18) F dX0_partHours_17 rfl rfl rfl ?_
    refine V.iconst (q := 19) F dX0_partHours_18 rfl ?_
    refine V.icmp_ne (q := 22) (tgt := 27) F dX0_partHours_19 rfl (by decide) (by omega) (fun k19 => ?_) (fun k19 => ?_)
    · refine V.aload_n (q := 28) F dX0_partHours_27 rfl rfl rfl ?_
      refine V.iload_n (q := 29) F dX0_partHours_28 rfl rfl rfl ?_
      refine V.callV (q := 32) F [0, 1] 0 dX0_partHours_29 rfl (c_X0_setting l G hd hr ht _ _ (by omega)) gX0_partHours_X0_setting rfl rfl ydX0_setting ⟨Nat.le_of_ble_eq_true rfl, Nat.le_of_ble_eq_true rfl⟩ (ci := 0) rfl rfl rfl rfl (Nat.le_of_ble_eq_true rfl) rfl rfl ⟨Nat.zero_le _, Nat.zero_le _⟩ (kkf (st' := [_]) (ws' := [_, _]) rfl rfl ?_)
      exact J32 _ (by first | rw [if_pos k19] | rw [if_neg k19])
    · refine V.bipush (q := 24) F dX0_partHours_22 rfl (by decide) ?_
      refine V.goto (tgt := 32) F dX0_partHours_24 (by decide) ?_
      exact J32 _ (by first | rw [if_pos k19] | rw [if_neg k19])
  refine V.iload_n (q := 1) F dX0_partHours_0 rfl rfl rfl ?_
  refine V.if_ne (q := 4) (tgt := 8) F dX0_partHours_1 rfl (by decide) (by omega) (fun k1 => ?_) (fun k1 => ?_)
  · refine V.aload_n (q := 9) F dX0_partHours_8 rfl rfl rfl ?_
    refine V.iload_n (q := 10) F dX0_partHours_9 rfl rfl rfl ?_
    refine V.iconst (q := 11) F dX0_partHours_10 rfl ?_
    refine V.isub (q := 12) F dX0_partHours_11 rfl ?_
    refine V.callV (q := 15) F [0, 1] 0 dX0_partHours_12 rfl (c_X0_setting l G hd hr ht _ _ (by omega)) gX0_partHours_X0_setting rfl rfl ydX0_setting ⟨Nat.le_of_ble_eq_true rfl, Nat.le_of_ble_eq_true rfl⟩ (ci := 0) rfl rfl rfl rfl (Nat.le_of_ble_eq_true rfl) rfl rfl ⟨Nat.zero_le _, Nat.zero_le _⟩ (kkf (st' := [_]) (ws' := [_, _]) rfl rfl ?_)
    exact J15 _ (by first | rw [if_pos k1] | rw [if_neg k1])
  · refine V.iconst (q := 5) F dX0_partHours_4 rfl ?_
    refine V.goto (tgt := 15) F dX0_partHours_5 (by decide) ?_
    exact J15 _ (by first | rw [if_pos k1] | rw [if_neg k1])

abbrev YX0_classHours (l : Launch) (G : Gx) : Sx := (cX0_classHours, 5, RX0, wsX0_classHours, rmD 2, l, G)
theorem ydX0_classHours : ydOk yX0_classHours 2 := by decide +kernel
set_option maxHeartbeats 1000000 in
set_option maxRecDepth 20000 in
theorem c_X0_classHours (l : Launch) (G : Gx) (hd hr ht : Nat) (a : Int → Int) (r k : Int) (h1 : 0 ≤ r ∧ r < 16) (h3 : 0 ≤ k ∧ k ≤ 2) (hset : 1 ≤ a 26176 ∧ a 26176 < a 26177 ∧ a 26177 ≤ 99) : Ct l G yX0_classHours wsX0_classHours (rmD 2) [.ref hd, .int (zI r), .int (zI k)] [(hd, .inr (0, [.ref hr, .ref ht])), (hr, aI G 26181 a)] (Fn (some (.int (zI (clz a r k)))) [(hd, .inr (0, [.ref hr, .ref ht])), (hr, aI G 26181 a)]) := by
  refine Ct.intro (cc := cX0_classHours) (maxL := 5) (ret := (some .int)) (lo0 := [some (.ref hd), some (.int (zI r)), some (.int (zI k)), none, none]) (by decide +kernel) rfl ⟨rfl, rfl⟩ (Nat.le_of_ble_eq_true rfl) rfl ?_
  intro X F T
  change Fx X (YX0_classHours l G) at F
  change V X (YX0_classHours l G) 0 0 0 _ _ _
  refine V.iconst (q := 1) F dX0_classHours_0 rfl ?_
  refine V.istore_n (q := 2) (lo' := [_, _, _, _, _]) F dX0_classHours_1 rfl rfl (Nat.le_of_ble_eq_true rfl) rfl rfl ?_
  refine V.iconst (q := 3) F dX0_classHours_2 rfl ?_
  refine V.istore (q := 5) (lo' := [_, _, _, _, _]) F dX0_classHours_3 rfl (Nat.le_of_ble_eq_true rfl) rfl rfl ?_
  have L5 : ∀ (nq : Nat) (i S : Int) (hi : 0 ≤ i ∧ i ≤ 16) (hS : S = sz (fun d => phz a r d k) 0 i), (16 - i).toNat < nq → V X (YX0_classHours l G) 0 0 5 [some (.ref hd), some (.int (zI r)), some (.int (zI k)), some (.int (zI S)), some (.int (zI i))] [] [(hd, .inr (0, [.ref hr, .ref ht])), (hr, aI G 26181 a)] := by
    intro n5
    induction n5 with
    | zero => intro i S hi hS hm5; exact absurd hm5 (Nat.not_lt_zero _)
    | succ n5 ih5 =>
      intro i S hi hS hm5
      refine V.iload (q := 7) F dX0_classHours_5 rfl rfl ?_
      refine V.bipush (q := 9) F dX0_classHours_7 rfl (by decide) ?_
      refine V.icmp_ge (q := 12) (tgt := 29) F dX0_classHours_9 rfl (by decide) (by omega) (fun k9 => ?_) (fun k9 => ?_)
      · refine V.iload_n (q := 30) F dX0_classHours_29 rfl rfl rfl ?_
        exact V.iret F T dX0_classHours_30 (fnI (by rw [hS, show i = 16 by omega]; rfl) rfl) [hd, hr] rfl rfl
      · refine V.iload_n (q := 13) F dX0_classHours_12 rfl rfl rfl ?_
        refine V.aload_n (q := 14) F dX0_classHours_13 rfl rfl rfl ?_
        refine V.iload_n (q := 15) F dX0_classHours_14 rfl rfl rfl ?_
        refine V.iload (q := 17) F dX0_classHours_15 rfl rfl ?_
        refine V.iload_n (q := 18) F dX0_classHours_17 rfl rfl rfl ?_
        refine V.callV (q := 21) F [0, 1] 0 dX0_classHours_18 rfl (c_X0_partHours l G hd hr ht _ _ _ _ (by omega) (by omega) (by omega) hset) gX0_classHours_X0_partHours rfl rfl ydX0_partHours ⟨Nat.le_of_ble_eq_true rfl, Nat.le_of_ble_eq_true rfl⟩ (ci := 0) rfl rfl rfl rfl (Nat.le_of_ble_eq_true rfl) rfl rfl ⟨Nat.zero_le _, Nat.zero_le _⟩ (kkf (st' := [_, _]) (ws' := [_, _]) rfl rfl ?_)
        refine V.iadd (q := 22) F dX0_classHours_21 rfl ?_
        refine V.istore_n (q := 23) (lo' := [_, _, _, _, _]) F dX0_classHours_22 rfl rfl (Nat.le_of_ble_eq_true rfl) rfl rfl ?_
        refine V.iinc (q := 26) (lo' := [_, _, _, _, _]) F dX0_classHours_23 rfl rfl (Nat.le_of_ble_eq_true rfl) rfl rfl ?_
        refine V.goto (tgt := 5) F dX0_classHours_26 (by decide) ?_
        exact ih5 (i + 1) _ (by omega) (by rw [hS]; exact (sz_succ _ hi.1).symm) (by omega)
  exact L5 _ 0 0 (by omega) (sz_self _ _).symm (Nat.lt_succ_self _)

abbrev YX0_speedHours (l : Launch) (G : Gx) : Sx := (cX0_speedHours, 5, RX0, wsX0_speedHours, rmD 2, l, G)
theorem ydX0_speedHours : ydOk yX0_speedHours 2 := by decide +kernel
set_option maxHeartbeats 1000000 in
set_option maxRecDepth 20000 in
theorem c_X0_speedHours (l : Launch) (G : Gx) (hd hr ht : Nat) (a : Int → Int) (r s : Int) (h1 : 0 ≤ r ∧ r < 16) (h3 : 1 ≤ s ∧ s ≤ 99) : Ct l G yX0_speedHours wsX0_speedHours (rmD 2) [.ref hd, .int (zI r), .int (zI s)] [(hd, .inr (0, [.ref hr, .ref ht])), (hr, aI G 26181 a)] (Fn (some (.int (zI (spz a r s)))) [(hd, .inr (0, [.ref hr, .ref ht])), (hr, aI G 26181 a)]) := by
  refine Ct.intro (cc := cX0_speedHours) (maxL := 5) (ret := (some .int)) (lo0 := [some (.ref hd), some (.int (zI r)), some (.int (zI s)), none, none]) (by decide +kernel) rfl ⟨rfl, rfl⟩ (Nat.le_of_ble_eq_true rfl) rfl ?_
  intro X F T
  change Fx X (YX0_speedHours l G) at F
  change V X (YX0_speedHours l G) 0 0 0 _ _ _
  refine V.iconst (q := 1) F dX0_speedHours_0 rfl ?_
  refine V.istore_n (q := 2) (lo' := [_, _, _, _, _]) F dX0_speedHours_1 rfl rfl (Nat.le_of_ble_eq_true rfl) rfl rfl ?_
  refine V.iconst (q := 3) F dX0_speedHours_2 rfl ?_
  refine V.istore (q := 5) (lo' := [_, _, _, _, _]) F dX0_speedHours_3 rfl (Nat.le_of_ble_eq_true rfl) rfl rfl ?_
  have L5 : ∀ (nq : Nat) (i S : Int) (hi : 0 ≤ i ∧ i ≤ 16) (hS : S = sz (fun d => a (r * 1584 + d * 99 + s - 1)) 0 i), (16 - i).toNat < nq → V X (YX0_speedHours l G) 0 0 5 [some (.ref hd), some (.int (zI r)), some (.int (zI s)), some (.int (zI S)), some (.int (zI i))] [] [(hd, .inr (0, [.ref hr, .ref ht])), (hr, aI G 26181 a)] := by
    intro n5
    induction n5 with
    | zero => intro i S hi hS hm5; exact absurd hm5 (Nat.not_lt_zero _)
    | succ n5 ih5 =>
      intro i S hi hS hm5
      refine V.iload (q := 7) F dX0_speedHours_5 rfl rfl ?_
      refine V.bipush (q := 9) F dX0_speedHours_7 rfl (by decide) ?_
      refine V.icmp_ge (q := 12) (tgt := 29) F dX0_speedHours_9 rfl (by decide) (by omega) (fun k9 => ?_) (fun k9 => ?_)
      · refine V.iload_n (q := 30) F dX0_speedHours_29 rfl rfl rfl ?_
        exact V.iret F T dX0_speedHours_30 (fnI (by rw [hS, show i = 16 by omega]; rfl) rfl) [hd, hr] rfl rfl
      · refine V.iload_n (q := 13) F dX0_speedHours_12 rfl rfl rfl ?_
        refine V.aload_n (q := 14) F dX0_speedHours_13 rfl rfl rfl ?_
        refine V.iload_n (q := 15) F dX0_speedHours_14 rfl rfl rfl ?_
        refine V.iload (q := 17) F dX0_speedHours_15 rfl rfl ?_
        refine V.iload_n (q := 18) F dX0_speedHours_17 rfl rfl rfl ?_
        refine V.callV (q := 21) F [0, 1] 0 dX0_speedHours_18 rfl (c_X0_hoursAt l G hd hr ht _ _ _ _ (by omega) (by omega) (by omega)) gX0_speedHours_X0_hoursAt rfl rfl ydX0_hoursAt ⟨Nat.le_of_ble_eq_true rfl, Nat.le_of_ble_eq_true rfl⟩ (ci := 0) rfl rfl rfl rfl (Nat.le_of_ble_eq_true rfl) rfl rfl ⟨Nat.zero_le _, Nat.zero_le _⟩ (kkf (st' := [_, _]) (ws' := [_, _]) rfl rfl ?_)
        refine V.iadd (q := 22) F dX0_speedHours_21 rfl ?_
        refine V.istore_n (q := 23) (lo' := [_, _, _, _, _]) F dX0_speedHours_22 rfl rfl (Nat.le_of_ble_eq_true rfl) rfl rfl ?_
        refine V.iinc (q := 26) (lo' := [_, _, _, _, _]) F dX0_speedHours_23 rfl rfl (Nat.le_of_ble_eq_true rfl) rfl rfl ?_
        refine V.goto (tgt := 5) F dX0_speedHours_26 (by decide) ?_
        exact ih5 (i + 1) _ (by omega) (by rw [hS]; exact (sz_succ _ hi.1).symm) (by omega)
  exact L5 _ 0 0 (by omega) (sz_self _ _).symm (Nat.lt_succ_self _)

abbrev YX0_calmShare (l : Launch) (G : Gx) : Sx := (cX0_calmShare, 3, RX0, wsX0_calmShare, rmD 2, l, G)
theorem ydX0_calmShare : ydOk yX0_calmShare 1 := by decide +kernel
set_option maxHeartbeats 1000000 in
set_option maxRecDepth 20000 in
theorem c_X0_calmShare (l : Launch) (G : Gx) (hd hr ht : Nat) (a : Int → Int) (r : Int) (h1 : 0 ≤ r ∧ r < 16) (hw : 0 ≤ a (25344 + r) ∧ 0 ≤ a (25360 + r) ∧ a (25344 + r) + a (25360 + r) ≤ 9999) : Ct l G yX0_calmShare wsX0_calmShare (rmD 2) [.ref hd, .int (zI r)] [(hd, .inr (0, [.ref hr, .ref ht])), (hr, aI G 26181 a)] (Fn (some (.int (zI (cshz a r)))) [(hd, .inr (0, [.ref hr, .ref ht])), (hr, aI G 26181 a)]) := by
  refine Ct.intro (cc := cX0_calmShare) (maxL := 3) (ret := (some .int)) (lo0 := [some (.ref hd), some (.int (zI r)), none]) (by decide +kernel) rfl ⟨rfl, rfl⟩ (Nat.le_of_ble_eq_true rfl) rfl ?_
  intro X F T
  change Fx X (YX0_calmShare l G) at F
  change V X (YX0_calmShare l G) 0 0 0 _ _ _
  refine V.aload_n (q := 1) F dX0_calmShare_0 rfl rfl rfl ?_
  refine V.iload_n (q := 2) F dX0_calmShare_1 rfl rfl rfl ?_
  refine V.callV (q := 5) F [0, 1] 0 dX0_calmShare_2 rfl (c_X0_allHours l G hd hr ht _ _ (by omega)) gX0_calmShare_X0_allHours rfl rfl ydX0_allHours ⟨Nat.le_of_ble_eq_true rfl, Nat.le_of_ble_eq_true rfl⟩ (ci := 0) rfl rfl rfl rfl (Nat.le_of_ble_eq_true rfl) rfl rfl ⟨Nat.zero_le _, Nat.zero_le _⟩ (kkf (st' := [_]) (ws' := [_, _]) rfl rfl ?_)
  refine V.istore_n (q := 6) (lo' := [_, _, _]) F dX0_calmShare_5 rfl rfl (Nat.le_of_ble_eq_true rfl) rfl rfl ?_
  refine V.iload_n (q := 7) F dX0_calmShare_6 rfl rfl rfl ?_
  refine V.if_le (q := 10) (tgt := 23) F dX0_calmShare_7 rfl (by decide) (by omega) (fun k7 => ?_) (fun k7 => ?_)
  · refine V.iconst (q := 24) F dX0_calmShare_23 rfl ?_
    exact V.iret F T dX0_calmShare_24 (fnI (by unfold cshz allz; first | rw [if_pos k7] | rw [if_neg (by omega)]) rfl) [hd, hr] rfl rfl
  · refine V.bipush (q := 12) F dX0_calmShare_10 rfl (by decide) ?_
    refine V.aload_n (q := 13) F dX0_calmShare_12 rfl rfl rfl ?_
    refine V.iload_n (q := 14) F dX0_calmShare_13 rfl rfl rfl ?_
    refine V.callV (q := 17) F [0, 1] 0 dX0_calmShare_14 rfl (c_X0_calmHours l G hd hr ht _ _ (by omega)) gX0_calmShare_X0_calmHours rfl rfl ydX0_calmHours ⟨Nat.le_of_ble_eq_true rfl, Nat.le_of_ble_eq_true rfl⟩ (ci := 0) rfl rfl rfl rfl (Nat.le_of_ble_eq_true rfl) rfl rfl ⟨Nat.zero_le _, Nat.zero_le _⟩ (kkf (st' := [_, _]) (ws' := [_, _]) rfl rfl ?_)
    refine V.imul (q := 18) F dX0_calmShare_17 rfl ?_
    refine V.iload_n (q := 19) F dX0_calmShare_18 rfl rfl rfl ?_
    refine V.idiv (q := 20) F dX0_calmShare_19 rfl ⟨by omega, by omega⟩ ?_
    refine V.goto (tgt := 24) F dX0_calmShare_20 (by decide) ?_
    exact V.iret F T dX0_calmShare_24 (fnI (by unfold cshz allz; first | rw [if_pos k7] | rw [if_neg (by omega)]) rfl) [hd, hr] rfl rfl

abbrev YX0_sumOfRoses (l : Launch) (G : Gx) : Sx := (cX0_sumOfRoses, 4, RX0, wsX0_sumOfRoses, rmD 0, l, G)
theorem ydX0_sumOfRoses : ydOk yX0_sumOfRoses 1 := by decide +kernel
theorem inX0_sumOfRoses_X0 : ∀ w ∈ wsX00, w ∈ wsX0_sumOfRoses := fun _ h => List.mem_cons_of_mem _ (List.mem_append_right _ h)
set_option maxHeartbeats 1000000 in
set_option maxRecDepth 20000 in
theorem c_X0_sumOfRoses (l : Launch) (G : Gx) (hd hr ht : Nat) (a : Int → Int) (t : Int) (h1 : 0 ≤ t ∧ t ≤ 26160) : Ct l G yX0_sumOfRoses wsX0_sumOfRoses (rmD 0) [.ref hd, .int (zI t)] [(hd, .inr (0, [.ref hr, .ref ht])), (hr, aI G 26181 a)] (Fn (some (.int (zI (sumz a t)))) [(hd, .inr (0, [.ref hr, .ref ht])), (hr, aI G 26181 a)]) := by
  refine Ct.intro (cc := cX0_sumOfRoses) (maxL := 4) (ret := (some .int)) (lo0 := [some (.ref hd), some (.int (zI t)), none, none]) (by decide +kernel) rfl ⟨rfl, rfl⟩ (Nat.le_of_ble_eq_true rfl) rfl ?_
  intro X F T
  change Fx X (YX0_sumOfRoses l G) at F
  change V X (YX0_sumOfRoses l G) 0 0 0 _ _ _
  refine V.iconst (q := 1) F dX0_sumOfRoses_0 rfl ?_
  refine V.istore_n (q := 2) (lo' := [_, _, _, _]) F dX0_sumOfRoses_1 rfl rfl (Nat.le_of_ble_eq_true rfl) rfl rfl ?_
  refine V.iconst (q := 3) F dX0_sumOfRoses_2 rfl ?_
  refine V.istore_n (q := 4) (lo' := [_, _, _, _]) F dX0_sumOfRoses_3 rfl rfl (Nat.le_of_ble_eq_true rfl) rfl rfl ?_
  have L4 : ∀ (nq : Nat) (i S : Int) (hi : 0 ≤ i ∧ i ≤ 16) (hS : S = sz (fun k => a (t + k)) 0 i), (16 - i).toNat < nq → V X (YX0_sumOfRoses l G) 0 0 4 [some (.ref hd), some (.int (zI t)), some (.int (zI S)), some (.int (zI i))] [] [(hd, .inr (0, [.ref hr, .ref ht])), (hr, aI G 26181 a)] := by
    intro n4
    induction n4 with
    | zero => intro i S hi hS hm4; exact absurd hm4 (Nat.not_lt_zero _)
    | succ n4 ih4 =>
      intro i S hi hS hm4
      refine V.iload_n (q := 5) F dX0_sumOfRoses_4 rfl rfl rfl ?_
      refine V.bipush (q := 7) F dX0_sumOfRoses_5 rfl (by decide) ?_
      refine V.icmp_ge (q := 10) (tgt := 27) F dX0_sumOfRoses_7 rfl (by decide) (by omega) (fun k7 => ?_) (fun k7 => ?_)
      · refine V.iload_n (q := 28) F dX0_sumOfRoses_27 rfl rfl rfl ?_
        exact V.iret F T dX0_sumOfRoses_28 (fnI (by rw [hS, show i = 16 by omega]; rfl) rfl) [hd, hr] rfl rfl
      · refine V.iload_n (q := 11) F dX0_sumOfRoses_10 rfl rfl rfl ?_
        refine V.aload_n (q := 12) F dX0_sumOfRoses_11 rfl rfl rfl ?_
        refine V.get (q := 15) F 0 0 dX0_sumOfRoses_12 rfl rfl rfl inX0_sumOfRoses_X0 (by decide) (List.mem_of_getElem? (i := 1) rfl) rfl ?_
        refine V.iload_n (q := 16) F dX0_sumOfRoses_15 rfl rfl rfl ?_
        refine V.iload_n (q := 17) F dX0_sumOfRoses_16 rfl rfl rfl ?_
        refine V.iadd (q := 18) F dX0_sumOfRoses_17 rfl ?_
        refine V.iald (q := 19) F 1 dX0_sumOfRoses_18 rfl rfl (by decide) (by omega) ?_
        refine V.iadd (q := 20) F dX0_sumOfRoses_19 rfl ?_
        refine V.istore_n (q := 21) (lo' := [_, _, _, _]) F dX0_sumOfRoses_20 rfl rfl (Nat.le_of_ble_eq_true rfl) rfl rfl ?_
        refine V.iinc (q := 24) (lo' := [_, _, _, _]) F dX0_sumOfRoses_21 rfl rfl (Nat.le_of_ble_eq_true rfl) rfl rfl ?_
        refine V.goto (tgt := 4) F dX0_sumOfRoses_24 (by decide) ?_
        exact ih4 (i + 1) _ (by omega) (by rw [hS]; exact (sz_succ _ hi.1).symm) (by omega)
  exact L4 _ 0 0 (by omega) (sz_self _ _).symm (Nat.lt_succ_self _)

abbrev YX0_hoursOfAll (l : Launch) (G : Gx) : Sx := (cX0_hoursOfAll, 1, RX0, wsX0_hoursOfAll, rmD 1, l, G)
theorem ydX0_hoursOfAll : ydOk yX0_hoursOfAll 0 := by decide +kernel
set_option maxHeartbeats 1000000 in
set_option maxRecDepth 20000 in
theorem c_X0_hoursOfAll (l : Launch) (G : Gx) (hd hr ht : Nat) (a : Int → Int)  : Ct l G yX0_hoursOfAll wsX0_hoursOfAll (rmD 1) [.ref hd] [(hd, .inr (0, [.ref hr, .ref ht])), (hr, aI G 26181 a)] (Fn (some (.int (zI (sumz a 25344 + sumz a 25360)))) [(hd, .inr (0, [.ref hr, .ref ht])), (hr, aI G 26181 a)]) := by
  refine Ct.intro (cc := cX0_hoursOfAll) (maxL := 1) (ret := (some .int)) (lo0 := [some (.ref hd)]) (by decide +kernel) rfl ⟨rfl, rfl⟩ (Nat.le_of_ble_eq_true rfl) rfl ?_
  intro X F T
  change Fx X (YX0_hoursOfAll l G) at F
  change V X (YX0_hoursOfAll l G) 0 0 0 _ _ _
  refine V.aload_n (q := 1) F dX0_hoursOfAll_0 rfl rfl rfl ?_
  refine V.sipush (q := 4) F dX0_hoursOfAll_1 rfl (by decide) ?_
  refine V.callV (q := 7) F [0, 1] 0 dX0_hoursOfAll_4 rfl (c_X0_sumOfRoses l G hd hr ht _ _ (by omega)) gX0_hoursOfAll_X0_sumOfRoses rfl rfl ydX0_sumOfRoses ⟨Nat.le_of_ble_eq_true rfl, Nat.le_of_ble_eq_true rfl⟩ (ci := 0) rfl rfl rfl rfl (Nat.le_of_ble_eq_true rfl) rfl rfl ⟨Nat.zero_le _, Nat.zero_le _⟩ (kkf (st' := [_]) (ws' := [_, _]) rfl rfl ?_)
  refine V.aload_n (q := 8) F dX0_hoursOfAll_7 rfl rfl rfl ?_
  refine V.sipush (q := 11) F dX0_hoursOfAll_8 rfl (by decide) ?_
  refine V.callV (q := 14) F [0, 1] 0 dX0_hoursOfAll_11 rfl (c_X0_sumOfRoses l G hd hr ht _ _ (by omega)) gX0_hoursOfAll_X0_sumOfRoses rfl rfl ydX0_sumOfRoses ⟨Nat.le_of_ble_eq_true rfl, Nat.le_of_ble_eq_true rfl⟩ (ci := 0) rfl rfl rfl rfl (Nat.le_of_ble_eq_true rfl) rfl rfl ⟨Nat.zero_le _, Nat.zero_le _⟩ (kkf (st' := [_, _]) (ws' := [_, _]) rfl rfl ?_)
  refine V.iadd (q := 15) F dX0_hoursOfAll_14 rfl ?_
  exact V.iret F T dX0_hoursOfAll_15 (fnI rfl rfl) [hd, hr] rfl rfl

abbrev YX0_calmHoursOfAll (l : Launch) (G : Gx) : Sx := (cX0_calmHoursOfAll, 1, RX0, wsX0_calmHoursOfAll, rmD 1, l, G)
theorem ydX0_calmHoursOfAll : ydOk yX0_calmHoursOfAll 0 := by decide +kernel
set_option maxHeartbeats 1000000 in
set_option maxRecDepth 20000 in
theorem c_X0_calmHoursOfAll (l : Launch) (G : Gx) (hd hr ht : Nat) (a : Int → Int)  : Ct l G yX0_calmHoursOfAll wsX0_calmHoursOfAll (rmD 1) [.ref hd] [(hd, .inr (0, [.ref hr, .ref ht])), (hr, aI G 26181 a)] (Fn (some (.int (zI (sumz a 25360)))) [(hd, .inr (0, [.ref hr, .ref ht])), (hr, aI G 26181 a)]) := by
  refine Ct.intro (cc := cX0_calmHoursOfAll) (maxL := 1) (ret := (some .int)) (lo0 := [some (.ref hd)]) (by decide +kernel) rfl ⟨rfl, rfl⟩ (Nat.le_of_ble_eq_true rfl) rfl ?_
  intro X F T
  change Fx X (YX0_calmHoursOfAll l G) at F
  change V X (YX0_calmHoursOfAll l G) 0 0 0 _ _ _
  refine V.aload_n (q := 1) F dX0_calmHoursOfAll_0 rfl rfl rfl ?_
  refine V.sipush (q := 4) F dX0_calmHoursOfAll_1 rfl (by decide) ?_
  refine V.callV (q := 7) F [0, 1] 0 dX0_calmHoursOfAll_4 rfl (c_X0_sumOfRoses l G hd hr ht _ _ (by omega)) gX0_calmHoursOfAll_X0_sumOfRoses rfl rfl ydX0_sumOfRoses ⟨Nat.le_of_ble_eq_true rfl, Nat.le_of_ble_eq_true rfl⟩ (ci := 0) rfl rfl rfl rfl (Nat.le_of_ble_eq_true rfl) rfl rfl ⟨Nat.zero_le _, Nat.zero_le _⟩ (kkf (st' := [_]) (ws' := [_, _]) rfl rfl ?_)
  exact V.iret F T dX0_calmHoursOfAll_7 (fnI rfl rfl) [hd, hr] rfl rfl

abbrev YX0_scrapesOfAll (l : Launch) (G : Gx) : Sx := (cX0_scrapesOfAll, 1, RX0, wsX0_scrapesOfAll, rmD 1, l, G)
theorem ydX0_scrapesOfAll : ydOk yX0_scrapesOfAll 0 := by decide +kernel
set_option maxHeartbeats 1000000 in
set_option maxRecDepth 20000 in
theorem c_X0_scrapesOfAll (l : Launch) (G : Gx) (hd hr ht : Nat) (a : Int → Int)  : Ct l G yX0_scrapesOfAll wsX0_scrapesOfAll (rmD 1) [.ref hd] [(hd, .inr (0, [.ref hr, .ref ht])), (hr, aI G 26181 a)] (Fn (some (.int (zI (sumz a 26160)))) [(hd, .inr (0, [.ref hr, .ref ht])), (hr, aI G 26181 a)]) := by
  refine Ct.intro (cc := cX0_scrapesOfAll) (maxL := 1) (ret := (some .int)) (lo0 := [some (.ref hd)]) (by decide +kernel) rfl ⟨rfl, rfl⟩ (Nat.le_of_ble_eq_true rfl) rfl ?_
  intro X F T
  change Fx X (YX0_scrapesOfAll l G) at F
  change V X (YX0_scrapesOfAll l G) 0 0 0 _ _ _
  refine V.aload_n (q := 1) F dX0_scrapesOfAll_0 rfl rfl rfl ?_
  refine V.sipush (q := 4) F dX0_scrapesOfAll_1 rfl (by decide) ?_
  refine V.callV (q := 7) F [0, 1] 0 dX0_scrapesOfAll_4 rfl (c_X0_sumOfRoses l G hd hr ht _ _ (by omega)) gX0_scrapesOfAll_X0_sumOfRoses rfl rfl ydX0_sumOfRoses ⟨Nat.le_of_ble_eq_true rfl, Nat.le_of_ble_eq_true rfl⟩ (ci := 0) rfl rfl rfl rfl (Nat.le_of_ble_eq_true rfl) rfl rfl ⟨Nat.zero_le _, Nat.zero_le _⟩ (kkf (st' := [_]) (ws' := [_, _]) rfl rfl ?_)
  exact V.iret F T dX0_scrapesOfAll_7 (fnI rfl rfl) [hd, hr] rfl rfl

abbrev YX0_putSetting (l : Launch) (G : Gx) : Sx := (cX0_putSetting, 3, RX0, wsX0_putSetting, rmD 0, l, G)
theorem ydX0_putSetting : ydOk yX0_putSetting 2 := by decide +kernel
theorem inX0_putSetting_X0 : ∀ w ∈ wsX00, w ∈ wsX0_putSetting := fun _ h => List.mem_cons_of_mem _ (List.mem_append_right _ h)
set_option maxHeartbeats 1000000 in
set_option maxRecDepth 20000 in
theorem c_X0_putSetting (l : Launch) (G : Gx) (hd hr ht : Nat) (a : Int → Int) (k v : Int) (h1 : 0 ≤ k ∧ k ≤ 2) : Ct l G yX0_putSetting wsX0_putSetting (rmD 0) [.ref hd, .int (zI k), .int (zI v)] [(hd, .inr (0, [.ref hr, .ref ht])), (hr, aI G 26181 a)] (Fn none [(hd, .inr (0, [.ref hr, .ref ht])), (hr, aI G 26181 (upz a (26176 + k) v))]) := by
  refine Ct.intro (cc := cX0_putSetting) (maxL := 3) (ret := none) (lo0 := [some (.ref hd), some (.int (zI k)), some (.int (zI v))]) (by decide +kernel) rfl ⟨rfl, rfl⟩ (Nat.le_of_ble_eq_true rfl) rfl ?_
  intro X F T
  change Fx X (YX0_putSetting l G) at F
  change V X (YX0_putSetting l G) 0 0 0 _ _ _
  refine V.aload_n (q := 1) F dX0_putSetting_0 rfl rfl rfl ?_
  refine V.get (q := 4) F 0 0 dX0_putSetting_1 rfl rfl rfl inX0_putSetting_X0 (by decide) (List.mem_of_getElem? (i := 1) rfl) rfl ?_
  refine V.sipush (q := 7) F dX0_putSetting_4 rfl (by decide) ?_
  refine V.iload_n (q := 8) F dX0_putSetting_7 rfl rfl rfl ?_
  refine V.iadd (q := 9) F dX0_putSetting_8 rfl ?_
  refine V.iload_n (q := 10) F dX0_putSetting_9 rfl rfl rfl ?_
  refine V.iast (q := 11) (ws' := [_, _]) F 1 dX0_putSetting_10 rfl rfl (by decide) (by omega) rfl ?_
  exact V.vret F T dX0_putSetting_11 ⟨rfl, rfl⟩ [hd, hr] rfl rfl

abbrev YX0_circle (l : Launch) (G : Gx) : Sx := (cX0_circle, 2, RX0, wsX0_circle, rmD 0, l, G)
theorem ydX0_circle : ydOk yX0_circle 1 := by decide +kernel
theorem inX0_circle_X0 : ∀ w ∈ wsX00, w ∈ wsX0_circle := fun _ h => List.mem_cons_of_mem _ (List.mem_append_right _ h)
set_option maxHeartbeats 1000000 in
set_option maxRecDepth 20000 in
theorem c_X0_circle (l : Launch) (G : Gx) (hd hr ht : Nat) (a : Int → Int) (r : Int) (h1 : 0 ≤ r ∧ r < 16) : Ct l G yX0_circle wsX0_circle (rmD 0) [.ref hd, .int (zI r)] [(hd, .inr (0, [.ref hr, .ref ht])), (hr, aI G 26181 a)] (Fn (some (.int (zI (a (26144 + r))))) [(hd, .inr (0, [.ref hr, .ref ht])), (hr, aI G 26181 a)]) := by
  refine Ct.intro (cc := cX0_circle) (maxL := 2) (ret := (some .int)) (lo0 := [some (.ref hd), some (.int (zI r))]) (by decide +kernel) rfl ⟨rfl, rfl⟩ (Nat.le_of_ble_eq_true rfl) rfl ?_
  intro X F T
  change Fx X (YX0_circle l G) at F
  change V X (YX0_circle l G) 0 0 0 _ _ _
  refine V.aload_n (q := 1) F dX0_circle_0 rfl rfl rfl ?_
  refine V.get (q := 4) F 0 0 dX0_circle_1 rfl rfl rfl inX0_circle_X0 (by decide) (List.mem_of_getElem? (i := 1) rfl) rfl ?_
  refine V.sipush (q := 7) F dX0_circle_4 rfl (by decide) ?_
  refine V.iload_n (q := 8) F dX0_circle_7 rfl rfl rfl ?_
  refine V.iadd (q := 9) F dX0_circle_8 rfl ?_
  refine V.iald (q := 10) F 1 dX0_circle_9 rfl rfl (by decide) (by omega) ?_
  exact V.iret F T dX0_circle_10 (fnI rfl rfl) [hd, hr] rfl rfl

abbrev YX0_scrapes (l : Launch) (G : Gx) : Sx := (cX0_scrapes, 2, RX0, wsX0_scrapes, rmD 0, l, G)
theorem ydX0_scrapes : ydOk yX0_scrapes 1 := by decide +kernel
theorem inX0_scrapes_X0 : ∀ w ∈ wsX00, w ∈ wsX0_scrapes := fun _ h => List.mem_cons_of_mem _ (List.mem_append_right _ h)
set_option maxHeartbeats 1000000 in
set_option maxRecDepth 20000 in
theorem c_X0_scrapes (l : Launch) (G : Gx) (hd hr ht : Nat) (a : Int → Int) (r : Int) (h1 : 0 ≤ r ∧ r < 16) : Ct l G yX0_scrapes wsX0_scrapes (rmD 0) [.ref hd, .int (zI r)] [(hd, .inr (0, [.ref hr, .ref ht])), (hr, aI G 26181 a)] (Fn (some (.int (zI (a (26160 + r))))) [(hd, .inr (0, [.ref hr, .ref ht])), (hr, aI G 26181 a)]) := by
  refine Ct.intro (cc := cX0_scrapes) (maxL := 2) (ret := (some .int)) (lo0 := [some (.ref hd), some (.int (zI r))]) (by decide +kernel) rfl ⟨rfl, rfl⟩ (Nat.le_of_ble_eq_true rfl) rfl ?_
  intro X F T
  change Fx X (YX0_scrapes l G) at F
  change V X (YX0_scrapes l G) 0 0 0 _ _ _
  refine V.aload_n (q := 1) F dX0_scrapes_0 rfl rfl rfl ?_
  refine V.get (q := 4) F 0 0 dX0_scrapes_1 rfl rfl rfl inX0_scrapes_X0 (by decide) (List.mem_of_getElem? (i := 1) rfl) rfl ?_
  refine V.sipush (q := 7) F dX0_scrapes_4 rfl (by decide) ?_
  refine V.iload_n (q := 8) F dX0_scrapes_7 rfl rfl rfl ?_
  refine V.iadd (q := 9) F dX0_scrapes_8 rfl ?_
  refine V.iald (q := 10) F 1 dX0_scrapes_9 rfl rfl (by decide) (by omega) ?_
  exact V.iret F T dX0_scrapes_10 (fnI rfl rfl) [hd, hr] rfl rfl

abbrev YX0_petalLength (l : Launch) (G : Gx) : Sx := (cX0_petalLength, 3, RX0, wsX0_petalLength, rmD 0, l, G)
theorem ydX0_petalLength : ydOk yX0_petalLength 2 := by decide +kernel
theorem inX0_petalLength_X0 : ∀ w ∈ wsX00, w ∈ wsX0_petalLength := fun _ h => List.mem_cons_of_mem _ (List.mem_append_right _ h)
set_option maxHeartbeats 1000000 in
set_option maxRecDepth 20000 in
theorem c_X0_petalLength (l : Launch) (G : Gx) (hd hr ht : Nat) (a : Int → Int) (r p : Int) (h1 : 0 ≤ r ∧ r < 16) (h2 : 0 ≤ p ∧ p < 48) : Ct l G yX0_petalLength wsX0_petalLength (rmD 0) [.ref hd, .int (zI r), .int (zI p)] [(hd, .inr (0, [.ref hr, .ref ht])), (hr, aI G 26181 a)] (Fn (some (.int (zI (a (25376 + r * 48 + p))))) [(hd, .inr (0, [.ref hr, .ref ht])), (hr, aI G 26181 a)]) := by
  refine Ct.intro (cc := cX0_petalLength) (maxL := 3) (ret := (some .int)) (lo0 := [some (.ref hd), some (.int (zI r)), some (.int (zI p))]) (by decide +kernel) rfl ⟨rfl, rfl⟩ (Nat.le_of_ble_eq_true rfl) rfl ?_
  intro X F T
  change Fx X (YX0_petalLength l G) at F
  change V X (YX0_petalLength l G) 0 0 0 _ _ _
  refine V.aload_n (q := 1) F dX0_petalLength_0 rfl rfl rfl ?_
  refine V.get (q := 4) F 0 0 dX0_petalLength_1 rfl rfl rfl inX0_petalLength_X0 (by decide) (List.mem_of_getElem? (i := 1) rfl) rfl ?_
  refine V.sipush (q := 7) F dX0_petalLength_4 rfl (by decide) ?_
  refine V.iload_n (q := 8) F dX0_petalLength_7 rfl rfl rfl ?_
  refine V.bipush (q := 10) F dX0_petalLength_8 rfl (by decide) ?_
  refine V.imul (q := 11) F dX0_petalLength_10 rfl ?_
  refine V.iadd (q := 12) F dX0_petalLength_11 rfl ?_
  refine V.iload_n (q := 13) F dX0_petalLength_12 rfl rfl rfl ?_
  refine V.iadd (q := 14) F dX0_petalLength_13 rfl ?_
  refine V.iald (q := 15) F 1 dX0_petalLength_14 rfl rfl (by decide) (by omega) ?_
  exact V.iret F T dX0_petalLength_15 (fnI rfl rfl) [hd, hr] rfl rfl

abbrev YX0_petalsCut (l : Launch) (G : Gx) : Sx := (cX0_petalsCut, 4, RX0, wsX0_petalsCut, rmD 1, l, G)
theorem ydX0_petalsCut : ydOk yX0_petalsCut 1 := by decide +kernel
set_option maxHeartbeats 1000000 in
set_option maxRecDepth 20000 in
theorem c_X0_petalsCut (l : Launch) (G : Gx) (hd hr ht : Nat) (a : Int → Int) (r : Int) (h1 : 0 ≤ r ∧ r < 16) (hI : Inv a) : Ct l G yX0_petalsCut wsX0_petalsCut (rmD 1) [.ref hd, .int (zI r)] [(hd, .inr (0, [.ref hr, .ref ht])), (hr, aI G 26181 a)] (Fn (some (.int (zI (cutz a r)))) [(hd, .inr (0, [.ref hr, .ref ht])), (hr, aI G 26181 a)]) := by
  refine Ct.intro (cc := cX0_petalsCut) (maxL := 4) (ret := (some .int)) (lo0 := [some (.ref hd), some (.int (zI r)), none, none]) (by decide +kernel) rfl ⟨rfl, rfl⟩ (Nat.le_of_ble_eq_true rfl) rfl ?_
  intro X F T
  change Fx X (YX0_petalsCut l G) at F
  change V X (YX0_petalsCut l G) 0 0 0 _ _ _
  refine V.iconst (q := 1) F dX0_petalsCut_0 rfl ?_
  refine V.istore_n (q := 2) (lo' := [_, _, _, _]) F dX0_petalsCut_1 rfl rfl (Nat.le_of_ble_eq_true rfl) rfl rfl ?_
  refine V.iconst (q := 3) F dX0_petalsCut_2 rfl ?_
  refine V.istore_n (q := 4) (lo' := [_, _, _, _]) F dX0_petalsCut_3 rfl rfl (Nat.le_of_ble_eq_true rfl) rfl rfl ?_
  have L4 : ∀ (nq : Nat) (i S : Int) (hi : 0 ≤ i ∧ i ≤ 48) (hS : S = sz (fun p => if 0 < a (25376 + r * 48 + p) then 1 else 0) 0 i), (48 - i).toNat < nq → V X (YX0_petalsCut l G) 0 0 4 [some (.ref hd), some (.int (zI r)), some (.int (zI S)), some (.int (zI i))] [] [(hd, .inr (0, [.ref hr, .ref ht])), (hr, aI G 26181 a)] := by
    intro n4
    induction n4 with
    | zero => intro i S hi hS hm4; exact absurd hm4 (Nat.not_lt_zero _)
    | succ n4 ih4 =>
      intro i S hi hS hm4
      have hb : i < 48 → 0 ≤ a (25376 + r * 48 + i) ∧ a (25376 + r * 48 + i) ≤ 100 := fun h => hI.p (by omega) (by omega)
      refine V.iload_n (q := 5) F dX0_petalsCut_4 rfl rfl rfl ?_
      refine V.bipush (q := 7) F dX0_petalsCut_5 rfl (by decide) ?_
      refine V.icmp_ge (q := 10) (tgt := 28) F dX0_petalsCut_7 rfl (by decide) (by omega) (fun k7 => ?_) (fun k7 => ?_)
      · refine V.iload_n (q := 29) F dX0_petalsCut_28 rfl rfl rfl ?_
        exact V.iret F T dX0_petalsCut_29 (fnI (by rw [hS, show i = 48 by omega]; rfl) rfl) [hd, hr] rfl rfl
      · refine V.aload_n (q := 11) F dX0_petalsCut_10 rfl rfl rfl ?_
        refine V.iload_n (q := 12) F dX0_petalsCut_11 rfl rfl rfl ?_
        refine V.iload_n (q := 13) F dX0_petalsCut_12 rfl rfl rfl ?_
        refine V.callV (q := 16) F [0, 1] 0 dX0_petalsCut_13 rfl (c_X0_petalLength l G hd hr ht _ _ _ (by omega) (by omega)) gX0_petalsCut_X0_petalLength rfl rfl ydX0_petalLength ⟨Nat.le_of_ble_eq_true rfl, Nat.le_of_ble_eq_true rfl⟩ (ci := 0) rfl rfl rfl rfl (Nat.le_of_ble_eq_true rfl) rfl rfl ⟨Nat.zero_le _, Nat.zero_le _⟩ (kkf (st' := [_]) (ws' := [_, _]) rfl rfl ?_)
        refine V.if_le (q := 19) (tgt := 22) F dX0_petalsCut_16 rfl (by decide) (by omega) (fun k16 => ?_) (fun k16 => ?_)
        · refine V.iinc (q := 25) (lo' := [_, _, _, _]) F dX0_petalsCut_22 rfl rfl (Nat.le_of_ble_eq_true rfl) rfl rfl ?_
          refine V.goto (tgt := 4) F dX0_petalsCut_25 (by decide) ?_
          exact ih4 (i + 1) _ (by omega) (by rw [sz_succ _ hi.1, ← hS]; first | rw [if_pos k16] | (rw [if_neg (by omega)]; exact (Int.add_zero _).symm)) (by omega)
        · refine V.iinc (q := 22) (lo' := [_, _, _, _]) F dX0_petalsCut_19 rfl rfl (Nat.le_of_ble_eq_true rfl) rfl rfl ?_
          refine V.iinc (q := 25) (lo' := [_, _, _, _]) F dX0_petalsCut_22 rfl rfl (Nat.le_of_ble_eq_true rfl) rfl rfl ?_
          refine V.goto (tgt := 4) F dX0_petalsCut_25 (by decide) ?_
          exact ih4 (i + 1) _ (by omega) (by rw [sz_succ _ hi.1, ← hS]; first | rw [if_pos k16] | (rw [if_neg (by omega)]; exact (Int.add_zero _).symm)) (by omega)
  exact L4 _ 0 0 (by omega) (sz_self _ _).symm (Nat.lt_succ_self _)

abbrev YX0_longestPetal (l : Launch) (G : Gx) : Sx := (cX0_longestPetal, 4, RX0, wsX0_longestPetal, rmD 1, l, G)
theorem ydX0_longestPetal : ydOk yX0_longestPetal 1 := by decide +kernel
set_option maxHeartbeats 1000000 in
set_option maxRecDepth 20000 in
theorem c_X0_longestPetal (l : Launch) (G : Gx) (hd hr ht : Nat) (a : Int → Int) (r : Int) (h1 : 0 ≤ r ∧ r < 16) (hI : Inv a) : Ct l G yX0_longestPetal wsX0_longestPetal (rmD 1) [.ref hd, .int (zI r)] [(hd, .inr (0, [.ref hr, .ref ht])), (hr, aI G 26181 a)] (Fn (some (.int (zI (longz a r)))) [(hd, .inr (0, [.ref hr, .ref ht])), (hr, aI G 26181 a)]) := by
  refine Ct.intro (cc := cX0_longestPetal) (maxL := 4) (ret := (some .int)) (lo0 := [some (.ref hd), some (.int (zI r)), none, none]) (by decide +kernel) rfl ⟨rfl, rfl⟩ (Nat.le_of_ble_eq_true rfl) rfl ?_
  intro X F T
  change Fx X (YX0_longestPetal l G) at F
  change V X (YX0_longestPetal l G) 0 0 0 _ _ _
  refine V.iconst (q := 1) F dX0_longestPetal_0 rfl ?_
  refine V.istore_n (q := 2) (lo' := [_, _, _, _]) F dX0_longestPetal_1 rfl rfl (Nat.le_of_ble_eq_true rfl) rfl rfl ?_
  refine V.iconst (q := 3) F dX0_longestPetal_2 rfl ?_
  refine V.istore_n (q := 4) (lo' := [_, _, _, _]) F dX0_longestPetal_3 rfl rfl (Nat.le_of_ble_eq_true rfl) rfl rfl ?_
  have L4 : ∀ (nq : Nat) (i S : Int) (hi : 0 ≤ i ∧ i ≤ 48) (hS : S = mxz (fun p => a (25376 + r * 48 + p)) i.toNat) (hS2 : 0 ≤ S ∧ S < 1000), (48 - i).toNat < nq → V X (YX0_longestPetal l G) 0 0 4 [some (.ref hd), some (.int (zI r)), some (.int (zI S)), some (.int (zI i))] [] [(hd, .inr (0, [.ref hr, .ref ht])), (hr, aI G 26181 a)] := by
    intro n4
    induction n4 with
    | zero => intro i S hi hS hS2 hm4; exact absurd hm4 (Nat.not_lt_zero _)
    | succ n4 ih4 =>
      intro i S hi hS hS2 hm4
      have hb : i < 48 → 0 ≤ a (25376 + r * 48 + i) ∧ a (25376 + r * 48 + i) ≤ 100 := fun h => hI.p (by omega) (by omega)
      refine V.iload_n (q := 5) F dX0_longestPetal_4 rfl rfl rfl ?_
      refine V.bipush (q := 7) F dX0_longestPetal_5 rfl (by decide) ?_
      refine V.icmp_ge (q := 10) (tgt := 27) F dX0_longestPetal_7 rfl (by decide) (by omega) (fun k7 => ?_) (fun k7 => ?_)
      · refine V.iload_n (q := 28) F dX0_longestPetal_27 rfl rfl rfl ?_
        exact V.iret F T dX0_longestPetal_28 (fnI (by rw [hS, show i = 48 by omega]; rfl) rfl) [hd, hr] rfl rfl
      · refine V.iload_n (q := 11) F dX0_longestPetal_10 rfl rfl rfl ?_
        refine V.aload_n (q := 12) F dX0_longestPetal_11 rfl rfl rfl ?_
        refine V.iload_n (q := 13) F dX0_longestPetal_12 rfl rfl rfl ?_
        refine V.iload_n (q := 14) F dX0_longestPetal_13 rfl rfl rfl ?_
        refine V.callV (q := 17) F [0, 1] 0 dX0_longestPetal_14 rfl (c_X0_petalLength l G hd hr ht _ _ _ (by omega) (by omega)) gX0_longestPetal_X0_petalLength rfl rfl ydX0_petalLength ⟨Nat.le_of_ble_eq_true rfl, Nat.le_of_ble_eq_true rfl⟩ (ci := 0) rfl rfl rfl rfl (Nat.le_of_ble_eq_true rfl) rfl rfl ⟨Nat.zero_le _, Nat.zero_le _⟩ (kkf (st' := [_, _]) (ws' := [_, _]) rfl rfl ?_)
        refine V.mmax (q := 20) F dX0_longestPetal_17 rfl (List.mem_of_getElem? (i := 1) rfl) (List.mem_of_getElem? (i := 2) rfl) (List.mem_of_getElem? (i := 3) rfl) (List.mem_of_getElem? (i := 4) rfl) (Nat.le_of_ble_eq_true rfl) (Nat.le_of_ble_eq_true rfl) ⟨Nat.zero_le _, Nat.zero_le _⟩ (by omega) ?_
        refine V.istore_n (q := 21) (lo' := [_, _, _, _]) F dX0_longestPetal_20 rfl rfl (Nat.le_of_ble_eq_true rfl) rfl rfl ?_
        refine V.iinc (q := 24) (lo' := [_, _, _, _]) F dX0_longestPetal_21 rfl rfl (Nat.le_of_ble_eq_true rfl) rfl rfl ?_
        refine V.goto (tgt := 4) F dX0_longestPetal_24 (by decide) ?_
        exact ih4 (i + 1) _ (by omega) (by rw [show (i + 1).toNat = i.toNat + 1 by omega, mxz, ← hS, Int.toNat_of_nonneg hi.1]) (by omega) (by omega)
  exact L4 _ 0 0 (by omega) rfl (by omega) (Nat.lt_succ_self _)

abbrev YX0_cut (l : Launch) (G : Gx) : Sx := (cX0_cut, 4, RX0, wsX0_cut, rmD 3, l, G)
theorem ydX0_cut : ydOk yX0_cut 3 := by decide +kernel
theorem inX0_cut_X0 : ∀ w ∈ wsX00, w ∈ wsX0_cut := fun _ h => List.mem_cons_of_mem _ (List.mem_append_right _ h)
theorem inX0_cut_X4 : ∀ w ∈ wsX40, w ∈ wsX0_cut := fun _ h => List.mem_cons_of_mem _ (List.mem_append_left _ (List.mem_append_right _ h))
set_option maxHeartbeats 1000000 in
set_option maxRecDepth 20000 in
theorem c_X0_cut (l : Launch) (G : Gx) (hd hr ht hs hsr hsm hsg : Nat) (a sh : Int → Int) (r n mi : Int) (h1 : 0 ≤ r ∧ r < 16) (hw : 0 ≤ a (25344 + r) ∧ 0 ≤ a (25360 + r) ∧ a (25344 + r) + a (25360 + r) ≤ 9999) : Ct l G yX0_cut wsX0_cut (rmD 3) [.ref hd, .int (zI r), .ref hs, .int (zI n)] [(hd, .inr (0, [.ref hr, .ref ht])), (hr, aI G 26181 a), (hs, .inr (4, [.ref hsr, .ref hsm, .ref hsg, .int (zI mi)])), (hsr, aI G 48 sh)] (Fn none [(hd, .inr (0, [.ref hr, .ref ht])), (hr, aI G 26181 (cutA a r sh n)), (hs, .inr (4, [.ref hsr, .ref hsm, .ref hsg, .int (zI mi)])), (hsr, aI G 48 sh)]) := by
  refine Ct.intro (cc := cX0_cut) (maxL := 4) (ret := none) (lo0 := [some (.ref hd), some (.int (zI r)), some (.ref hs), some (.int (zI n))]) (by decide +kernel) rfl ⟨rfl, rfl⟩ (Nat.le_of_ble_eq_true rfl) rfl ?_
  intro X F T
  change Fx X (YX0_cut l G) at F
  change V X (YX0_cut l G) 0 0 0 _ _ _
  refine V.aload_n (q := 1) F dX0_cut_0 rfl rfl rfl ?_
  refine V.get (q := 4) F 2 0 dX0_cut_1 rfl rfl rfl inX0_cut_X4 (by decide) (List.mem_of_getElem? (i := 1) rfl) rfl ?_
  refine V.iconst (q := 5) F dX0_cut_4 rfl ?_
  refine V.aload_n (q := 6) F dX0_cut_5 rfl rfl rfl ?_
  refine V.get (q := 9) F 0 0 dX0_cut_6 rfl rfl rfl inX0_cut_X0 (by decide) (List.mem_of_getElem? (i := 2) rfl) rfl ?_
  refine V.sipush (q := 12) F dX0_cut_9 rfl (by decide) ?_
  refine V.iload_n (q := 13) F dX0_cut_12 rfl rfl rfl ?_
  refine V.bipush (q := 15) F dX0_cut_13 rfl (by decide) ?_
  refine V.imul (q := 16) F dX0_cut_15 rfl ?_
  refine V.iadd (q := 17) F dX0_cut_16 rfl ?_
  refine V.bipush (q := 19) F dX0_cut_17 rfl (by decide) ?_
  refine V.copyi (q := 22) (ws' := [_, _, _, _]) F 3 1 dX0_cut_19 rfl (List.mem_of_getElem? (i := 3) rfl) (List.mem_of_getElem? (i := 4) rfl) (List.mem_of_getElem? (i := 5) rfl) (List.mem_of_getElem? (i := 6) rfl) rfl rfl ⟨by omega, by omega, by omega⟩ (Nat.le_of_ble_eq_true rfl) (Nat.le_of_ble_eq_true rfl) rfl ?_
  refine V.aload_n (q := 23) F dX0_cut_22 rfl rfl rfl ?_
  refine V.get (q := 26) F 0 0 dX0_cut_23 rfl rfl rfl inX0_cut_X0 (by decide) (List.mem_of_getElem? (i := 2) rfl) rfl ?_
  refine V.sipush (q := 29) F dX0_cut_26 rfl (by decide) ?_
  refine V.iload_n (q := 30) F dX0_cut_29 rfl rfl rfl ?_
  refine V.iadd (q := 31) F dX0_cut_30 rfl ?_
  refine V.aload_n (q := 32) F dX0_cut_31 rfl rfl rfl ?_
  refine V.iload_n (q := 33) F dX0_cut_32 rfl rfl rfl ?_
  refine V.callV (q := 36) F [0, 1] 0 dX0_cut_33 rfl (c_X0_calmShare l G hd hr ht _ _ (by omega) (by simp only [cpz]; rw [if_neg (by omega), if_neg (by omega)]; exact hw)) gX0_cut_X0_calmShare rfl rfl ydX0_calmShare ⟨Nat.le_of_ble_eq_true rfl, Nat.le_of_ble_eq_true rfl⟩ (ci := 0) rfl rfl rfl rfl (Nat.le_of_ble_eq_true rfl) rfl rfl ⟨Nat.zero_le _, Nat.zero_le _⟩ (kkf (st' := [_, _, _]) (ws' := [_, _, _, _]) rfl rfl ?_)
  refine V.iast (q := 37) (ws' := [_, _, _, _]) F 1 dX0_cut_36 rfl rfl (by decide) (by omega) rfl ?_
  refine V.aload_n (q := 38) F dX0_cut_37 rfl rfl rfl ?_
  refine V.get (q := 41) F 0 0 dX0_cut_38 rfl rfl rfl inX0_cut_X0 (by decide) (List.mem_of_getElem? (i := 2) rfl) rfl ?_
  refine V.sipush (q := 44) F dX0_cut_41 rfl (by decide) ?_
  refine V.iload_n (q := 45) F dX0_cut_44 rfl rfl rfl ?_
  refine V.iadd (q := 46) F dX0_cut_45 rfl ?_
  refine V.dup2 (q := 47) F dX0_cut_46 rfl rfl rfl ?_
  refine V.iald (q := 48) F 1 dX0_cut_47 rfl rfl (by decide) (by omega) ?_
  refine V.iload_n (q := 49) F dX0_cut_48 rfl rfl rfl ?_
  refine V.iadd (q := 50) F dX0_cut_49 rfl ?_
  refine V.iast (q := 51) (ws' := [_, _, _, _]) F 1 dX0_cut_50 rfl rfl (by decide) (by omega) rfl ?_
  refine V.aload_n (q := 52) F dX0_cut_51 rfl rfl rfl ?_
  refine V.get (q := 55) F 0 0 dX0_cut_52 rfl rfl rfl inX0_cut_X0 (by decide) (List.mem_of_getElem? (i := 2) rfl) rfl ?_
  refine V.sipush (q := 58) F dX0_cut_55 rfl (by decide) ?_
  refine V.dup2 (q := 59) F dX0_cut_58 rfl rfl rfl ?_
  refine V.iald (q := 60) F 1 dX0_cut_59 rfl rfl (by decide) (by omega) ?_
  refine V.iconst (q := 61) F dX0_cut_60 rfl ?_
  refine V.iadd (q := 62) F dX0_cut_61 rfl ?_
  refine V.iast (q := 63) (ws' := [_, _, _, _]) F 1 dX0_cut_62 rfl rfl (by decide) (by omega) rfl ?_
  exact V.vret F T dX0_cut_63 ⟨rfl, rfl⟩ [hd, hr, hs, hsr] rfl rfl

abbrev YX0_isNewPlate (l : Launch) (G : Gx) : Sx := (cX0_isNewPlate, 2, RX0, wsX0_isNewPlate, rmD 2, l, G)
theorem ydX0_isNewPlate : ydOk yX0_isNewPlate 1 := by decide +kernel
set_option maxHeartbeats 1000000 in
set_option maxRecDepth 20000 in
theorem c_X0_isNewPlate (l : Launch) (G : Gx) (hd hr ht : Nat) (a : Int → Int) (r : Int) (h1 : 0 ≤ r ∧ r < 16) (hI : Inv a) : Ct l G yX0_isNewPlate wsX0_isNewPlate (rmD 2) [.ref hd, .int (zI r)] [(hd, .inr (0, [.ref hr, .ref ht])), (hr, aI G 26181 a)] (Fn (some (.int (zI (if cutz a r = 0 ∧ a (26144 + r) = 0 ∧ a (26160 + r) = 0 then 1 else 0)))) [(hd, .inr (0, [.ref hr, .ref ht])), (hr, aI G 26181 a)]) := by
  refine Ct.intro (cc := cX0_isNewPlate) (maxL := 2) (ret := (some .boolean)) (lo0 := [some (.ref hd), some (.int (zI r))]) (by decide +kernel) rfl ⟨rfl, rfl⟩ (Nat.le_of_ble_eq_true rfl) rfl ?_
  intro X F T
  change Fx X (YX0_isNewPlate l G) at F
  change V X (YX0_isNewPlate l G) 0 0 0 _ _ _
  have hb := hI.p (j := 26144 + r) (by omega) (by omega)
  have hb2 := hI.p (j := 26160 + r) (by omega) (by omega)
  have hq : 0 ≤ cutz a r ∧ cutz a r ≤ 48 := cutz_rng a r
  refine V.aload_n (q := 1) F dX0_isNewPlate_0 rfl rfl rfl ?_
  refine V.iload_n (q := 2) F dX0_isNewPlate_1 rfl rfl rfl ?_
  refine V.callV (q := 5) F [0, 1] 0 dX0_isNewPlate_2 rfl (c_X0_petalsCut l G hd hr ht _ _ (by omega) hI) gX0_isNewPlate_X0_petalsCut rfl rfl ydX0_petalsCut ⟨Nat.le_of_ble_eq_true rfl, Nat.le_of_ble_eq_true rfl⟩ (ci := 0) rfl rfl rfl rfl (Nat.le_of_ble_eq_true rfl) rfl rfl ⟨Nat.zero_le _, Nat.zero_le _⟩ (kkf (st' := [_]) (ws' := [_, _]) rfl rfl ?_)
  refine V.if_ne (q := 8) (tgt := 28) F dX0_isNewPlate_5 rfl (by decide) (by omega) (fun k5 => ?_) (fun k5 => ?_)
  · refine V.iconst (q := 29) F dX0_isNewPlate_28 rfl ?_
    exact V.zret F T (by omega) dX0_isNewPlate_29 (fnI (by omega) rfl) [hd, hr] rfl rfl
  · refine V.aload_n (q := 9) F dX0_isNewPlate_8 rfl rfl rfl ?_
    refine V.iload_n (q := 10) F dX0_isNewPlate_9 rfl rfl rfl ?_
    refine V.callV (q := 13) F [0, 1] 0 dX0_isNewPlate_10 rfl (c_X0_circle l G hd hr ht _ _ (by omega)) gX0_isNewPlate_X0_circle rfl rfl ydX0_circle ⟨Nat.le_of_ble_eq_true rfl, Nat.le_of_ble_eq_true rfl⟩ (ci := 0) rfl rfl rfl rfl (Nat.le_of_ble_eq_true rfl) rfl rfl ⟨Nat.zero_le _, Nat.zero_le _⟩ (kkf (st' := [_]) (ws' := [_, _]) rfl rfl ?_)
    refine V.if_ne (q := 16) (tgt := 28) F dX0_isNewPlate_13 rfl (by decide) (by omega) (fun k13 => ?_) (fun k13 => ?_)
    · refine V.iconst (q := 29) F dX0_isNewPlate_28 rfl ?_
      exact V.zret F T (by omega) dX0_isNewPlate_29 (fnI (by omega) rfl) [hd, hr] rfl rfl
    · refine V.aload_n (q := 17) F dX0_isNewPlate_16 rfl rfl rfl ?_
      refine V.iload_n (q := 18) F dX0_isNewPlate_17 rfl rfl rfl ?_
      refine V.callV (q := 21) F [0, 1] 0 dX0_isNewPlate_18 rfl (c_X0_scrapes l G hd hr ht _ _ (by omega)) gX0_isNewPlate_X0_scrapes rfl rfl ydX0_scrapes ⟨Nat.le_of_ble_eq_true rfl, Nat.le_of_ble_eq_true rfl⟩ (ci := 0) rfl rfl rfl rfl (Nat.le_of_ble_eq_true rfl) rfl rfl ⟨Nat.zero_le _, Nat.zero_le _⟩ (kkf (st' := [_]) (ws' := [_, _]) rfl rfl ?_)
      refine V.if_ne (q := 24) (tgt := 28) F dX0_isNewPlate_21 rfl (by decide) (by omega) (fun k21 => ?_) (fun k21 => ?_)
      · refine V.iconst (q := 29) F dX0_isNewPlate_28 rfl ?_
        exact V.zret F T (by omega) dX0_isNewPlate_29 (fnI (by omega) rfl) [hd, hr] rfl rfl
      · refine V.iconst (q := 25) F dX0_isNewPlate_24 rfl ?_
        refine V.goto (tgt := 29) F dX0_isNewPlate_25 (by decide) ?_
        exact V.zret F T (by omega) dX0_isNewPlate_29 (fnI (by omega) rfl) [hd, hr] rfl rfl

abbrev YX0_putNewPlate (l : Launch) (G : Gx) : Sx := (cX0_putNewPlate, 3, RX0, wsX0_putNewPlate, rmD 0, l, G)
theorem ydX0_putNewPlate : ydOk yX0_putNewPlate 1 := by decide +kernel
theorem inX0_putNewPlate_X0 : ∀ w ∈ wsX00, w ∈ wsX0_putNewPlate := fun _ h => List.mem_cons_of_mem _ (List.mem_append_right _ h)
set_option maxHeartbeats 1000000 in
set_option maxRecDepth 20000 in
theorem c_X0_putNewPlate (l : Launch) (G : Gx) (hd hr ht : Nat) (a : Int → Int) (r : Int) (h1 : 0 ≤ r ∧ r < 16) : Ct l G yX0_putNewPlate wsX0_putNewPlate (rmD 0) [.ref hd, .int (zI r)] [(hd, .inr (0, [.ref hr, .ref ht])), (hr, aI G 26181 a)] (Fn none [(hd, .inr (0, [.ref hr, .ref ht])), (hr, aI G 26181 (newA a r))]) := by
  refine Ct.intro (cc := cX0_putNewPlate) (maxL := 3) (ret := none) (lo0 := [some (.ref hd), some (.int (zI r)), none]) (by decide +kernel) rfl ⟨rfl, rfl⟩ (Nat.le_of_ble_eq_true rfl) rfl ?_
  intro X F T
  change Fx X (YX0_putNewPlate l G) at F
  change V X (YX0_putNewPlate l G) 0 0 0 _ _ _
  refine V.iconst (q := 1) F dX0_putNewPlate_0 rfl ?_
  refine V.istore_n (q := 2) (lo' := [_, _, _]) F dX0_putNewPlate_1 rfl rfl (Nat.le_of_ble_eq_true rfl) rfl rfl ?_
  have L2 : ∀ (nq : Nat) (i : Int) (hi : 0 ≤ i ∧ i ≤ 48), (48 - i).toNat < nq → V X (YX0_putNewPlate l G) 0 0 2 [some (.ref hd), some (.int (zI r)), some (.int (zI i))] [] [(hd, .inr (0, [.ref hr, .ref ht])), (hr, aI G 26181 (zeroI a r i))] := by
    intro n2
    induction n2 with
    | zero => intro i hi hm2; exact absurd hm2 (Nat.not_lt_zero _)
    | succ n2 ih2 =>
      intro i hi hm2
      refine V.iload_n (q := 3) F dX0_putNewPlate_2 rfl rfl rfl ?_
      refine V.bipush (q := 5) F dX0_putNewPlate_3 rfl (by decide) ?_
      refine V.icmp_ge (q := 8) (tgt := 30) F dX0_putNewPlate_5 rfl (by decide) (by omega) (fun k5 => ?_) (fun k5 => ?_)
      · have he : i = 48 := by omega
        subst he
        refine V.aload_n (q := 31) F dX0_putNewPlate_30 rfl rfl rfl ?_
        refine V.get (q := 34) F 0 0 dX0_putNewPlate_31 rfl rfl rfl inX0_putNewPlate_X0 (by decide) (List.mem_of_getElem? (i := 1) rfl) rfl ?_
        refine V.sipush (q := 37) F dX0_putNewPlate_34 rfl (by decide) ?_
        refine V.iload_n (q := 38) F dX0_putNewPlate_37 rfl rfl rfl ?_
        refine V.iadd (q := 39) F dX0_putNewPlate_38 rfl ?_
        refine V.iconst (q := 40) F dX0_putNewPlate_39 rfl ?_
        refine V.iast (q := 41) (ws' := [_, _]) F 1 dX0_putNewPlate_40 rfl rfl (by decide) (by omega) rfl ?_
        refine V.aload_n (q := 42) F dX0_putNewPlate_41 rfl rfl rfl ?_
        refine V.get (q := 45) F 0 0 dX0_putNewPlate_42 rfl rfl rfl inX0_putNewPlate_X0 (by decide) (List.mem_of_getElem? (i := 1) rfl) rfl ?_
        refine V.sipush (q := 48) F dX0_putNewPlate_45 rfl (by decide) ?_
        refine V.iload_n (q := 49) F dX0_putNewPlate_48 rfl rfl rfl ?_
        refine V.iadd (q := 50) F dX0_putNewPlate_49 rfl ?_
        refine V.iconst (q := 51) F dX0_putNewPlate_50 rfl ?_
        refine V.iast (q := 52) (ws' := [_, _]) F 1 dX0_putNewPlate_51 rfl rfl (by decide) (by omega) rfl ?_
        refine V.aload_n (q := 53) F dX0_putNewPlate_52 rfl rfl rfl ?_
        refine V.get (q := 56) F 0 0 dX0_putNewPlate_53 rfl rfl rfl inX0_putNewPlate_X0 (by decide) (List.mem_of_getElem? (i := 1) rfl) rfl ?_
        refine V.sipush (q := 59) F dX0_putNewPlate_56 rfl (by decide) ?_
        refine V.dup2 (q := 60) F dX0_putNewPlate_59 rfl rfl rfl ?_
        refine V.iald (q := 61) F 1 dX0_putNewPlate_60 rfl rfl (by decide) (by omega) ?_
        refine V.iconst (q := 62) F dX0_putNewPlate_61 rfl ?_
        refine V.iadd (q := 63) F dX0_putNewPlate_62 rfl ?_
        refine V.iast (q := 64) (ws' := [_, _]) F 1 dX0_putNewPlate_63 rfl rfl (by decide) (by omega) rfl ?_
        exact V.vret F T dX0_putNewPlate_64 ⟨rfl, rfl⟩ [hd, hr] rfl rfl
      · refine V.aload_n (q := 9) F dX0_putNewPlate_8 rfl rfl rfl ?_
        refine V.get (q := 12) F 0 0 dX0_putNewPlate_9 rfl rfl rfl inX0_putNewPlate_X0 (by decide) (List.mem_of_getElem? (i := 1) rfl) rfl ?_
        refine V.sipush (q := 15) F dX0_putNewPlate_12 rfl (by decide) ?_
        refine V.iload_n (q := 16) F dX0_putNewPlate_15 rfl rfl rfl ?_
        refine V.bipush (q := 18) F dX0_putNewPlate_16 rfl (by decide) ?_
        refine V.imul (q := 19) F dX0_putNewPlate_18 rfl ?_
        refine V.iadd (q := 20) F dX0_putNewPlate_19 rfl ?_
        refine V.iload_n (q := 21) F dX0_putNewPlate_20 rfl rfl rfl ?_
        refine V.iadd (q := 22) F dX0_putNewPlate_21 rfl ?_
        refine V.iconst (q := 23) F dX0_putNewPlate_22 rfl ?_
        refine V.iast (q := 24) (ws' := [_, _]) F 1 dX0_putNewPlate_23 rfl rfl (by decide) (by omega) rfl ?_
        rw [zeroI_s a hi.1]
        refine V.iinc (q := 27) (lo' := [_, _, _]) F dX0_putNewPlate_24 rfl rfl (Nat.le_of_ble_eq_true rfl) rfl rfl ?_
        refine V.goto (tgt := 2) F dX0_putNewPlate_27 (by decide) ?_
        exact ih2 (i + 1) (by omega) (by omega)
  refine V.eq (pc' := 2) (lo' := [_, _, _]) (st' := []) (ws' := [_, (hr, aI G 26181 (zeroI a r 0))]) rfl rfl rfl (by rw [zeroI_0]) ?_
  exact L2 _ 0 (by omega) (Nat.lt_succ_self _)

abbrev YX0_platesEngraved (l : Launch) (G : Gx) : Sx := (cX0_platesEngraved, 1, RX0, wsX0_platesEngraved, rmD 0, l, G)
theorem ydX0_platesEngraved : ydOk yX0_platesEngraved 0 := by decide +kernel
theorem inX0_platesEngraved_X0 : ∀ w ∈ wsX00, w ∈ wsX0_platesEngraved := fun _ h => List.mem_cons_of_mem _ (List.mem_append_right _ h)
set_option maxHeartbeats 1000000 in
set_option maxRecDepth 20000 in
theorem c_X0_platesEngraved (l : Launch) (G : Gx) (hd hr ht : Nat) (a : Int → Int)  : Ct l G yX0_platesEngraved wsX0_platesEngraved (rmD 0) [.ref hd] [(hd, .inr (0, [.ref hr, .ref ht])), (hr, aI G 26181 a)] (Fn (some (.int (zI (a 26179)))) [(hd, .inr (0, [.ref hr, .ref ht])), (hr, aI G 26181 a)]) := by
  refine Ct.intro (cc := cX0_platesEngraved) (maxL := 1) (ret := (some .int)) (lo0 := [some (.ref hd)]) (by decide +kernel) rfl ⟨rfl, rfl⟩ (Nat.le_of_ble_eq_true rfl) rfl ?_
  intro X F T
  change Fx X (YX0_platesEngraved l G) at F
  change V X (YX0_platesEngraved l G) 0 0 0 _ _ _
  refine V.aload_n (q := 1) F dX0_platesEngraved_0 rfl rfl rfl ?_
  refine V.get (q := 4) F 0 0 dX0_platesEngraved_1 rfl rfl rfl inX0_platesEngraved_X0 (by decide) (List.mem_of_getElem? (i := 1) rfl) rfl ?_
  refine V.sipush (q := 7) F dX0_platesEngraved_4 rfl (by decide) ?_
  refine V.iald (q := 8) F 1 dX0_platesEngraved_7 rfl rfl (by decide) (by omega) ?_
  exact V.iret F T dX0_platesEngraved_8 (fnI rfl rfl) [hd, hr] rfl rfl

abbrev YX0_platesRenewed (l : Launch) (G : Gx) : Sx := (cX0_platesRenewed, 1, RX0, wsX0_platesRenewed, rmD 0, l, G)
theorem ydX0_platesRenewed : ydOk yX0_platesRenewed 0 := by decide +kernel
theorem inX0_platesRenewed_X0 : ∀ w ∈ wsX00, w ∈ wsX0_platesRenewed := fun _ h => List.mem_cons_of_mem _ (List.mem_append_right _ h)
set_option maxHeartbeats 1000000 in
set_option maxRecDepth 20000 in
theorem c_X0_platesRenewed (l : Launch) (G : Gx) (hd hr ht : Nat) (a : Int → Int)  : Ct l G yX0_platesRenewed wsX0_platesRenewed (rmD 0) [.ref hd] [(hd, .inr (0, [.ref hr, .ref ht])), (hr, aI G 26181 a)] (Fn (some (.int (zI (a 26180)))) [(hd, .inr (0, [.ref hr, .ref ht])), (hr, aI G 26181 a)]) := by
  refine Ct.intro (cc := cX0_platesRenewed) (maxL := 1) (ret := (some .int)) (lo0 := [some (.ref hd)]) (by decide +kernel) rfl ⟨rfl, rfl⟩ (Nat.le_of_ble_eq_true rfl) rfl ?_
  intro X F T
  change Fx X (YX0_platesRenewed l G) at F
  change V X (YX0_platesRenewed l G) 0 0 0 _ _ _
  refine V.aload_n (q := 1) F dX0_platesRenewed_0 rfl rfl rfl ?_
  refine V.get (q := 4) F 0 0 dX0_platesRenewed_1 rfl rfl rfl inX0_platesRenewed_X0 (by decide) (List.mem_of_getElem? (i := 1) rfl) rfl ?_
  refine V.sipush (q := 7) F dX0_platesRenewed_4 rfl (by decide) ?_
  refine V.iald (q := 8) F 1 dX0_platesRenewed_7 rfl rfl (by decide) (by omega) ?_
  exact V.iret F T dX0_platesRenewed_8 (fnI rfl rfl) [hd, hr] rfl rfl

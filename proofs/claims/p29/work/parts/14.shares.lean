/-! Shares, Gap, History, Text: the words for what they hold -/
/-- f with its first i places replaced by h's -/
def fil (h f : Int → Int) (i : Int) : Int → Int := fun j => if 0 ≤ j ∧ j < i then h j else f j
theorem fil_0 (h f : Int → Int) : fil h f 0 = f := by
  funext j
  simp only [fil]
  rw [if_neg (by omega)]
theorem fil_s (h f : Int → Int) {i v : Int} (hi : 0 ≤ i) (hv : v = h i) : upz (fil h f i) i v = fil h f (i + 1) := by
  subst hv
  funext j
  simp only [fil, upz]
  by_cases h1 : j = i
  · rw [if_pos h1, if_pos (by omega), h1]
  · rw [if_neg h1]
    by_cases h2 : 0 ≤ j ∧ j < i
    · rw [if_pos h2, if_pos (by omega)]
    · rw [if_neg h2, if_neg (by omega)]
theorem fil_fil (h g f : Int → Int) (i : Int) : fil h (fil g f i) i = fil h f i := by
  funext j
  simp only [fil]
  by_cases h2 : 0 ≤ j ∧ j < i
  · rw [if_pos h2, if_pos h2]
  · rw [if_neg h2, if_neg h2, if_neg h2]
theorem fil_in (h f : Int → Int) {i j : Int} (h1 : 0 ≤ j) (h2 : j < i) : fil h f i j = h j := if_pos ⟨h1, h2⟩
theorem fil_out (h f : Int → Int) {i j : Int} (h1 : j < 0 ∨ i ≤ j) : fil h f i j = f j := if_neg (by omega)
def pthz (a : Int → Int) (r p : Int) : Int := phz a r (p / 3) (p % 3)
def shq (a : Int → Int) (r p : Int) : Int := if 0 < a (25344 + r) then 100 * pthz a r p / a (25344 + r) else 0
def srm (a : Int → Int) (r p : Int) : Int := if 0 < a (25344 + r) then 100 * pthz a r p % a (25344 + r) else 0
def mis (a : Int → Int) (r : Int) : Int := if 0 < a (25344 + r) then 100 - sz (shq a r) 0 48 else 0
def pah (m : Int → Int) (p : Int) : Int := sz (fun o => if m p < m o ∨ (m o = m p ∧ o < p) then 1 else 0) 0 48
def shr (a : Int → Int) (r p : Int) : Int := shq a r p + (if 0 < srm a r p ∧ pah (srm a r) p < mis a r then 1 else 0)
theorem pthz_rng {a : Int → Int} (h : Inv a) {r p : Int} (hr : 0 ≤ r ∧ r < 16) (hp : 0 ≤ p ∧ p < 48) : 0 ≤ pthz a r p ∧ pthz a r p ≤ a (25344 + r) := phz_rng h hr (by omega) (by omega)
theorem shq_rng {a : Int → Int} (h : Inv a) {r p : Int} (hr : 0 ≤ r ∧ r < 16) (hp : 0 ≤ p ∧ p < 48) : 0 ≤ shq a r p ∧ shq a r p ≤ 100 := by
  have h1 := pthz_rng h hr hp
  unfold shq
  split
  · exact ⟨Int.ediv_nonneg (by omega) (by omega), Int.le_of_lt_add_one (Int.ediv_lt_of_lt_mul (by omega) (by rw [show (100 + 1) * a (25344 + r) = 100 * a (25344 + r) + a (25344 + r) by rw [Int.add_mul]; omega]; omega))⟩
  · omega
theorem srm_rng {a : Int → Int} (h : Inv a) {r p : Int} (hr : 0 ≤ r ∧ r < 16) (hp : 0 ≤ p ∧ p < 48) : 0 ≤ srm a r p ∧ srm a r p < 10000 := by
  have h1 := h.w hr
  unfold srm
  split
  · have := Int.emod_nonneg (100 * pthz a r p) (show a (25344 + r) ≠ 0 by omega)
    have := Int.emod_lt_of_pos (100 * pthz a r p) (show 0 < a (25344 + r) by omega)
    omega
  · omega
theorem sz_le {f : Int → Int} {a b c : Int} (hab : a ≤ b) (hc : 0 ≤ c) (h : ∀ j : Int, a ≤ j → j < b → 0 ≤ f j ∧ f j ≤ c) : 0 ≤ sz f a b ∧ sz f a b ≤ c * (b - a) := by
  have key : ∀ n : Nat, a + n ≤ b → 0 ≤ sz f a (a + n) ∧ sz f a (a + n) ≤ c * n := by
    intro n
    induction n with
    | zero => intro _; simp [sz_self]
    | succ n ih =>
      intro hn
      have e : a + ((n + 1 : Nat) : Int) = (a + n) + 1 := by omega
      have h1 := ih (by omega)
      have h2 := h (a + n) (by omega) (by omega)
      have e2 : c * ((n + 1 : Nat) : Int) = c * n + c := by
        rw [show ((n + 1 : Nat) : Int) = (n : Int) + 1 by omega, Int.mul_add, Int.mul_one]
      rw [e, sz_succ _ (by omega), e2]; omega
  have := key (b - a).toNat (by omega)
  rw [show a + ((b - a).toNat : Int) = b by omega, show ((b - a).toNat : Int) = b - a by omega] at this
  exact this
theorem mis_rng {a : Int → Int} (h : Inv a) {r : Int} (hr : 0 ≤ r ∧ r < 16) : -5000 ≤ mis a r ∧ mis a r ≤ 100 := by
  have := sz_le (f := shq a r) (a := 0) (b := 48) (c := 100) (by omega) (by omega) (fun j h1 h2 => shq_rng h hr ⟨h1, h2⟩)
  unfold mis
  split <;> omega
theorem pah_rng (m : Int → Int) (p : Int) : 0 ≤ pah m p ∧ pah m p ≤ 48 := by
  have := sz_cnt (f := fun o => if m p < m o ∨ (m o = m p ∧ o < p) then 1 else 0) (a := 0) (b := 48) (by omega) (fun j _ _ => by split <;> omega)
  exact ⟨this.1, by unfold pah; omega⟩
theorem pah_congr {m m' : Int → Int} (h : ∀ j, 0 ≤ j → j < 48 → m j = m' j) {p : Int} (hp : 0 ≤ p ∧ p < 48) : pah m p = pah m' p := sz_congr (fun j h1 h2 => by rw [h j h1 h2, h p hp.1 hp.2])
theorem shr_rng {a : Int → Int} (h : Inv a) {r p : Int} (hr : 0 ≤ r ∧ r < 16) (hp : 0 ≤ p ∧ p < 48) : 0 ≤ shr a r p ∧ shr a r p ≤ 101 := by
  have := shq_rng h hr hp
  unfold shr
  split <;> omega
/-- the first of the greatest among those that have got none -/
def bsi (m g : Int → Int) : Nat → Int
  | 0 => -1
  | i + 1 => if g (i : Int) = 0 ∧ (bsi m g i < 0 ∨ m (bsi m g i) < m (i : Int)) then (i : Int) else bsi m g i
theorem bsi_rng (m g : Int → Int) : ∀ i : Nat, -1 ≤ bsi m g i ∧ bsi m g i < i
  | 0 => ⟨Int.le_refl _, by show (-1 : Int) < ((0 : Nat) : Int); omega⟩
  | i + 1 => by
    have := bsi_rng m g i
    rw [bsi]
    split <;> omega
def dlS (m : Int → Int) (s : (Int → Int) × (Int → Int)) : (Int → Int) × (Int → Int) :=
  if 0 ≤ bsi m s.2 48 then (upz s.1 (bsi m s.2 48) (s.1 (bsi m s.2 48) + 1), upz s.2 (bsi m s.2 48) 1) else s
def dlN (m : Int → Int) (s : (Int → Int) × (Int → Int)) : Nat → (Int → Int) × (Int → Int)
  | 0 => s
  | n + 1 => dlS m (dlN m s n)
theorem dlN_01 (m : Int → Int) (s : (Int → Int) × (Int → Int)) (h : ∀ j, 0 ≤ j → j < 48 → 0 ≤ s.2 j ∧ s.2 j ≤ 1) : ∀ n : Nat, ∀ j, 0 ≤ j → j < 48 → 0 ≤ (dlN m s n).2 j ∧ (dlN m s n).2 j ≤ 1
  | 0 => h
  | n + 1 => by
    intro j h1 h2
    have ih := dlN_01 m s h n j h1 h2
    rw [dlN, dlS]
    split
    · show 0 ≤ upz _ _ 1 j ∧ upz _ _ 1 j ≤ 1
      unfold upz
      split <;> omega
    · exact ih
def absz (x : Int) : Int := if 0 ≤ x then x else -x
def difz (a : Int → Int) (r : Int) : Int := sz (fun p => if a (25376 + r * 48 + p) = shr a r p then 0 else 1) 0 48 + (if a (26144 + r) = cshz a r then 0 else 1)
def disz (a : Int → Int) (r : Int) : Int := sz (fun p => absz (a (25376 + r * 48 + p) - shr a r p)) 0 48 + absz (a (26144 + r) - cshz a r)
def scrz (a : Int → Int) (r : Int) : Int := sz (fun p => if shr a r p < a (25376 + r * 48 + p) then 1 else 0) 0 48 + (if cshz a r < a (26144 + r) then 1 else 0)
theorem cshz_rng {a : Int → Int} (h : Inv a) {r : Int} (hr : 0 ≤ r ∧ r < 16) : 0 ≤ cshz a r ∧ cshz a r ≤ 100 := by
  have h1 := h.w hr
  unfold cshz allz
  split
  · refine ⟨Int.ediv_nonneg (by omega) (by omega), Int.le_of_lt_add_one (Int.ediv_lt_of_lt_mul (by omega) ?_)⟩
    rw [show (100 + 1) * (a (25344 + r) + a (25360 + r)) = 101 * a (25344 + r) + 101 * a (25360 + r) by rw [Int.mul_add]; rfl]
    omega
  · omega
theorem difz_rng {a : Int → Int} (r : Int) : 0 ≤ difz a r ∧ difz a r ≤ 49 := by
  have := sz_cnt (f := fun p => if a (25376 + r * 48 + p) = shr a r p then 0 else 1) (a := 0) (b := 48) (by omega) (fun j _ _ => by split <;> omega)
  unfold difz
  split <;> omega
theorem scrz_rng {a : Int → Int} (r : Int) : 0 ≤ scrz a r ∧ scrz a r ≤ 49 := by
  have := sz_cnt (f := fun p => if shr a r p < a (25376 + r * 48 + p) then 1 else 0) (a := 0) (b := 48) (by omega) (fun j _ _ => by split <;> omega)
  unfold scrz
  split <;> omega
theorem disz_rng {a : Int → Int} (h : Inv a) {r : Int} (hr : 0 ≤ r ∧ r < 16) : 0 ≤ disz a r ∧ disz a r ≤ 1000000 := by
  have h1 := sz_le (f := fun p => absz (a (25376 + r * 48 + p) - shr a r p)) (a := 0) (b := 48) (c := 1000) (by omega) (by omega) (fun j h1 h2 => by
    have g1 := shr_rng h hr ⟨h1, h2⟩
    have g2 := h.p (j := 25376 + r * 48 + j) (by omega) (by omega)
    unfold absz
    split <;> omega)
  have g3 := cshz_rng h hr
  have g4 := h.p (j := 26144 + r) (by omega) (by omega)
  unfold disz
  have : 0 ≤ absz (a (26144 + r) - cshz a r) ∧ absz (a (26144 + r) - cshz a r) ≤ 1000 := by
    unfold absz
    split <;> omega
  omega
def sgz (t : Int → Int) (n p : Int) : Int := if p < n then t p else -1
def dgz (t : Int → Int) (n p : Int) : Int := if 48 ≤ sgz t n p ∧ sgz t n p ≤ 57 then sgz t n p - 48 else -1
theorem vnar_char {c : Int} (hc : 0 ≤ c ∧ c < 65536) : vp_nar .char (zI c) = zI c := by
  have e : zI c = nI c.toNat := by
    unfold zI nI
    rw [← Int32.ofInt_eq_ofNat, Int.toNat_of_nonneg hc.1]
  unfold vp_nar
  rw [e, (pk_charN (show c.toNat < 65536 by omega)).1]

abbrev YX0_saveTo (l : Launch) (G : Gx) : Sx := (cX0_saveTo, 3, RX0, wsX0_saveTo, rmD 1, l, G)
theorem ydX0_saveTo : ydOk yX0_saveTo 2 := by decide +kernel
theorem inX0_saveTo_X0 : ∀ w ∈ wsX00, w ∈ wsX0_saveTo := fun _ h => List.mem_cons_of_mem _ (List.mem_append_right _ h)
set_option maxHeartbeats 1000000 in
set_option maxRecDepth 20000 in
theorem c_X0_saveTo (l : Launch) (G : Gx) (hd hr ht hx : Nat) (a b : Int → Int) (N : Nat) (k : Int) (h1 : 0 ≤ k ∧ k + 26181 ≤ (N : Int) ∧ N < 2147483648) : Ct l G yX0_saveTo wsX0_saveTo (rmD 1) [.ref hd, .ref hx, .int (zI k)] [(hd, .inr (0, [.ref hr, .ref ht])), (hr, aI G 26181 a), (hx, aI G N b)] (Fn none [(hd, .inr (0, [.ref hr, .ref ht])), (hr, aI G 26181 a), (hx, aI G N (cpz a b 0 k 26181))]) := by
  refine Ct.intro (cc := cX0_saveTo) (maxL := 3) (ret := none) (lo0 := [some (.ref hd), some (.ref hx), some (.int (zI k))]) (by decide +kernel) rfl ⟨rfl, rfl⟩ (Nat.le_of_ble_eq_true rfl) rfl ?_
  intro X F T
  change Fx X (YX0_saveTo l G) at F
  change V X (YX0_saveTo l G) 0 0 0 _ _ _
  refine V.aload_n (q := 1) F dX0_saveTo_0 rfl rfl rfl ?_
  refine V.get (q := 4) F 0 0 dX0_saveTo_1 rfl rfl rfl inX0_saveTo_X0 (by decide) (List.mem_of_getElem? (i := 1) rfl) rfl ?_
  refine V.iconst (q := 5) F dX0_saveTo_4 rfl ?_
  refine V.aload_n (q := 6) F dX0_saveTo_5 rfl rfl rfl ?_
  refine V.iload_n (q := 7) F dX0_saveTo_6 rfl rfl rfl ?_
  refine V.sipush (q := 10) F dX0_saveTo_7 rfl (by decide) ?_
  refine V.copyi (q := 13) (ws' := [_, _, _]) F 1 2 dX0_saveTo_10 rfl (List.mem_of_getElem? (i := 2) rfl) (List.mem_of_getElem? (i := 3) rfl) (List.mem_of_getElem? (i := 4) rfl) (List.mem_of_getElem? (i := 5) rfl) rfl rfl (by omega) (Nat.le_of_ble_eq_true rfl) (Nat.le_of_ble_eq_true rfl) rfl ?_
  exact V.vret F T dX0_saveTo_13 ⟨rfl, rfl⟩ [hd, hr, hx] rfl rfl

abbrev YX0_loadFrom (l : Launch) (G : Gx) : Sx := (cX0_loadFrom, 3, RX0, wsX0_loadFrom, rmD 1, l, G)
theorem ydX0_loadFrom : ydOk yX0_loadFrom 2 := by decide +kernel
theorem inX0_loadFrom_X0 : ∀ w ∈ wsX00, w ∈ wsX0_loadFrom := fun _ h => List.mem_cons_of_mem _ (List.mem_append_right _ h)
set_option maxHeartbeats 1000000 in
set_option maxRecDepth 20000 in
theorem c_X0_loadFrom (l : Launch) (G : Gx) (hd hr ht hx : Nat) (a b : Int → Int) (N : Nat) (k : Int) (h1 : 0 ≤ k ∧ k + 26181 ≤ (N : Int) ∧ N < 2147483648) : Ct l G yX0_loadFrom wsX0_loadFrom (rmD 1) [.ref hd, .ref hx, .int (zI k)] [(hd, .inr (0, [.ref hr, .ref ht])), (hr, aI G 26181 a), (hx, aI G N b)] (Fn none [(hd, .inr (0, [.ref hr, .ref ht])), (hr, aI G 26181 (cpz b a k 0 26181)), (hx, aI G N b)]) := by
  refine Ct.intro (cc := cX0_loadFrom) (maxL := 3) (ret := none) (lo0 := [some (.ref hd), some (.ref hx), some (.int (zI k))]) (by decide +kernel) rfl ⟨rfl, rfl⟩ (Nat.le_of_ble_eq_true rfl) rfl ?_
  intro X F T
  change Fx X (YX0_loadFrom l G) at F
  change V X (YX0_loadFrom l G) 0 0 0 _ _ _
  refine V.aload_n (q := 1) F dX0_loadFrom_0 rfl rfl rfl ?_
  refine V.iload_n (q := 2) F dX0_loadFrom_1 rfl rfl rfl ?_
  refine V.aload_n (q := 3) F dX0_loadFrom_2 rfl rfl rfl ?_
  refine V.get (q := 6) F 0 0 dX0_loadFrom_3 rfl rfl rfl inX0_loadFrom_X0 (by decide) (List.mem_of_getElem? (i := 1) rfl) rfl ?_
  refine V.iconst (q := 7) F dX0_loadFrom_6 rfl ?_
  refine V.sipush (q := 10) F dX0_loadFrom_7 rfl (by decide) ?_
  refine V.copyi (q := 13) (ws' := [_, _, _]) F 2 1 dX0_loadFrom_10 rfl (List.mem_of_getElem? (i := 2) rfl) (List.mem_of_getElem? (i := 3) rfl) (List.mem_of_getElem? (i := 4) rfl) (List.mem_of_getElem? (i := 5) rfl) rfl rfl (by omega) (Nat.le_of_ble_eq_true rfl) (Nat.le_of_ble_eq_true rfl) rfl ?_
  exact V.vret F T dX0_loadFrom_13 ⟨rfl, rfl⟩ [hd, hr, hx] rfl rfl

abbrev YX2_placeOf (l : Launch) (G : Gx) : Sx := (cX2_placeOf, 2, RX2, wsX2_placeOf, rmD 0, l, G)
theorem ydX2_placeOf : ydOk yX2_placeOf 1 := by decide +kernel
theorem inX2_placeOf_X2 : ∀ w ∈ wsX20, w ∈ wsX2_placeOf := fun _ h => List.mem_cons_of_mem _ (List.mem_append_right _ h)
set_option maxHeartbeats 1000000 in
set_option maxRecDepth 20000 in
theorem c_X2_placeOf (l : Launch) (G : Gx) (hh hhr : Nat) (o s k : Int) (ho : 0 ≤ o ∧ o < 4) (hk : 0 ≤ k ∧ k ≤ 4) : Ct l G yX2_placeOf wsX2_placeOf (rmD 0) [.ref hh, .int (zI k)] [(hh, .inr (2, [.ref hhr, .int (zI o), .int (zI s)]))] (Fn (some (.int (zI ((o + k) % 4 * 26181)))) [(hh, .inr (2, [.ref hhr, .int (zI o), .int (zI s)]))]) := by
  refine Ct.intro (cc := cX2_placeOf) (maxL := 2) (ret := (some .int)) (lo0 := [some (.ref hh), some (.int (zI k))]) (by decide +kernel) rfl ⟨rfl, rfl⟩ (Nat.le_of_ble_eq_true rfl) rfl ?_
  intro X F T
  change Fx X (YX2_placeOf l G) at F
  change V X (YX2_placeOf l G) 0 0 0 _ _ _
  refine V.aload_n (q := 1) F dX2_placeOf_0 rfl rfl rfl ?_
  refine V.get (q := 4) F 0 1 dX2_placeOf_1 rfl rfl rfl inX2_placeOf_X2 (by decide) (List.mem_of_getElem? (i := 1) rfl) rfl ?_
  refine V.iload_n (q := 5) F dX2_placeOf_4 rfl rfl rfl ?_
  refine V.iadd (q := 6) F dX2_placeOf_5 rfl ?_
  refine V.iconst (q := 7) F dX2_placeOf_6 rfl ?_
  refine V.irem (q := 8) F dX2_placeOf_7 rfl (by omega) ?_
  refine V.sipush (q := 11) F dX2_placeOf_8 rfl (by decide) ?_
  refine V.imul (q := 12) F dX2_placeOf_11 rfl ?_
  exact V.iret F T dX2_placeOf_12 (fnI rfl rfl) [hh] rfl rfl

abbrev YX2_remember (l : Launch) (G : Gx) : Sx := (cX2_remember, 2, RX2, wsX2_remember, rmD 2, l, G)
theorem ydX2_remember : ydOk yX2_remember 1 := by decide +kernel
theorem inX2_remember_X2 : ∀ w ∈ wsX20, w ∈ wsX2_remember := fun _ h => List.mem_cons_of_mem _ (List.mem_append_left _ (List.mem_append_right _ h))
set_option maxHeartbeats 1000000 in
set_option maxRecDepth 20000 in
theorem c_X2_remember (l : Launch) (G : Gx) (hh hhr hd hr ht : Nat) (a R : Int → Int) (o s : Int) (ho : 0 ≤ o ∧ o < 4) (hq : 0 ≤ s ∧ s ≤ 4) : Ct l G yX2_remember wsX2_remember (rmD 2) [.ref hh, .ref hd] [(hh, .inr (2, [.ref hhr, .int (zI o), .int (zI s)])), (hhr, aI G 104724 R), (hd, .inr (0, [.ref hr, .ref ht])), (hr, aI G 26181 a)] (Fn none [(hh, .inr (2, [.ref hhr, .int (zI (if s = 4 then (o + 1) % 4 else o)), .int (zI ((if s = 4 then 3 else s) + 1))])), (hhr, aI G 104724 (cpz a R 0 (((if s = 4 then (o + 1) % 4 else o) + (if s = 4 then 3 else s)) % 4 * 26181) 26181)), (hd, .inr (0, [.ref hr, .ref ht])), (hr, aI G 26181 a)]) := by
  refine Ct.intro (cc := cX2_remember) (maxL := 2) (ret := none) (lo0 := [some (.ref hh), some (.ref hd)]) (by decide +kernel) rfl ⟨rfl, rfl⟩ (Nat.le_of_ble_eq_true rfl) rfl ?_
  intro X F T
  change Fx X (YX2_remember l G) at F
  change V X (YX2_remember l G) 0 0 0 _ _ _
  have J30 : ∀ (x y : Int) (hx : x = if s = 4 then (o + 1) % 4 else o) (hy : y = if s = 4 then 3 else s), V X (YX2_remember l G) 0 0 30 [some (.ref hh), some (.ref hd)] [] [(hh, .inr (2, [.ref hhr, .int (zI x), .int (zI y)])), (hhr, aI G 104724 R), (hd, .inr (0, [.ref hr, .ref ht])), (hr, aI G 26181 a)] := by
    intro x y hx hy
    refine V.aload_n (q := 31) F dX2_remember_30 rfl rfl rfl ?_
    refine V.aload_n (q := 32) F dX2_remember_31 rfl rfl rfl ?_
    refine V.get (q := 35) F 0 0 dX2_remember_32 rfl rfl rfl inX2_remember_X2 (by decide) (List.mem_of_getElem? (i := 3) rfl) rfl ?_
    refine V.aload_n (q := 36) F dX2_remember_35 rfl rfl rfl ?_
    refine V.aload_n (q := 37) F dX2_remember_36 rfl rfl rfl ?_
    refine V.get (q := 40) F 0 2 dX2_remember_37 rfl rfl rfl inX2_remember_X2 (by decide) (List.mem_of_getElem? (i := 1) rfl) rfl ?_
    refine V.callV (q := 43) F [0] 0 dX2_remember_40 rfl (c_X2_placeOf l G hh hhr _ _ _ (by omega) (by omega)) gX2_remember_X2_placeOf rfl rfl ydX2_placeOf ⟨Nat.le_of_ble_eq_true rfl, Nat.le_of_ble_eq_true rfl⟩ (ci := 2) rfl rfl rfl rfl (Nat.le_of_ble_eq_true rfl) rfl rfl ⟨Nat.zero_le _, Nat.zero_le _⟩ (kkf (st' := [_, _, _]) (ws' := [_, _, _, _]) rfl rfl ?_)
    refine V.callV (q := 46) F [2, 3, 1] 2 dX2_remember_43 rfl (c_X0_saveTo l G hd hr ht hhr _ _ _ _ (by omega)) gX2_remember_X0_saveTo rfl rfl ydX0_saveTo ⟨Nat.le_of_ble_eq_true rfl, Nat.le_of_ble_eq_true rfl⟩ (ci := 0) rfl rfl rfl rfl (Nat.le_of_ble_eq_true rfl) rfl rfl ⟨Nat.zero_le _, Nat.zero_le _⟩ (kkf (st' := []) (ws' := [_, _, _, _]) rfl rfl ?_)
    refine V.aload_n (q := 47) F dX2_remember_46 rfl rfl rfl ?_
    refine V.dup (q := 48) F dX2_remember_47 rfl rfl ?_
    refine V.get (q := 51) F 0 2 dX2_remember_48 rfl rfl rfl inX2_remember_X2 (by decide) (List.mem_of_getElem? (i := 1) rfl) rfl ?_
    refine V.iconst (q := 52) F dX2_remember_51 rfl ?_
    refine V.iadd (q := 53) F dX2_remember_52 rfl ?_
    refine V.put (q := 56) (ws' := [_, _, _, _]) (fs' := [_, _, _]) F 0 2 dX2_remember_53 rfl rfl rfl inX2_remember_X2 tyX2 tyX2_ok nmX2 (by decide) (List.mem_of_getElem? (i := 1) rfl) rfl rfl rfl rfl (Nat.le_of_ble_eq_true rfl) rfl rfl ?_
    exact V.vret F T dX2_remember_56 ⟨rfl, (by subst hx; subst hy; rfl)⟩ [hh, hhr, hd, hr] rfl rfl
  refine V.aload_n (q := 1) F dX2_remember_0 rfl rfl rfl ?_
  refine V.get (q := 4) F 0 2 dX2_remember_1 rfl rfl rfl inX2_remember_X2 (by decide) (List.mem_of_getElem? (i := 1) rfl) rfl ?_
  refine V.iconst (q := 5) F dX2_remember_4 rfl ?_
  refine V.icmp_ne (q := 8) (tgt := 30) F dX2_remember_5 rfl (by decide) (by omega) (fun k5 => ?_) (fun k5 => ?_)
  · exact J30 _ _ (by omega) (by omega)
  · refine V.aload_n (q := 9) F dX2_remember_8 rfl rfl rfl ?_
    refine V.aload_n (q := 10) F dX2_remember_9 rfl rfl rfl ?_
    refine V.get (q := 13) F 0 1 dX2_remember_10 rfl rfl rfl inX2_remember_X2 (by decide) (List.mem_of_getElem? (i := 2) rfl) rfl ?_
    refine V.iconst (q := 14) F dX2_remember_13 rfl ?_
    refine V.iadd (q := 15) F dX2_remember_14 rfl ?_
    refine V.iconst (q := 16) F dX2_remember_15 rfl ?_
    refine V.irem (q := 17) F dX2_remember_16 rfl (by omega) ?_
    refine V.put (q := 20) (ws' := [_, _, _, _]) (fs' := [_, _, _]) F 0 1 dX2_remember_17 rfl rfl rfl inX2_remember_X2 tyX2 tyX2_ok nmX2 (by decide) (List.mem_of_getElem? (i := 2) rfl) rfl rfl rfl rfl (Nat.le_of_ble_eq_true rfl) rfl rfl ?_
    refine V.aload_n (q := 21) F dX2_remember_20 rfl rfl rfl ?_
    refine V.dup (q := 22) F dX2_remember_21 rfl rfl ?_
    refine V.get (q := 25) F 0 2 dX2_remember_22 rfl rfl rfl inX2_remember_X2 (by decide) (List.mem_of_getElem? (i := 1) rfl) rfl ?_
    refine V.iconst (q := 26) F dX2_remember_25 rfl ?_
    refine V.isub (q := 27) F dX2_remember_26 rfl ?_
    refine V.put (q := 30) (ws' := [_, _, _, _]) (fs' := [_, _, _]) F 0 2 dX2_remember_27 rfl rfl rfl inX2_remember_X2 tyX2 tyX2_ok nmX2 (by decide) (List.mem_of_getElem? (i := 1) rfl) rfl rfl rfl rfl (Nat.le_of_ble_eq_true rfl) rfl rfl ?_
    exact J30 _ _ (by omega) (by omega)

abbrev YX2_takeBack (l : Launch) (G : Gx) : Sx := (cX2_takeBack, 2, RX2, wsX2_takeBack, rmD 2, l, G)
theorem ydX2_takeBack : ydOk yX2_takeBack 1 := by decide +kernel
theorem inX2_takeBack_X2 : ∀ w ∈ wsX20, w ∈ wsX2_takeBack := fun _ h => List.mem_cons_of_mem _ (List.mem_append_left _ (List.mem_append_right _ h))
set_option maxHeartbeats 1000000 in
set_option maxRecDepth 20000 in
theorem c_X2_takeBack (l : Launch) (G : Gx) (hh hhr hd hr ht : Nat) (a R : Int → Int) (o s : Int) (ho : 0 ≤ o ∧ o < 4) (hq : 0 ≤ s ∧ s ≤ 4) (hp : 0 < s) : Ct l G yX2_takeBack wsX2_takeBack (rmD 2) [.ref hh, .ref hd] [(hh, .inr (2, [.ref hhr, .int (zI o), .int (zI s)])), (hhr, aI G 104724 R), (hd, .inr (0, [.ref hr, .ref ht])), (hr, aI G 26181 a)] (Fn none [(hh, .inr (2, [.ref hhr, .int (zI o), .int (zI (s - 1))])), (hhr, aI G 104724 R), (hd, .inr (0, [.ref hr, .ref ht])), (hr, aI G 26181 (cpz R a ((o + (s - 1)) % 4 * 26181) 0 26181))]) := by
  refine Ct.intro (cc := cX2_takeBack) (maxL := 2) (ret := none) (lo0 := [some (.ref hh), some (.ref hd)]) (by decide +kernel) rfl ⟨rfl, rfl⟩ (Nat.le_of_ble_eq_true rfl) rfl ?_
  intro X F T
  change Fx X (YX2_takeBack l G) at F
  change V X (YX2_takeBack l G) 0 0 0 _ _ _
  refine V.aload_n (q := 1) F dX2_takeBack_0 rfl rfl rfl ?_
  refine V.get (q := 4) F 0 2 dX2_takeBack_1 rfl rfl rfl inX2_takeBack_X2 (by decide) (List.mem_of_getElem? (i := 1) rfl) rfl ?_
  refine V.if_le (q := 7) (tgt := 33) F dX2_takeBack_4 rfl (by decide) (by omega) (fun k4 => by exfalso; omega) (fun k4 => ?_)
  refine V.aload_n (q := 8) F dX2_takeBack_7 rfl rfl rfl ?_
  refine V.dup (q := 9) F dX2_takeBack_8 rfl rfl ?_
  refine V.get (q := 12) F 0 2 dX2_takeBack_9 rfl rfl rfl inX2_takeBack_X2 (by decide) (List.mem_of_getElem? (i := 1) rfl) rfl ?_
  refine V.iconst (q := 13) F dX2_takeBack_12 rfl ?_
  refine V.isub (q := 14) F dX2_takeBack_13 rfl ?_
  refine V.put (q := 17) (ws' := [_, _, _, _]) (fs' := [_, _, _]) F 0 2 dX2_takeBack_14 rfl rfl rfl inX2_takeBack_X2 tyX2 tyX2_ok nmX2 (by decide) (List.mem_of_getElem? (i := 1) rfl) rfl rfl rfl rfl (Nat.le_of_ble_eq_true rfl) rfl rfl ?_
  refine V.aload_n (q := 18) F dX2_takeBack_17 rfl rfl rfl ?_
  refine V.aload_n (q := 19) F dX2_takeBack_18 rfl rfl rfl ?_
  refine V.get (q := 22) F 0 0 dX2_takeBack_19 rfl rfl rfl inX2_takeBack_X2 (by decide) (List.mem_of_getElem? (i := 2) rfl) rfl ?_
  refine V.aload_n (q := 23) F dX2_takeBack_22 rfl rfl rfl ?_
  refine V.aload_n (q := 24) F dX2_takeBack_23 rfl rfl rfl ?_
  refine V.get (q := 27) F 0 2 dX2_takeBack_24 rfl rfl rfl inX2_takeBack_X2 (by decide) (List.mem_of_getElem? (i := 1) rfl) rfl ?_
  refine V.callV (q := 30) F [0] 0 dX2_takeBack_27 rfl (c_X2_placeOf l G hh hhr _ _ _ (by omega) (by omega)) gX2_takeBack_X2_placeOf rfl rfl ydX2_placeOf ⟨Nat.le_of_ble_eq_true rfl, Nat.le_of_ble_eq_true rfl⟩ (ci := 2) rfl rfl rfl rfl (Nat.le_of_ble_eq_true rfl) rfl rfl ⟨Nat.zero_le _, Nat.zero_le _⟩ (kkf (st' := [_, _, _]) (ws' := [_, _, _, _]) rfl rfl ?_)
  refine V.callV (q := 33) F [2, 3, 1] 2 dX2_takeBack_30 rfl (c_X0_loadFrom l G hd hr ht hhr _ _ _ _ (by omega)) gX2_takeBack_X0_loadFrom rfl rfl ydX0_loadFrom ⟨Nat.le_of_ble_eq_true rfl, Nat.le_of_ble_eq_true rfl⟩ (ci := 0) rfl rfl rfl rfl (Nat.le_of_ble_eq_true rfl) rfl rfl ⟨Nat.zero_le _, Nat.zero_le _⟩ (kkf (st' := []) (ws' := [_, _, _, _]) rfl rfl ?_)
  exact V.vret F T dX2_takeBack_33 ⟨rfl, rfl⟩ [hh, hhr, hd, hr] rfl rfl

abbrev YX5_length (l : Launch) (G : Gx) : Sx := (cX5_length, 1, RX5, wsX5_length, rmD 0, l, G)
theorem ydX5_length : ydOk yX5_length 0 := by decide +kernel
theorem inX5_length_X5 : ∀ w ∈ wsX50, w ∈ wsX5_length := fun _ h => List.mem_cons_of_mem _ (List.mem_append_right _ h)
set_option maxHeartbeats 1000000 in
set_option maxRecDepth 20000 in
theorem c_X5_length (l : Launch) (G : Gx) (htx htr : Nat) (n : Int)  : Ct l G yX5_length wsX5_length (rmD 0) [.ref htx] [(htx, .inr (5, [.ref htr, .int (zI n)]))] (Fn (some (.int (zI n))) [(htx, .inr (5, [.ref htr, .int (zI n)]))]) := by
  refine Ct.intro (cc := cX5_length) (maxL := 1) (ret := (some .int)) (lo0 := [some (.ref htx)]) (by decide +kernel) rfl ⟨rfl, rfl⟩ (Nat.le_of_ble_eq_true rfl) rfl ?_
  intro X F T
  change Fx X (YX5_length l G) at F
  change V X (YX5_length l G) 0 0 0 _ _ _
  refine V.aload_n (q := 1) F dX5_length_0 rfl rfl rfl ?_
  refine V.get (q := 4) F 0 1 dX5_length_1 rfl rfl rfl inX5_length_X5 (by decide) (List.mem_of_getElem? (i := 1) rfl) rfl ?_
  exact V.iret F T dX5_length_4 (fnI rfl rfl) [htx] rfl rfl




abbrev YX5_isAt (l : Launch) (G : Gx) : Sx := (cX5_isAt, 3, RX5, wsX5_isAt, rmD 1, l, G)
theorem ydX5_isAt : ydOk yX5_isAt 2 := by decide +kernel
theorem inX5_isAt_X5 : ∀ w ∈ wsX50, w ∈ wsX5_isAt := fun _ h => List.mem_cons_of_mem _ (List.mem_append_right _ h)
set_option maxHeartbeats 1000000 in
set_option maxRecDepth 20000 in
theorem c_X5_isAt (l : Launch) (G : Gx) (htx htr : Nat) (t : Int → Int) (n p c : Int) (hn : 0 ≤ n ∧ n ≤ 80) (ht : ∀ j, 0 ≤ t j ∧ t j < 65536) (hp : 0 ≤ p ∧ p < 100000) (hc : 0 ≤ c ∧ c < 65536) : Ct l G yX5_isAt wsX5_isAt (rmD 1) [.ref htx, .int (zI p), .int (zI c)] [(htx, .inr (5, [.ref htr, .int (zI n)])), (htr, aC G 80 t)] (Fn (some (.int (zI (if sgz t n p = c then 1 else 0)))) [(htx, .inr (5, [.ref htr, .int (zI n)])), (htr, aC G 80 t)]) := by
  refine Ct.intro (cc := cX5_isAt) (maxL := 3) (ret := (some .boolean)) (lo0 := [some (.ref htx), some (.int (zI p)), some (.int (zI c))]) (by decide +kernel) rfl ⟨rfl, rfl⟩ (Nat.le_of_ble_eq_true rfl) rfl ?_
  intro X F T
  change Fx X (YX5_isAt l G) at F
  change V X (YX5_isAt l G) 0 0 0 _ _ _
  have hb := ht p
  have hg : sgz t n p = if p < n then t p else -1 := rfl
  refine V.iload_n (q := 1) F dX5_isAt_0 rfl rfl rfl ?_
  refine V.iconst (q := 2) F dX5_isAt_1 rfl ?_
  refine V.aload_n (q := 3) F dX5_isAt_2 rfl rfl rfl ?_
  refine V.get (q := 6) F 0 1 dX5_isAt_3 rfl rfl rfl inX5_isAt_X5 (by decide) (List.mem_of_getElem? (i := 1) rfl) rfl ?_
  refine V.iconst (q := 7) F dX5_isAt_6 rfl ?_
  refine V.isub (q := 8) F dX5_isAt_7 rfl ?_
  refine V.callSN (q := 11) (host := RX6) F [] dX5_isAt_8 rfl (c_X6_isBetween l G  _ _ _ (by omega) (by omega) (by omega)) gX5_isAt_X6_isBetween_n23 rfl ydX6_isBetween ⟨Nat.le_of_ble_eq_true rfl, Nat.le_of_ble_eq_true rfl⟩ (fun U h => h.2.2.2) (List.mem_of_getElem? (i := 4) rfl) (List.mem_of_getElem? (i := 3) rfl) rfl rfl (Nat.le_of_ble_eq_true rfl) rfl rfl ⟨Nat.zero_le _, Nat.zero_le _⟩ (kkf (st' := [_]) (ws' := [_, _]) rfl rfl ?_)
  refine V.if_eq (q := 14) (tgt := 28) F dX5_isAt_11 rfl (by decide) (by omega) (fun k11 => ?_) (fun k11 => ?_)
  · refine V.iconst (q := 29) F dX5_isAt_28 rfl ?_
    exact V.zret F T (by omega) dX5_isAt_29 (fnI (by omega) rfl) [htx, htr] rfl rfl
  · refine V.aload_n (q := 15) F dX5_isAt_14 rfl rfl rfl ?_
    refine V.get (q := 18) F 0 0 dX5_isAt_15 rfl rfl rfl inX5_isAt_X5 (by decide) (List.mem_of_getElem? (i := 2) rfl) rfl ?_
    refine V.iload_n (q := 19) F dX5_isAt_18 rfl rfl rfl ?_
    refine V.cald (q := 20) F 1 dX5_isAt_19 rfl rfl (by decide) (by omega) ?_
    refine V.iload_n (q := 21) F dX5_isAt_20 rfl rfl rfl ?_
    refine V.icmp_ne (q := 24) (tgt := 28) F dX5_isAt_21 rfl (by decide) (by omega) (fun k21 => ?_) (fun k21 => ?_)
    · refine V.iconst (q := 29) F dX5_isAt_28 rfl ?_
      exact V.zret F T (by omega) dX5_isAt_29 (fnI (by omega) rfl) [htx, htr] rfl rfl
    · refine V.iconst (q := 25) F dX5_isAt_24 rfl ?_
      refine V.goto (tgt := 29) F dX5_isAt_25 (by decide) ?_
      exact V.zret F T (by omega) dX5_isAt_29 (fnI (by omega) rfl) [htx, htr] rfl rfl

abbrev YX5_digitAt (l : Launch) (G : Gx) : Sx := (cX5_digitAt, 2, RX5, wsX5_digitAt, rmD 1, l, G)
theorem ydX5_digitAt : ydOk yX5_digitAt 1 := by decide +kernel
theorem inX5_digitAt_X5 : ∀ w ∈ wsX50, w ∈ wsX5_digitAt := fun _ h => List.mem_cons_of_mem _ (List.mem_append_right _ h)
set_option maxHeartbeats 1000000 in
set_option maxRecDepth 20000 in
theorem c_X5_digitAt (l : Launch) (G : Gx) (htx htr : Nat) (t : Int → Int) (n p : Int) (hn : 0 ≤ n ∧ n ≤ 80) (ht : ∀ j, 0 ≤ t j ∧ t j < 65536) (hp : 0 ≤ p ∧ p < 100000) : Ct l G yX5_digitAt wsX5_digitAt (rmD 1) [.ref htx, .int (zI p)] [(htx, .inr (5, [.ref htr, .int (zI n)])), (htr, aC G 80 t)] (Fn (some (.int (zI (dgz t n p)))) [(htx, .inr (5, [.ref htr, .int (zI n)])), (htr, aC G 80 t)]) := by
  refine Ct.intro (cc := cX5_digitAt) (maxL := 2) (ret := (some .int)) (lo0 := [some (.ref htx), some (.int (zI p))]) (by decide +kernel) rfl ⟨rfl, rfl⟩ (Nat.le_of_ble_eq_true rfl) rfl ?_
  intro X F T
  change Fx X (YX5_digitAt l G) at F
  change V X (YX5_digitAt l G) 0 0 0 _ _ _
  have hb := ht p
  have hg : sgz t n p = if p < n then t p else -1 := rfl
  have hd : dgz t n p = if 48 ≤ sgz t n p ∧ sgz t n p ≤ 57 then sgz t n p - 48 else -1 := rfl
  refine V.iload_n (q := 1) F dX5_digitAt_0 rfl rfl rfl ?_
  refine V.iconst (q := 2) F dX5_digitAt_1 rfl ?_
  refine V.aload_n (q := 3) F dX5_digitAt_2 rfl rfl rfl ?_
  refine V.get (q := 6) F 0 1 dX5_digitAt_3 rfl rfl rfl inX5_digitAt_X5 (by decide) (List.mem_of_getElem? (i := 1) rfl) rfl ?_
  refine V.iconst (q := 7) F dX5_digitAt_6 rfl ?_
  refine V.isub (q := 8) F dX5_digitAt_7 rfl ?_
  refine V.callSN (q := 11) (host := RX6) F [] dX5_digitAt_8 rfl (c_X6_isBetween l G  _ _ _ (by omega) (by omega) (by omega)) gX5_digitAt_X6_isBetween_n23 rfl ydX6_isBetween ⟨Nat.le_of_ble_eq_true rfl, Nat.le_of_ble_eq_true rfl⟩ (fun U h => h.2.2.2) (List.mem_of_getElem? (i := 4) rfl) (List.mem_of_getElem? (i := 3) rfl) rfl rfl (Nat.le_of_ble_eq_true rfl) rfl rfl ⟨Nat.zero_le _, Nat.zero_le _⟩ (kkf (st' := [_]) (ws' := [_, _]) rfl rfl ?_)
  refine V.if_eq (q := 14) (tgt := 30) F dX5_digitAt_11 rfl (by decide) (by omega) (fun k11 => ?_) (fun k11 => ?_)
  · refine V.iconst (q := 31) F dX5_digitAt_30 rfl ?_
    exact V.iret F T dX5_digitAt_31 (fnI (by omega) rfl) [htx, htr] rfl rfl
  · refine V.aload_n (q := 15) F dX5_digitAt_14 rfl rfl rfl ?_
    refine V.get (q := 18) F 0 0 dX5_digitAt_15 rfl rfl rfl inX5_digitAt_X5 (by decide) (List.mem_of_getElem? (i := 2) rfl) rfl ?_
    refine V.iload_n (q := 19) F dX5_digitAt_18 rfl rfl rfl ?_
    refine V.cald (q := 20) F 1 dX5_digitAt_19 rfl rfl (by decide) (by omega) ?_
    refine V.bipush (q := 22) F dX5_digitAt_20 rfl (by decide) ?_
    refine V.bipush (q := 24) F dX5_digitAt_22 rfl (by decide) ?_
    refine V.callSN (q := 27) (host := RX6) F [] dX5_digitAt_24 rfl (c_X6_isBetween l G  _ _ _ (by omega) (by omega) (by omega)) gX5_digitAt_X6_isBetween_n23 rfl ydX6_isBetween ⟨Nat.le_of_ble_eq_true rfl, Nat.le_of_ble_eq_true rfl⟩ (fun U h => h.2.2.2) (List.mem_of_getElem? (i := 4) rfl) (List.mem_of_getElem? (i := 3) rfl) rfl rfl (Nat.le_of_ble_eq_true rfl) rfl rfl ⟨Nat.zero_le _, Nat.zero_le _⟩ (kkf (st' := [_]) (ws' := [_, _]) rfl rfl ?_)
    refine V.if_ne (q := 30) (tgt := 32) F dX5_digitAt_27 rfl (by decide) (by omega) (fun k27 => ?_) (fun k27 => ?_)
    · refine V.aload_n (q := 33) F dX5_digitAt_32 rfl rfl rfl ?_
      refine V.get (q := 36) F 0 0 dX5_digitAt_33 rfl rfl rfl inX5_digitAt_X5 (by decide) (List.mem_of_getElem? (i := 2) rfl) rfl ?_
      refine V.iload_n (q := 37) F dX5_digitAt_36 rfl rfl rfl ?_
      refine V.cald (q := 38) F 1 dX5_digitAt_37 rfl rfl (by decide) (by omega) ?_
      refine V.bipush (q := 40) F dX5_digitAt_38 rfl (by decide) ?_
      refine V.isub (q := 41) F dX5_digitAt_40 rfl ?_
      exact V.iret F T dX5_digitAt_41 (fnI (by omega) rfl) [htx, htr] rfl rfl
    · refine V.iconst (q := 31) F dX5_digitAt_30 rfl ?_
      exact V.iret F T dX5_digitAt_31 (fnI (by omega) rfl) [htx, htr] rfl rfl

abbrev YX4_makeEmpty (l : Launch) (G : Gx) : Sx := (cX4_makeEmpty, 2, RX4, wsX4_makeEmpty, rmD 0, l, G)
theorem ydX4_makeEmpty : ydOk yX4_makeEmpty 0 := by decide +kernel
theorem inX4_makeEmpty_X4 : ∀ w ∈ wsX40, w ∈ wsX4_makeEmpty := fun _ h => List.mem_cons_of_mem _ (List.mem_append_right _ h)
set_option maxHeartbeats 1000000 in
set_option maxRecDepth 20000 in
theorem c_X4_makeEmpty (l : Launch) (G : Gx) (hs hsr hsm hsg : Nat) (f m : Int → Int) (mi : Int)  : Ct l G yX4_makeEmpty wsX4_makeEmpty (rmD 0) [.ref hs] [(hs, .inr (4, [.ref hsr, .ref hsm, .ref hsg, .int (zI mi)])), (hsr, aI G 48 f), (hsm, aI G 48 m)] (Fn none [(hs, .inr (4, [.ref hsr, .ref hsm, .ref hsg, .int (zI 0)])), (hsr, aI G 48 (fil (fun _ => 0) f 48)), (hsm, aI G 48 (fil (fun _ => 0) m 48))]) := by
  refine Ct.intro (cc := cX4_makeEmpty) (maxL := 2) (ret := none) (lo0 := [some (.ref hs), none]) (by decide +kernel) rfl ⟨rfl, rfl⟩ (Nat.le_of_ble_eq_true rfl) rfl ?_
  intro X F T
  change Fx X (YX4_makeEmpty l G) at F
  change V X (YX4_makeEmpty l G) 0 0 0 _ _ _
  refine V.aload_n (q := 1) F dX4_makeEmpty_0 rfl rfl rfl ?_
  refine V.iconst (q := 2) F dX4_makeEmpty_1 rfl ?_
  refine V.put (q := 5) (ws' := [_, _, _]) (fs' := [_, _, _, _]) F 0 3 dX4_makeEmpty_2 rfl rfl rfl inX4_makeEmpty_X4 tyX4 tyX4_ok nmX4 (by decide) (List.mem_of_getElem? (i := 1) rfl) rfl rfl rfl rfl (Nat.le_of_ble_eq_true rfl) rfl rfl ?_
  refine V.iconst (q := 6) F dX4_makeEmpty_5 rfl ?_
  refine V.istore_n (q := 7) (lo' := [_, _]) F dX4_makeEmpty_6 rfl rfl (Nat.le_of_ble_eq_true rfl) rfl rfl ?_
  have L7 : ∀ (nq : Nat) (i : Int) (hi : 0 ≤ i ∧ i ≤ 48), (48 - i).toNat < nq → V X (YX4_makeEmpty l G) 0 0 7 [some (.ref hs), some (.int (zI i))] [] [(hs, .inr (4, [.ref hsr, .ref hsm, .ref hsg, .int (zI 0)])), (hsr, aI G 48 (fil (fun _ => 0) f i)), (hsm, aI G 48 (fil (fun _ => 0) m i))] := by
    intro n7
    induction n7 with
    | zero => intro i hi hm7; exact absurd hm7 (Nat.not_lt_zero _)
    | succ n7 ih7 =>
      intro i hi hm7
      refine V.iload_n (q := 8) F dX4_makeEmpty_7 rfl rfl rfl ?_
      refine V.bipush (q := 10) F dX4_makeEmpty_8 rfl (by decide) ?_
      refine V.icmp_ge (q := 13) (tgt := 33) F dX4_makeEmpty_10 rfl (by decide) (by omega) (fun k10 => ?_) (fun k10 => ?_)
      · have he : i = 48 := by omega
        subst he
        exact V.vret F T dX4_makeEmpty_33 ⟨rfl, rfl⟩ [hs, hsr, hsm] rfl rfl
      · refine V.aload_n (q := 14) F dX4_makeEmpty_13 rfl rfl rfl ?_
        refine V.get (q := 17) F 0 0 dX4_makeEmpty_14 rfl rfl rfl inX4_makeEmpty_X4 (by decide) (List.mem_of_getElem? (i := 2) rfl) rfl ?_
        refine V.iload_n (q := 18) F dX4_makeEmpty_17 rfl rfl rfl ?_
        refine V.iconst (q := 19) F dX4_makeEmpty_18 rfl ?_
        refine V.iast (q := 20) (ws' := [_, _, _]) F 1 dX4_makeEmpty_19 rfl rfl (by decide) (by omega) rfl ?_
        refine V.aload_n (q := 21) F dX4_makeEmpty_20 rfl rfl rfl ?_
        refine V.get (q := 24) F 0 1 dX4_makeEmpty_21 rfl rfl rfl inX4_makeEmpty_X4 (by decide) (List.mem_of_getElem? (i := 3) rfl) rfl ?_
        refine V.iload_n (q := 25) F dX4_makeEmpty_24 rfl rfl rfl ?_
        refine V.iconst (q := 26) F dX4_makeEmpty_25 rfl ?_
        refine V.iast (q := 27) (ws' := [_, _, _]) F 2 dX4_makeEmpty_26 rfl rfl (by decide) (by omega) rfl ?_
        rw [fil_s _ _ hi.1 rfl, fil_s _ _ hi.1 rfl]
        refine V.iinc (q := 30) (lo' := [_, _]) F dX4_makeEmpty_27 rfl rfl (Nat.le_of_ble_eq_true rfl) rfl rfl ?_
        refine V.goto (tgt := 7) F dX4_makeEmpty_30 (by decide) ?_
        exact ih7 (i + 1) (by omega) (by omega)
  refine V.eq (pc' := 7) (lo' := [_, _]) (st' := []) (ws' := [_, (hsr, aI G 48 (fil (fun _ => 0) f 0)), (hsm, aI G 48 (fil (fun _ => 0) m 0))]) rfl rfl rfl (by rw [fil_0, fil_0]) ?_
  exact L7 _ 0 (by omega) (Nat.lt_succ_self _)

abbrev YX4_divide (l : Launch) (G : Gx) : Sx := (cX4_divide, 8, RX4, wsX4_divide, rmD 2, l, G)
theorem ydX4_divide : ydOk yX4_divide 2 := by decide +kernel
theorem inX4_divide_X4 : ∀ w ∈ wsX40, w ∈ wsX4_divide := fun _ h => List.mem_cons_of_mem _ (List.mem_append_left _ (List.mem_append_right _ h))
set_option maxHeartbeats 1000000 in
set_option maxRecDepth 20000 in
theorem c_X4_divide (l : Launch) (G : Gx) (hs hsr hsm hsg hd hr ht : Nat) (a f m : Int → Int) (mi r : Int) (h1 : 0 ≤ r ∧ r < 16) (hI : Inv a) : Ct l G yX4_divide wsX4_divide (rmD 2) [.ref hs, .ref hd, .int (zI r)] [(hs, .inr (4, [.ref hsr, .ref hsm, .ref hsg, .int (zI mi)])), (hsr, aI G 48 f), (hsm, aI G 48 m), (hd, .inr (0, [.ref hr, .ref ht])), (hr, aI G 26181 a)] (Fn none [(hs, .inr (4, [.ref hsr, .ref hsm, .ref hsg, .int (zI (mis a r))])), (hsr, aI G 48 (fil (shq a r) f 48)), (hsm, aI G 48 (fil (srm a r) m 48)), (hd, .inr (0, [.ref hr, .ref ht])), (hr, aI G 26181 a)]) := by
  refine Ct.intro (cc := cX4_divide) (maxL := 8) (ret := none) (lo0 := [some (.ref hs), some (.ref hd), some (.int (zI r)), none, none, none, none, none]) (by decide +kernel) rfl ⟨rfl, rfl⟩ (Nat.le_of_ble_eq_true rfl) rfl ?_
  intro X F T
  change Fx X (YX4_divide l G) at F
  change V X (YX4_divide l G) 0 0 0 _ _ _
  have hw := hI.w h1
  have hset := hI.s
  refine V.aload_n (q := 1) F dX4_divide_0 rfl rfl rfl ?_
  refine V.iload_n (q := 2) F dX4_divide_1 rfl rfl rfl ?_
  refine V.callV (q := 5) F [3, 4] 3 dX4_divide_2 rfl (c_X0_windyHours l G hd hr ht _ _ (by omega)) gX4_divide_X0_windyHours rfl rfl ydX0_windyHours ⟨Nat.le_of_ble_eq_true rfl, Nat.le_of_ble_eq_true rfl⟩ (ci := 0) rfl rfl rfl rfl (Nat.le_of_ble_eq_true rfl) rfl rfl ⟨Nat.zero_le _, Nat.zero_le _⟩ (kkf (st' := [_]) (ws' := [_, _, _, _, _]) rfl rfl ?_)
  refine V.istore_n (q := 6) (lo' := [_, _, _, _, _, _, _, _]) F dX4_divide_5 rfl rfl (Nat.le_of_ble_eq_true rfl) rfl rfl ?_
  refine V.iload_n (q := 7) F dX4_divide_6 rfl rfl rfl ?_
  refine V.if_gt (q := 10) (tgt := 15) F dX4_divide_7 rfl (by decide) (by omega) (fun k7 => ?_) (fun k7 => ?_)
  · refine V.aload_n (q := 16) F dX4_divide_15 rfl rfl rfl ?_
    refine V.bipush (q := 18) F dX4_divide_16 rfl (by decide) ?_
    refine V.put (q := 21) (ws' := [_, _, _, _, _]) (fs' := [_, _, _, _]) F 0 3 dX4_divide_18 rfl rfl rfl inX4_divide_X4 tyX4 tyX4_ok nmX4 (by decide) (List.mem_of_getElem? (i := 1) rfl) rfl rfl rfl rfl (Nat.le_of_ble_eq_true rfl) rfl rfl ?_
    refine V.iconst (q := 22) F dX4_divide_21 rfl ?_
    refine V.istore (q := 24) (lo' := [_, _, _, _, _, _, _, _]) F dX4_divide_22 rfl (Nat.le_of_ble_eq_true rfl) rfl rfl ?_
    have L24 : ∀ (nq : Nat) (i : Int) (hi : 0 ≤ i ∧ i ≤ 16), (16 - i).toNat < nq → V X (YX4_divide l G) 0 0 24 [some (.ref hs), some (.ref hd), some (.int (zI r)), some (.int (zI (a (25344 + r)))), some (.int (zI i)), none, none, none] [] [(hs, .inr (4, [.ref hsr, .ref hsm, .ref hsg, .int (zI (100 - sz (shq a r) 0 (3 * i)))])), (hsr, aI G 48 (fil (shq a r) f (3 * i))), (hsm, aI G 48 (fil (srm a r) m (3 * i))), (hd, .inr (0, [.ref hr, .ref ht])), (hr, aI G 26181 a)] := by
      intro n24
      induction n24 with
      | zero => intro i hi hm24; exact absurd hm24 (Nat.not_lt_zero _)
      | succ n24 ih24 =>
        intro i hi hm24
        refine V.iload (q := 26) F dX4_divide_24 rfl rfl ?_
        refine V.bipush (q := 28) F dX4_divide_26 rfl (by decide) ?_
        refine V.icmp_ge (q := 31) (tgt := 113) F dX4_divide_28 rfl (by decide) (by omega) (fun k28 => ?_) (fun k28 => ?_)
        · have he : i = 16 := by omega
          subst he
          exact V.vret F T dX4_divide_113 ⟨rfl, (by rw [show mis a r = 100 - sz (shq a r) 0 48 from if_pos (by omega)]; rfl)⟩ [hs, hsr, hsm, hd, hr] rfl rfl
        · refine V.iconst (q := 32) F dX4_divide_31 rfl ?_
          refine V.istore (q := 34) (lo' := [_, _, _, _, _, _, _, _]) F dX4_divide_32 rfl (Nat.le_of_ble_eq_true rfl) rfl rfl ?_
          have L34 : ∀ (nq : Nat) (k : Int) (hk : 0 ≤ k ∧ k ≤ 3), (3 - k).toNat < nq → V X (YX4_divide l G) 0 0 34 [some (.ref hs), some (.ref hd), some (.int (zI r)), some (.int (zI (a (25344 + r)))), some (.int (zI i)), some (.int (zI k)), none, none] [] [(hs, .inr (4, [.ref hsr, .ref hsm, .ref hsg, .int (zI (100 - sz (shq a r) 0 (3 * i + k)))])), (hsr, aI G 48 (fil (shq a r) f (3 * i + k))), (hsm, aI G 48 (fil (srm a r) m (3 * i + k))), (hd, .inr (0, [.ref hr, .ref ht])), (hr, aI G 26181 a)] := by
            intro n34
            induction n34 with
            | zero => intro k hk hm34; exact absurd hm34 (Nat.not_lt_zero _)
            | succ n34 ih34 =>
              intro k hk hm34
              refine V.iload (q := 36) F dX4_divide_34 rfl rfl ?_
              refine V.iconst (q := 37) F dX4_divide_36 rfl ?_
              refine V.icmp_ge (q := 40) (tgt := 107) F dX4_divide_37 rfl (by decide) (by omega) (fun k37 => ?_) (fun k37 => ?_)
              · refine V.iinc (q := 110) (lo' := [_, _, _, _, _, _, _, _]) F dX4_divide_107 rfl rfl (Nat.le_of_ble_eq_true rfl) rfl rfl ?_
                refine V.goto (tgt := 24) F dX4_divide_110 (by decide) ?_
                have hk3 : k = 3 := by omega
                subst hk3
                rw [show 3 * i + 3 = 3 * (i + 1) by omega]
                refine V.mask [true, true, true, true, true, false, true, true] (lo' := [_, _, _, _, _, _, _, _]) rfl ?_
                exact ih24 (i + 1) (by omega) (by omega)
              · refine V.iload (q := 42) F dX4_divide_40 rfl rfl ?_
                refine V.iload (q := 44) F dX4_divide_42 rfl rfl ?_
                refine V.callSN (q := 47) (host := RX6) F [] dX4_divide_44 rfl (c_X6_partOf l G  _ _ ) gX4_divide_X6_partOf_n45 rfl ydX6_partOf ⟨Nat.le_of_ble_eq_true rfl, Nat.le_of_ble_eq_true rfl⟩ (fun U h => h.2.2.1) (List.mem_of_getElem? (i := 16) rfl) (List.mem_of_getElem? (i := 15) rfl) rfl rfl (Nat.le_of_ble_eq_true rfl) rfl rfl ⟨Nat.zero_le _, Nat.zero_le _⟩ (kkf (st' := [_]) (ws' := [_, _, _, _, _]) rfl rfl ?_)
                refine V.istore (q := 49) (lo' := [_, _, _, _, _, _, _, _]) F dX4_divide_47 rfl (Nat.le_of_ble_eq_true rfl) rfl rfl ?_
                refine V.bipush (q := 51) F dX4_divide_49 rfl (by decide) ?_
                refine V.aload_n (q := 52) F dX4_divide_51 rfl rfl rfl ?_
                refine V.iload_n (q := 53) F dX4_divide_52 rfl rfl rfl ?_
                refine V.iload (q := 55) F dX4_divide_53 rfl rfl ?_
                refine V.iload (q := 57) F dX4_divide_55 rfl rfl ?_
                refine V.callV (q := 60) F [3, 4] 3 dX4_divide_57 rfl (c_X0_partHours l G hd hr ht _ _ _ _ (by omega) (by omega) (by omega) hset) gX4_divide_X0_partHours rfl rfl ydX0_partHours ⟨Nat.le_of_ble_eq_true rfl, Nat.le_of_ble_eq_true rfl⟩ (ci := 0) rfl rfl rfl rfl (Nat.le_of_ble_eq_true rfl) rfl rfl ⟨Nat.zero_le _, Nat.zero_le _⟩ (kkf (st' := [_, _]) (ws' := [_, _, _, _, _]) rfl rfl ?_)
                have hp := phz_rng hI h1 (d := i) (k := k) (by omega) (by omega)
                have eq1 : 100 * phz a r i k / a (25344 + r) = shq a r (3 * i + k) := by
                  unfold shq pthz; rw [if_pos (by omega), show (3 * i + k) / 3 = i by omega, show (3 * i + k) % 3 = k by omega]
                have eq2 : 100 * phz a r i k % a (25344 + r) = srm a r (3 * i + k) := by
                  unfold srm pthz; rw [if_pos (by omega), show (3 * i + k) / 3 = i by omega, show (3 * i + k) % 3 = k by omega]
                refine V.imul (q := 61) F dX4_divide_60 rfl ?_
                refine V.istore (q := 63) (lo' := [_, _, _, _, _, _, _, _]) F dX4_divide_61 rfl (Nat.le_of_ble_eq_true rfl) rfl rfl ?_
                refine V.aload_n (q := 64) F dX4_divide_63 rfl rfl rfl ?_
                refine V.get (q := 67) F 0 0 dX4_divide_64 rfl rfl rfl inX4_divide_X4 (by decide) (List.mem_of_getElem? (i := 2) rfl) rfl ?_
                refine V.iload (q := 69) F dX4_divide_67 rfl rfl ?_
                refine V.iload (q := 71) F dX4_divide_69 rfl rfl ?_
                refine V.iload_n (q := 72) F dX4_divide_71 rfl rfl rfl ?_
                refine V.idiv (q := 73) F dX4_divide_72 rfl ⟨by omega, by omega⟩ ?_
                refine V.iast (q := 74) (ws' := [_, _, _, _, _]) F 1 dX4_divide_73 rfl rfl (by decide) (by omega) rfl ?_
                refine V.aload_n (q := 75) F dX4_divide_74 rfl rfl rfl ?_
                refine V.get (q := 78) F 0 1 dX4_divide_75 rfl rfl rfl inX4_divide_X4 (by decide) (List.mem_of_getElem? (i := 3) rfl) rfl ?_
                refine V.iload (q := 80) F dX4_divide_78 rfl rfl ?_
                refine V.iload (q := 82) F dX4_divide_80 rfl rfl ?_
                refine V.iload_n (q := 83) F dX4_divide_82 rfl rfl rfl ?_
                refine V.irem (q := 84) F dX4_divide_83 rfl ⟨by omega, by omega⟩ ?_
                refine V.iast (q := 85) (ws' := [_, _, _, _, _]) F 2 dX4_divide_84 rfl rfl (by decide) (by omega) rfl ?_
                refine V.aload_n (q := 86) F dX4_divide_85 rfl rfl rfl ?_
                refine V.dup (q := 87) F dX4_divide_86 rfl rfl ?_
                refine V.get (q := 90) F 0 3 dX4_divide_87 rfl rfl rfl inX4_divide_X4 (by decide) (List.mem_of_getElem? (i := 1) rfl) rfl ?_
                refine V.aload_n (q := 91) F dX4_divide_90 rfl rfl rfl ?_
                refine V.get (q := 94) F 0 0 dX4_divide_91 rfl rfl rfl inX4_divide_X4 (by decide) (List.mem_of_getElem? (i := 2) rfl) rfl ?_
                refine V.iload (q := 96) F dX4_divide_94 rfl rfl ?_
                refine V.iald (q := 97) F 1 dX4_divide_96 rfl rfl (by decide) (by omega) ?_
                refine V.isub (q := 98) F dX4_divide_97 rfl ?_
                refine V.put (q := 101) (ws' := [_, _, _, _, _]) (fs' := [_, _, _, _]) F 0 3 dX4_divide_98 rfl rfl rfl inX4_divide_X4 tyX4 tyX4_ok nmX4 (by decide) (List.mem_of_getElem? (i := 1) rfl) rfl rfl rfl rfl (Nat.le_of_ble_eq_true rfl) rfl rfl ?_
                rw [show i * 3 + k = 3 * i + k by omega, fil_s (shq a r) f (by omega) eq1, fil_s (srm a r) m (by omega) eq2, fil_in _ _ (by omega) (by omega), show 3 * i + k + 1 = 3 * i + (k + 1) by omega, Int.sub_sub, ← sz_succ (shq a r) (by omega), show 3 * i + k + 1 = 3 * i + (k + 1) by omega]
                refine V.iinc (q := 104) (lo' := [_, _, _, _, _, _, _, _]) F dX4_divide_101 rfl rfl (Nat.le_of_ble_eq_true rfl) rfl rfl ?_
                refine V.goto (tgt := 34) F dX4_divide_104 (by decide) ?_
                refine V.mask [true, true, true, true, true, true, false, false] (lo' := [_, _, _, _, _, _, _, _]) rfl ?_
                exact ih34 (k + 1) (by omega) (by omega)
          refine V.eq (pc' := 34) (lo' := [_, _, _, _, _, _, _, _]) (st' := []) (ws' := [(hs, .inr (4, [.ref hsr, .ref hsm, .ref hsg, .int (zI (100 - sz (shq a r) 0 (3 * i + 0)))])), (hsr, aI G 48 (fil (shq a r) f (3 * i + 0))), (hsm, aI G 48 (fil (srm a r) m (3 * i + 0))), _, _]) rfl rfl rfl (by rw [Int.add_zero]) ?_
          refine V.mask [true, true, true, true, true, true, false, false] (lo' := [_, _, _, _, _, _, _, _]) rfl ?_
          exact L34 _ 0 (by omega) (Nat.lt_succ_self _)
    refine V.eq (pc' := 24) (lo' := [_, _, _, _, _, _, _, _]) (st' := []) (ws' := [(hs, .inr (4, [.ref hsr, .ref hsm, .ref hsg, .int (zI (100 - sz (shq a r) 0 (3 * 0)))])), (hsr, aI G 48 (fil (shq a r) f (3 * 0))), (hsm, aI G 48 (fil (srm a r) m (3 * 0))), _, _]) rfl rfl rfl (by rw [show (3 * 0 : Int) = 0 from rfl, fil_0, fil_0, sz_self]; rfl) ?_
    refine V.mask [true, true, true, true, true, false, false, false] (lo' := [_, _, _, _, _, _, _, _]) rfl ?_
    exact L24 _ 0 (by omega) (Nat.lt_succ_self _)
  · refine V.aload_n (q := 11) F dX4_divide_10 rfl rfl rfl ?_
    refine V.callV (q := 14) F [0, 1, 2] 0 dX4_divide_11 rfl (c_X4_makeEmpty l G hs hsr hsm hsg _ _ _ ) gX4_divide_X4_makeEmpty rfl rfl ydX4_makeEmpty ⟨Nat.le_of_ble_eq_true rfl, Nat.le_of_ble_eq_true rfl⟩ (ci := 4) rfl rfl rfl rfl (Nat.le_of_ble_eq_true rfl) rfl rfl ⟨Nat.zero_le _, Nat.zero_le _⟩ (kkf (st' := []) (ws' := [_, _, _, _, _]) rfl rfl ?_)
    exact V.vret F T dX4_divide_14 ⟨rfl, (by rw [show shq a r = fun _ => 0 from funext (fun p => if_neg (by omega)), show srm a r = fun _ => 0 from funext (fun p => if_neg (by omega)), show mis a r = 0 from if_neg (by omega)])⟩ [hs, hsr, hsm, hd, hr] rfl rfl

abbrev YX4_partsAhead (l : Launch) (G : Gx) : Sx := (cX4_partsAhead, 6, RX4, wsX4_partsAhead, rmD 0, l, G)
theorem ydX4_partsAhead : ydOk yX4_partsAhead 1 := by decide +kernel
theorem inX4_partsAhead_X4 : ∀ w ∈ wsX40, w ∈ wsX4_partsAhead := fun _ h => List.mem_cons_of_mem _ (List.mem_append_right _ h)
set_option maxHeartbeats 1000000 in
set_option maxRecDepth 20000 in
theorem c_X4_partsAhead (l : Launch) (G : Gx) (hs hsr hsm hsg : Nat) (m : Int → Int) (mi p : Int) (hm : ∀ j, 0 ≤ j → j < 48 → 0 ≤ m j ∧ m j < 10000) (h1 : 0 ≤ p ∧ p < 48) : Ct l G yX4_partsAhead wsX4_partsAhead (rmD 0) [.ref hs, .int (zI p)] [(hs, .inr (4, [.ref hsr, .ref hsm, .ref hsg, .int (zI mi)])), (hsm, aI G 48 m)] (Fn (some (.int (zI (pah m p)))) [(hs, .inr (4, [.ref hsr, .ref hsm, .ref hsg, .int (zI mi)])), (hsm, aI G 48 m)]) := by
  refine Ct.intro (cc := cX4_partsAhead) (maxL := 6) (ret := (some .int)) (lo0 := [some (.ref hs), some (.int (zI p)), none, none, none, none]) (by decide +kernel) rfl ⟨rfl, rfl⟩ (Nat.le_of_ble_eq_true rfl) rfl ?_
  intro X F T
  change Fx X (YX4_partsAhead l G) at F
  change V X (YX4_partsAhead l G) 0 0 0 _ _ _
  refine V.iconst (q := 1) F dX4_partsAhead_0 rfl ?_
  refine V.istore_n (q := 2) (lo' := [_, _, _, _, _, _]) F dX4_partsAhead_1 rfl rfl (Nat.le_of_ble_eq_true rfl) rfl rfl ?_
  refine V.iconst (q := 3) F dX4_partsAhead_2 rfl ?_
  refine V.istore_n (q := 4) (lo' := [_, _, _, _, _, _]) F dX4_partsAhead_3 rfl rfl (Nat.le_of_ble_eq_true rfl) rfl rfl ?_
  have L4 : ∀ (nq : Nat) (i S : Int) (hi : 0 ≤ i ∧ i ≤ 48) (hS : S = sz (fun o => if m p < m o ∨ (m o = m p ∧ o < p) then 1 else 0) 0 i), (48 - i).toNat < nq → V X (YX4_partsAhead l G) 0 0 4 [some (.ref hs), some (.int (zI p)), some (.int (zI S)), some (.int (zI i)), none, none] [] [(hs, .inr (4, [.ref hsr, .ref hsm, .ref hsg, .int (zI mi)])), (hsm, aI G 48 m)] := by
    intro n4
    induction n4 with
    | zero => intro i S hi hS hm4; exact absurd hm4 (Nat.not_lt_zero _)
    | succ n4 ih4 =>
      intro i S hi hS hm4
      have hb := hm i
      have hb2 := hm p h1.1 h1.2
      refine V.iload_n (q := 5) F dX4_partsAhead_4 rfl rfl rfl ?_
      refine V.bipush (q := 7) F dX4_partsAhead_5 rfl (by decide) ?_
      refine V.icmp_ge (q := 10) (tgt := 78) F dX4_partsAhead_7 rfl (by decide) (by omega) (fun k7 => ?_) (fun k7 => ?_)
      · refine V.iload_n (q := 79) F dX4_partsAhead_78 rfl rfl rfl ?_
        exact V.iret F T dX4_partsAhead_79 (fnI (by rw [hS, show i = 48 by omega]; rfl) rfl) [hs, hsm] rfl rfl
      · have J30 : ∀ (x : Int) (hx : x = if m p < m i then 1 else 0), V X (YX4_partsAhead l G) 0 0 30 [some (.ref hs), some (.int (zI p)), some (.int (zI S)), some (.int (zI i)), none, none] [.int (zI x)] [(hs, .inr (4, [.ref hsr, .ref hsm, .ref hsg, .int (zI mi)])), (hsm, aI G 48 m)] := by
          intro x hx
          refine V.istore (q := 32) (lo' := [_, _, _, _, _, _]) F dX4_partsAhead_30 rfl (Nat.le_of_ble_eq_true rfl) rfl rfl ?_
          have J57 : ∀ (y : Int) (hy : y = if m i = m p ∧ i < p then 1 else 0), V X (YX4_partsAhead l G) 0 0 57 [some (.ref hs), some (.int (zI p)), some (.int (zI S)), some (.int (zI i)), some (.int (zI x)), none] [.int (zI y)] [(hs, .inr (4, [.ref hsr, .ref hsm, .ref hsg, .int (zI mi)])), (hsm, aI G 48 m)] := by
            intro y hy
            refine V.istore (q := 59) (lo' := [_, _, _, _, _, _]) F dX4_partsAhead_57 rfl (Nat.le_of_ble_eq_true rfl) rfl rfl ?_
            refine V.iload (q := 61) F dX4_partsAhead_59 rfl rfl ?_
            refine V.if_ne (q := 64) (tgt := 69) F dX4_partsAhead_61 rfl (by decide) (by omega) (fun k61 => ?_) (fun k61 => ?_)
            · refine V.iinc (q := 72) (lo' := [_, _, _, _, _, _]) F dX4_partsAhead_69 rfl rfl (Nat.le_of_ble_eq_true rfl) rfl rfl ?_
              refine V.iinc (q := 75) (lo' := [_, _, _, _, _, _]) F dX4_partsAhead_72 rfl rfl (Nat.le_of_ble_eq_true rfl) rfl rfl ?_
              refine V.goto (tgt := 4) F dX4_partsAhead_75 (by decide) ?_
              refine V.mask [true, true, true, true, false, false] (lo' := [_, _, _, _, _, _]) rfl ?_
              exact ih4 (i + 1) _ (by omega) (by rw [sz_succ _ hi.1, ← hS]; split <;> omega) (by omega)
            · refine V.iload (q := 66) F dX4_partsAhead_64 rfl rfl ?_
              refine V.if_eq (q := 69) (tgt := 72) F dX4_partsAhead_66 rfl (by decide) (by omega) (fun k66 => ?_) (fun k66 => ?_)
              · refine V.iinc (q := 75) (lo' := [_, _, _, _, _, _]) F dX4_partsAhead_72 rfl rfl (Nat.le_of_ble_eq_true rfl) rfl rfl ?_
                refine V.goto (tgt := 4) F dX4_partsAhead_75 (by decide) ?_
                refine V.mask [true, true, true, true, false, false] (lo' := [_, _, _, _, _, _]) rfl ?_
                exact ih4 (i + 1) _ (by omega) (by rw [sz_succ _ hi.1, ← hS]; split <;> omega) (by omega)
              · refine V.iinc (q := 72) (lo' := [_, _, _, _, _, _]) F dX4_partsAhead_69 rfl rfl (Nat.le_of_ble_eq_true rfl) rfl rfl ?_
                refine V.iinc (q := 75) (lo' := [_, _, _, _, _, _]) F dX4_partsAhead_72 rfl rfl (Nat.le_of_ble_eq_true rfl) rfl rfl ?_
                refine V.goto (tgt := 4) F dX4_partsAhead_75 (by decide) ?_
                refine V.mask [true, true, true, true, false, false] (lo' := [_, _, _, _, _, _]) rfl ?_
                exact ih4 (i + 1) _ (by omega) (by rw [sz_succ _ hi.1, ← hS]; split <;> omega) (by omega)
          refine V.aload_n (q := 33) F dX4_partsAhead_32 rfl rfl rfl ?_
          refine V.get (q := 36) F 0 1 dX4_partsAhead_33 rfl rfl rfl inX4_partsAhead_X4 (by decide) (List.mem_of_getElem? (i := 1) rfl) rfl ?_
          refine V.iload_n (q := 37) F dX4_partsAhead_36 rfl rfl rfl ?_
          refine V.iald (q := 38) F 1 dX4_partsAhead_37 rfl rfl (by decide) (by omega) ?_
          refine V.aload_n (q := 39) F dX4_partsAhead_38 rfl rfl rfl ?_
          refine V.get (q := 42) F 0 1 dX4_partsAhead_39 rfl rfl rfl inX4_partsAhead_X4 (by decide) (List.mem_of_getElem? (i := 1) rfl) rfl ?_
          refine V.iload_n (q := 43) F dX4_partsAhead_42 rfl rfl rfl ?_
          refine V.iald (q := 44) F 1 dX4_partsAhead_43 rfl rfl (by decide) (by omega) ?_
          refine V.icmp_ne (q := 47) (tgt := 56) F dX4_partsAhead_44 rfl (by decide) (by omega) (fun k44 => ?_) (fun k44 => ?_)
          · refine V.iconst (q := 57) F dX4_partsAhead_56 rfl ?_
            exact J57 _ (by omega)
          · refine V.iload_n (q := 48) F dX4_partsAhead_47 rfl rfl rfl ?_
            refine V.iload_n (q := 49) F dX4_partsAhead_48 rfl rfl rfl ?_
            refine V.icmp_ge (q := 52) (tgt := 56) F dX4_partsAhead_49 rfl (by decide) (by omega) (fun k49 => ?_) (fun k49 => ?_)
            · refine V.iconst (q := 57) F dX4_partsAhead_56 rfl ?_
              exact J57 _ (by omega)
            · refine V.iconst (q := 53) F dX4_partsAhead_52 rfl ?_
              refine V.goto (tgt := 57) F dX4_partsAhead_53 (by decide) ?_
              exact J57 _ (by omega)
        refine V.aload_n (q := 11) F dX4_partsAhead_10 rfl rfl rfl ?_
        refine V.get (q := 14) F 0 1 dX4_partsAhead_11 rfl rfl rfl inX4_partsAhead_X4 (by decide) (List.mem_of_getElem? (i := 1) rfl) rfl ?_
        refine V.iload_n (q := 15) F dX4_partsAhead_14 rfl rfl rfl ?_
        refine V.iald (q := 16) F 1 dX4_partsAhead_15 rfl rfl (by decide) (by omega) ?_
        refine V.aload_n (q := 17) F dX4_partsAhead_16 rfl rfl rfl ?_
        refine V.get (q := 20) F 0 1 dX4_partsAhead_17 rfl rfl rfl inX4_partsAhead_X4 (by decide) (List.mem_of_getElem? (i := 1) rfl) rfl ?_
        refine V.iload_n (q := 21) F dX4_partsAhead_20 rfl rfl rfl ?_
        refine V.iald (q := 22) F 1 dX4_partsAhead_21 rfl rfl (by decide) (by omega) ?_
        refine V.icmp_le (q := 25) (tgt := 29) F dX4_partsAhead_22 rfl (by decide) (by omega) (fun k22 => ?_) (fun k22 => ?_)
        · refine V.iconst (q := 30) F dX4_partsAhead_29 rfl ?_
          exact J30 _ (by omega)
        · refine V.iconst (q := 26) F dX4_partsAhead_25 rfl ?_
          refine V.goto (tgt := 30) F dX4_partsAhead_26 (by decide) ?_
          exact J30 _ (by omega)
  refine V.mask [true, true, true, true, false, false] (lo' := [_, _, _, _, _, _]) rfl ?_
  exact L4 _ 0 0 (by omega) (sz_self _ _).symm (Nat.lt_succ_self _)

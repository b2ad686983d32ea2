/-! the property: what its checks rest on -/
theorem sz_zero {f : Int → Int} {a b : Int} (h : ∀ j, a ≤ j → j < b → f j = 0) : sz f a b = 0 := by
  rw [sz_congr (g := fun _ => 0) h]
  by_cases hab : a ≤ b
  · have key : ∀ n : Nat, sz (fun _ => 0) a (a + n) = 0 := by
      intro n
      induction n with
      | zero => simp [sz_self]
      | succ n ih =>
        rw [show a + ((n + 1 : Nat) : Int) = (a + n) + 1 by omega, sz_succ _ (by omega), ih]; rfl
    have := key (b - a).toNat
    rw [show a + ((b - a).toNat : Int) = b by omega] at this
    exact this
  · exact sz_nil _ (by omega)
theorem sz_mulc (c : Int) (f : Int → Int) (a b : Int) : sz (fun j => c * f j) a b = c * sz f a b := by
  by_cases hab : a ≤ b
  · have key : ∀ n : Nat, sz (fun j => c * f j) a (a + n) = c * sz f a (a + n) := by
      intro n
      induction n with
      | zero => simp [sz_self]
      | succ n ih =>
        rw [show a + ((n + 1 : Nat) : Int) = (a + n) + 1 by omega, sz_succ _ (by omega), sz_succ _ (by omega), ih, Int.mul_add]
    have := key (b - a).toNat
    rw [show a + ((b - a).toNat : Int) = b by omega] at this
    exact this
  · rw [sz_nil _ (by omega), sz_nil _ (by omega), Int.mul_zero]
theorem sz_lef {f g : Int → Int} {a b : Int} (h : ∀ j, a ≤ j → j < b → f j ≤ g j) : sz f a b ≤ sz g a b := by
  by_cases hab : a ≤ b
  · have key : ∀ n : Nat, a + n ≤ b → sz f a (a + n) ≤ sz g a (a + n) := by
      intro n
      induction n with
      | zero => intro _; simp [sz_self]
      | succ n ih =>
        intro hn
        have h1 := ih (by omega)
        have h2 := h (a + n) (by omega) (by omega)
        rw [show a + ((n + 1 : Nat) : Int) = (a + n) + 1 by omega, sz_succ _ (by omega), sz_succ _ (by omega)]; omega
    have := key (b - a).toNat (by omega)
    rw [show a + ((b - a).toNat : Int) = b by omega] at this
    exact this
  · rw [sz_nil _ (by omega), sz_nil _ (by omega)]; exact Int.le_refl 0
theorem sz_99 (f : Int → Int) (n : Nat) : sz f 0 (99 * (n : Int)) = sz (fun d => sz (fun v => f (99 * d + v)) 0 99) 0 n := by
  induction n with
  | zero => rw [show (99 * ((0 : Nat) : Int)) = 0 from rfl, show ((0 : Nat) : Int) = 0 from rfl, sz_self, sz_self]
  | succ n ih =>
    rw [show ((n + 1 : Nat) : Int) = (n : Int) + 1 by omega, sz_succ _ (by omega), ← ih, sz_split _ (show 0 ≤ 99 * (n : Int) by omega) (show 99 * (n : Int) ≤ 99 * ((n : Int) + 1) by omega), sz_shift f (99 * (n : Int)) 0 99, Int.add_zero, show 99 * ((n : Int) + 1) = 99 * (n : Int) + 99 by omega]
theorem sz_3 (f : Int → Int) (n : Nat) : sz f 0 (3 * (n : Int)) = sz (fun d => f (3 * d) + f (3 * d + 1) + f (3 * d + 2)) 0 n := by
  induction n with
  | zero => exact (sz_self _ _).trans (sz_self _ _).symm
  | succ n ih =>
    rw [show 3 * ((n + 1 : Nat) : Int) = 3 * (n : Int) + 1 + 1 + 1 by omega, show ((n + 1 : Nat) : Int) = (n : Int) + 1 by omega, sz_succ _ (by omega), sz_succ _ (by omega), sz_succ _ (by omega), sz_succ _ (by omega), ih, show 3 * (n : Int) + 1 + 1 = 3 * (n : Int) + 2 by omega]
    omega
theorem sz_rot (f : Int → Int) {b : Int} (hb : 0 ≤ b ∧ b ≤ 16) : sz (fun d => f ((d - b) % 16)) 0 16 = sz f 0 16 := by
  rw [sz_split _ hb.1 hb.2, sz_split f (show 0 ≤ 16 - b by omega) (show 16 - b ≤ 16 by omega)]
  have e1 := sz_shift f (16 - b) 0 b
  have e2 := sz_shift (fun d => f ((d - b) % 16)) b 0 (16 - b)
  rw [Int.add_zero] at e1 e2
  rw [show 16 - b + b = 16 by omega] at e1
  rw [show b + (16 - b) = 16 by omega] at e2
  rw [← e1, ← e2, Int.add_comm]
  congr 1
  · exact sz_congr (fun j h1 h2 => congrArg f (by omega))
  · exact sz_congr (fun j h1 h2 => congrArg f (by omega))
theorem wnd_dir {a : Int → Int} (hI : Inv a) {r : Int} (hr : 0 ≤ r ∧ r < 16) : sz (fun d => hbz a r d 1 100) 0 16 = a (25344 + r) := by
  have h3 := (hI.2.1 r hr.1 hr.2).1
  have e2 := sz_shift a (r * 1584) 0 1584
  rw [Int.add_zero] at e2
  have e4 := sz_99 (fun s => a (r * 1584 + s)) 16
  rw [show (99 * ((16 : Nat) : Int)) = 1584 from rfl, show ((16 : Nat) : Int) = 16 from rfl] at e4
  rw [h3, ← e2, e4]
  refine sz_congr (fun d _ _ => ?_)
  show sz (fun s => a (r * 1584 + d * 99 + s - 1)) 1 100 = sz (fun v => a (r * 1584 + (99 * d + v))) 0 99
  have e5 := sz_shift (fun s => a (r * 1584 + d * 99 + s - 1)) 1 0 99
  rw [show (1 + 0 : Int) = 1 from rfl, show (1 + 99 : Int) = 100 from rfl] at e5
  rw [← e5]
  exact sz_congr (fun j _ _ => congrArg a (by omega))
theorem pth_d {a : Int → Int} {r d k : Int} (hk : 0 ≤ k ∧ k ≤ 2) : pthz a r (3 * d + k) = phz a r d k := by
  unfold pthz
  rw [show (3 * d + k) / 3 = d by omega, show (3 * d + k) % 3 = k by omega]
theorem dir_sum {a : Int → Int} (hI : Inv a) (r d : Int) : pthz a r (3 * d) + pthz a r (3 * d + 1) + pthz a r (3 * d + 2) = hbz a r d 1 100 := by
  have hs := hI.s
  have e0 := pth_d (a := a) (r := r) (d := d) (k := 0) (by omega)
  rw [Int.add_zero] at e0
  rw [e0, pth_d (by omega), pth_d (by omega)]
  unfold phz hbz
  rw [if_pos rfl, if_neg (by omega), if_neg (by omega), if_neg (by omega), if_neg (by omega), if_pos rfl, show (26176 + 0 : Int) = 26176 from rfl, show (26176 + (1 - 1) : Int) = 26176 from rfl, show (26176 + 1 : Int) = 26177 from rfl, show (26176 + (2 - 1) : Int) = 26177 from rfl,
    sz_split _ (show 1 ≤ a 26176 by omega) (show a 26176 ≤ 100 by omega), sz_split _ (show a 26176 ≤ a 26177 by omega) (show a 26177 ≤ 100 by omega)]
  omega
theorem pthz_sum {a : Int → Int} (hI : Inv a) {r : Int} (hr : 0 ≤ r ∧ r < 16) : sz (fun p => pthz a r p) 0 48 = a (25344 + r) := by
  have h := sz_3 (fun p => pthz a r p) 16
  rw [show 3 * ((16 : Nat) : Int) = 48 from rfl, show ((16 : Nat) : Int) = 16 from rfl] at h
  rw [h, ← wnd_dir hI hr]
  exact sz_congr (fun d _ _ => dir_sum hI r d)
theorem srm_sum {a : Int → Int} (hI : Inv a) {r : Int} (hr : 0 ≤ r ∧ r < 16) (hw : 0 < a (25344 + r)) : sz (srm a r) 0 48 = a (25344 + r) * mis a r := by
  have e1 : sz (fun p => a (25344 + r) * shq a r p + srm a r p) 0 48 = sz (fun p => 100 * pthz a r p) 0 48 := by
    refine sz_congr (fun p _ _ => ?_)
    unfold shq srm
    rw [if_pos hw, if_pos hw]
    exact Int.mul_ediv_add_emod _ _
  rw [sz_add, sz_mulc, sz_mulc, pthz_sum hI hr] at e1
  have e2 : mis a r = 100 - sz (shq a r) 0 48 := if_pos hw
  have e3 : sz (fun p => srm a r p) 0 48 = sz (srm a r) 0 48 := rfl
  have e4 : sz (fun p => shq a r p) 0 48 = sz (shq a r) 0 48 := rfl
  rw [e3] at e1
  have e5 : a (25344 + r) * (100 - sz (shq a r) 0 48) = 100 * a (25344 + r) - a (25344 + r) * sz (shq a r) 0 48 := by rw [Int.mul_sub, Int.mul_comm]
  rw [e2, e5]
  omega
theorem srm_lt {a : Int → Int} {r p : Int} (hw : 0 < a (25344 + r)) : 0 ≤ srm a r p ∧ srm a r p ≤ a (25344 + r) - 1 := by
  unfold srm
  rw [if_pos hw]
  have := Int.emod_nonneg (100 * pthz a r p) (show a (25344 + r) ≠ 0 by omega)
  have := Int.emod_lt_of_pos (100 * pthz a r p) hw
  omega
theorem mis_47 {a : Int → Int} (hI : Inv a) {r : Int} (hr : 0 ≤ r ∧ r < 16) : mis a r ≤ 47 := by
  by_cases hw : 0 < a (25344 + r)
  · have h1 := sz_le (f := srm a r) (a := 0) (b := 48) (c := a (25344 + r) - 1) (by omega) (by omega) (fun j _ _ => srm_lt hw)
    rw [srm_sum hI hr hw] at h1
    rcases Int.lt_or_le (mis a r) 48 with h | h
    · omega
    · exfalso
      have h2 : a (25344 + r) * 48 ≤ a (25344 + r) * mis a r := Int.mul_le_mul_of_nonneg_left h (by omega)
      omega
  · have : mis a r = 0 := if_neg hw
    omega
theorem shr_key {a : Int → Int} (hI : Inv a) {r p : Int} (hr : 0 ≤ r ∧ r < 16) (hp : 0 ≤ p ∧ p < 48) (hw : 0 < a (25344 + r)) (h0 : srm a r p = 0) : ¬ pah (srm a r) p < mis a r := by
  intro hlt
  have h1 : sz (srm a r) 0 48 ≤ sz (fun o => (a (25344 + r) - 1) * (if srm a r p < srm a r o ∨ (srm a r o = srm a r p ∧ o < p) then 1 else 0)) 0 48 := by
    refine sz_lef (fun o _ _ => ?_)
    have h2 := srm_lt (p := o) hw
    by_cases h3 : 0 < srm a r o
    · rw [if_pos (Or.inl (by omega)), Int.mul_one]; exact h2.2
    · have h4 : (0 : Int) ≤ (a (25344 + r) - 1) * (if srm a r p < srm a r o ∨ (srm a r o = srm a r p ∧ o < p) then 1 else 0) := Int.mul_nonneg (by omega) (by split <;> omega)
      omega
  rw [sz_mulc, srm_sum hI hr hw] at h1
  have h5 : sz (fun o => if srm a r p < srm a r o ∨ (srm a r o = srm a r p ∧ o < p) then 1 else 0) 0 48 = pah (srm a r) p := rfl
  rw [h5] at h1
  have hpr := pah_rng (srm a r) p
  have h6 : (a (25344 + r) - 1) * pah (srm a r) p ≤ a (25344 + r) * pah (srm a r) p := Int.mul_le_mul_of_nonneg_right (by omega) hpr.1
  have h7 : a (25344 + r) * pah (srm a r) p < a (25344 + r) * mis a r := Int.mul_lt_mul_of_pos_left hlt hw
  omega
theorem shr_eq {a : Int → Int} (hI : Inv a) {r p : Int} (hr : 0 ≤ r ∧ r < 16) (hp : 0 ≤ p ∧ p < 48) (hw : 0 < a (25344 + r)) : shr a r p = shq a r p + (if pah (srm a r) p < mis a r then 1 else 0) := by
  unfold shr
  by_cases h : pah (srm a r) p < mis a r
  · have h1 : 0 < srm a r p := by
      have := srm_lt (p := p) hw
      rcases Int.lt_or_le 0 (srm a r p) with g | g
      · exact g
      · exact absurd h (shr_key hI hr hp hw (by omega))
    rw [if_pos ⟨h1, h⟩, if_pos h]
  · rw [if_neg (fun z => h z.2), if_neg h]
theorem shr_w0 {a : Int → Int} {r p : Int} (hw : ¬ 0 < a (25344 + r)) : shr a r p = shq a r p := by
  have : srm a r p = 0 := if_neg hw
  unfold shr
  rw [if_neg (by omega), Int.add_zero]
theorem gsz_s (a : Int → Int) (r : Int) {v : Int} (hv : 1 ≤ v) : gsz a r v.toNat = if 0 < spz a r v then v else gsz a r (v - 1).toNat := by
  rw [show v.toNat = (v - 1).toNat + 1 by omega, gsz, show (((v - 1).toNat : Nat) : Int) + 1 = v by omega]
theorem gsz_rng (a : Int → Int) (r : Int) : ∀ n : Nat, -5 ≤ gsz a r n ∧ gsz a r n ≤ n
  | 0 => ⟨Int.le_refl _, by show (-5 : Int) ≤ ((0 : Nat) : Int); omega⟩
  | n + 1 => by
    have := gsz_rng a r n
    rw [gsz]
    split <;> omega
theorem Inv.aW {a : Int → Int} (hI : Inv a) {r d v h : Int} (hr : 0 ≤ r ∧ r < 16) (hd : 0 ≤ d ∧ d < 16) (hv : 1 ≤ v ∧ v ≤ 99) (h0 : 0 ≤ a (r * 1584 + d * 99 + v - 1) + h) (ht : a (25344 + r) + a (25360 + r) + h ≤ 9999) : Inv (addW a r d v h) := by
  have hA := addW_w (a := a) (h := h) hr hd hv
  have e : ∀ j, addW a r d v h j = if j = 25344 + r then a (25344 + r) + h else if j = r * 1584 + d * 99 + v - 1 then a (r * 1584 + d * 99 + v - 1) + h else a j := by
    intro j
    by_cases hj : j = 25344 + r
    · rw [if_pos hj, hj, hA.1]
    · rw [if_neg hj]
      unfold addW
      rw [upz_ne _ _ _ hj]
      rfl
  have hs : ∀ r' : Int, 0 ≤ r' → r' < 16 → sz (addW a r d v h) (r' * 1584) (r' * 1584 + 1584) = sz a (r' * 1584) (r' * 1584 + 1584) + (if r' = r then h else 0) := by
    intro r' h1 h2
    rw [sz_congr (g := upz a (r * 1584 + d * 99 + v - 1) (a (r * 1584 + d * 99 + v - 1) + h)) (fun j h3 h4 => by rw [e, if_neg (by omega)]; rfl)]
    by_cases hr' : r' = r
    · rw [if_pos hr', sz_upz_in _ (by omega) (by omega)]; omega
    · rw [if_neg hr', sz_upz_out _ (by omega), Int.add_zero]
  have hw0 : 0 ≤ a (25344 + r) + h := by
    have h1 := hI.2.1 r hr.1 hr.2
    have h2 := sz_mem (f := a) (a := r * 1584) (b := r * 1584 + 1584) (i := r * 1584 + d * 99 + v - 1) (fun j _ _ => hI.1 j) (by omega) (by omega)
    omega
  refine ⟨fun j => ?_, fun r' h1 h2 => ?_, ?_, fun j h1 h2 => ?_⟩
  · rw [e]
    have := hI.1 j
    split
    · exact hw0
    · split
      · exact h0
      · exact this
  · rw [hs r' h1 h2, e, e, if_neg (show ¬ (25360 + r' : Int) = 25344 + r by omega), if_neg (show ¬ (25360 + r' : Int) = r * 1584 + d * 99 + v - 1 by omega)]
    have h3 := hI.2.1 r' h1 h2
    by_cases hr' : r' = r
    · subst hr'
      rw [if_pos rfl, if_pos rfl]; omega
    · rw [if_neg (by omega), if_neg (by omega), if_neg hr']; omega
  · rw [e, e, e]
    rw [if_neg (by omega), if_neg (by omega), if_neg (by omega), if_neg (by omega), if_neg (by omega), if_neg (by omega)]
    exact hI.2.2.1
  · rw [e, if_neg (by omega), if_neg (by omega)]
    exact hI.2.2.2 j h1 h2
theorem Inv.upd {a b : Int → Int} (hI : Inv a) (hlo : ∀ j, 0 ≤ j → j < 25376 → b j = a j) (h0 : ∀ j, 0 ≤ b j) (hs : 1 ≤ b 26176 ∧ b 26176 < b 26177 ∧ b 26177 ≤ 99 ∧ b 26178 ≤ 9) (hp : ∀ j, 25376 ≤ j → j < 26176 → b j ≤ 100) : Inv b := by
  refine ⟨h0, fun r h1 h2 => ?_, hs, hp⟩
  rw [hlo _ (by omega) (by omega), hlo _ (by omega) (by omega), sz_congr (g := a) (fun j h3 h4 => hlo j (by omega) (by omega))]
  exact hI.2.1 r h1 h2
theorem Inv.calm {a : Int → Int} (hI : Inv a) {r h : Int} (hr : 0 ≤ r ∧ r < 16) (h0 : 0 ≤ h) (ht : a (25344 + r) + a (25360 + r) + h ≤ 9999) : Inv (upz a (25360 + r) (a (25360 + r) + h)) := by
  refine ⟨fun j => ?_, fun r' h1 h2 => ?_, ?_, fun j h1 h2 => ?_⟩
  · have h1 := hI.1 j
    have h2 := hI.1 (25360 + r)
    unfold upz
    split <;> omega
  · rw [sz_upz_out _ (by omega), upz_ne _ _ _ (show (25344 + r' : Int) ≠ 25360 + r by omega)]
    have h3 := hI.2.1 r' h1 h2
    by_cases hr' : r' = r
    · subst hr'
      rw [upz_eq]; omega
    · rw [upz_ne _ _ _ (by omega)]; exact h3
  · rw [upz_ne _ _ _ (by omega), upz_ne _ _ _ (by omega), upz_ne _ _ _ (by omega)]
    exact hI.2.2.1
  · rw [upz_ne _ _ _ (by omega)]
    exact hI.2.2.2 j h1 h2
theorem Inv.congr {a b : Int → Int} (hI : Inv a) (h : ∀ j, 0 ≤ j → j < 26181 → b j = a j) (h0 : ∀ j, 0 ≤ b j) : Inv b := by
  refine hI.upd (fun j h1 h2 => h j h1 (by omega)) h0 ?_ (fun j h1 h2 => ?_)
  · rw [h _ (by omega) (by omega), h _ (by omega) (by omega), h _ (by omega) (by omega)]
    exact hI.2.2.1
  · rw [h j (by omega) (by omega)]
    exact hI.2.2.2 j h1 h2
theorem Inv.u1 {a : Int → Int} (hI : Inv a) {k v : Int} (hk : 25376 ≤ k ∧ (k < 26176 ∨ 26178 < k)) (hv : 0 ≤ v ∧ (k < 26176 → v ≤ 100)) : Inv (upz a k v) := by
  refine hI.upd (fun j h1 h2 => upz_ne _ _ _ (by omega)) (fun j => ?_) ?_ (fun j h1 h2 => ?_)
  · have := hI.1 j
    unfold upz
    split <;> omega
  · rw [upz_ne _ _ _ (by omega), upz_ne _ _ _ (by omega), upz_ne _ _ _ (by omega)]
    exact hI.2.2.1
  · have := hI.2.2.2 j h1 h2
    unfold upz
    split <;> omega
theorem Inv.set {a : Int → Int} (hI : Inv a) {w v : Int} (h : 0 ≤ rSet a w v) : Inv (upz a (26176 + w) v) := by
  have hs := hI.2.2.1
  have e : rSet a w v = if ¬ (0 ≤ w ∧ w ≤ 2) then -1 else if ¬ ((w = 2 ∧ 0 ≤ v ∧ v ≤ 9) ∨ (w ≠ 2 ∧ 1 ≤ v ∧ v ≤ 99)) then -2 else if (w = 0 ∧ a 26177 ≤ v) ∨ (w = 1 ∧ v ≤ a 26176) then -4 else if a (26176 + w) = v then -5 else a (26176 + w) := rfl
  have hc : (0 ≤ w ∧ w ≤ 2) ∧ ((w = 2 ∧ 0 ≤ v ∧ v ≤ 9) ∨ (w ≠ 2 ∧ 1 ≤ v ∧ v ≤ 99)) ∧ ¬ ((w = 0 ∧ a 26177 ≤ v) ∨ (w = 1 ∧ v ≤ a 26176)) := by omega
  refine hI.upd (fun j h1 h2 => upz_ne _ _ _ (by omega)) (fun j => ?_) ?_ (fun j h1 h2 => ?_)
  · have := hI.1 j
    unfold upz
    split <;> omega
  · rcases (show w = 0 ∨ w = 1 ∨ w = 2 by omega) with rfl | rfl | rfl
    · rw [show (26176 + 0 : Int) = 26176 from rfl, upz_eq, upz_ne _ _ _ (by omega), upz_ne _ _ _ (by omega)]; omega
    · rw [show (26176 + 1 : Int) = 26177 from rfl, upz_eq, upz_ne _ _ _ (by omega), upz_ne _ _ _ (by omega)]; omega
    · rw [show (26176 + 2 : Int) = 26178 from rfl, upz_eq, upz_ne _ _ _ (by omega), upz_ne _ _ _ (by omega)]; omega
  · rw [upz_ne _ _ _ (by omega)]
    exact hI.2.2.2 j h1 h2
theorem Inv.turn {a : Int → Int} (hI : Inv a) {r b : Int} (hr : 0 ≤ r ∧ r < 16) (hb : 0 ≤ b ∧ b ≤ 16) : Inv (turnI a r b 16) := by
  have hout : ∀ j, ¬ (r * 1584 ≤ j ∧ j < r * 1584 + 1584) → turnI a r b 16 j = a j := fun j h => if_neg (fun z => h z.1)
  refine ⟨fun j => ?_, fun r' h1 h2 => ?_, ?_, fun j h1 h2 => ?_⟩
  · unfold turnI
    split
    · exact hI.1 _
    · exact hI.1 _
  · rw [hout _ (by omega), hout _ (by omega)]
    have h3 := hI.2.1 r' h1 h2
    by_cases hr' : r' = r
    · subst hr'
      refine ⟨?_, h3.2⟩
      rw [h3.1]
      have e1 := sz_shift (turnI a r' b 16) (r' * 1584) 0 1584
      have e2 := sz_shift a (r' * 1584) 0 1584
      rw [Int.add_zero] at e1 e2
      rw [← e1, ← e2]
      have e3 := sz_99 (fun s => turnI a r' b 16 (r' * 1584 + s)) 16
      have e4 := sz_99 (fun s => a (r' * 1584 + s)) 16
      rw [show (99 * ((16 : Nat) : Int)) = 1584 from rfl, show ((16 : Nat) : Int) = 16 from rfl] at e3 e4
      rw [e3, e4, ← sz_rot _ hb]
      refine sz_congr (fun d h4 h5 => sz_congr (fun v h6 h7 => ?_))
      show a _ = turnI a r' b 16 _
      unfold turnI
      have e5 : (r' * 1584 + (99 * d + v) - r' * 1584) / 99 = d := by omega
      have e6 : (r' * 1584 + (99 * d + v) - r' * 1584) % 99 = v := by omega
      rw [e5, e6, if_pos (by omega)]
      exact congrArg a (by omega)
    · rw [sz_congr (g := a) (fun j h4 h5 => hout j (by omega))]
      exact h3
  · rw [hout _ (by omega), hout _ (by omega), hout _ (by omega)]
    exact hI.2.2.1
  · rw [hout _ (by omega)]
    exact hI.2.2.2 j h1 h2
theorem shr_100 {a : Int → Int} (h : Inv a) {r p : Int} (hr : 0 ≤ r ∧ r < 16) (hp : 0 ≤ p ∧ p < 48) : 0 ≤ shr a r p ∧ shr a r p ≤ 100 := by
  have h1 := pthz_rng h hr hp
  have h2 := shq_rng h hr hp
  refine ⟨(shr_rng h hr hp).1, ?_⟩
  unfold shr
  by_cases hc : 0 < srm a r p ∧ pah (srm a r) p < mis a r
  · rw [if_pos hc]
    have h3 := hc.1
    by_cases hw : 0 < a (25344 + r)
    · have e1 : shq a r p = 100 * pthz a r p / a (25344 + r) := if_pos hw
      have e2 : srm a r p = 100 * pthz a r p % a (25344 + r) := if_pos hw
      have e3 := Int.mul_ediv_add_emod (100 * pthz a r p) (a (25344 + r))
      rw [← e1, ← e2] at e3
      rcases Int.lt_or_le (shq a r p) 100 with g | g
      · omega
      · exfalso
        have e4 : shq a r p = 100 := by omega
        rw [e4] at e3
        omega
    · have : srm a r p = 0 := if_neg hw
      omega
  · rw [if_neg hc]; omega
theorem hbz_congr {a b : Int → Int} (h : ∀ j, 0 ≤ j → j < 25344 → b j = a j) {r d f e : Int} (hr : 0 ≤ r ∧ r < 16) (hd : 0 ≤ d ∧ d < 16) (hf : 1 ≤ f) (he : e ≤ 100) : hbz b r d f e = hbz a r d f e := sz_congr (fun j h1 h2 => h _ (by omega) (by omega))
def Low (a b : Int → Int) : Prop := (∀ j, 0 ≤ j → j < 25376 → b j = a j) ∧ b 26176 = a 26176 ∧ b 26177 = a 26177
theorem pthz_congr {a b : Int → Int} (h : Low a b) (hI : Inv a) {r p : Int} (hr : 0 ≤ r ∧ r < 16) (hp : 0 ≤ p ∧ p < 48) : pthz b r p = pthz a r p := by
  have hs := hI.s
  unfold pthz phz
  rcases (show p % 3 = 0 ∨ p % 3 = 1 ∨ p % 3 = 2 by omega) with g | g | g
  · rw [g, if_pos rfl, if_pos rfl, if_neg (by omega), if_neg (by omega), show (26176 + 0 : Int) = 26176 from rfl, h.2.1]
    exact hbz_congr (fun j h1 h2 => h.1 j h1 (by omega)) hr (by omega) (by omega) (by omega)
  · rw [g, if_neg (by omega), if_neg (by omega), if_neg (by omega), if_neg (by omega), show (26176 + (1 - 1) : Int) = 26176 from rfl, show (26176 + 1 : Int) = 26177 from rfl, h.2.1, h.2.2]
    exact hbz_congr (fun j h1 h2 => h.1 j h1 (by omega)) hr (by omega) (by omega) (by omega)
  · rw [g, if_neg (show ¬ (2 : Int) = 0 by omega), if_pos rfl, if_neg (show ¬ (2 : Int) = 0 by omega), if_pos rfl, show (26176 + (2 - 1) : Int) = 26177 from rfl, h.2.2]
    exact hbz_congr (fun j h1 h2 => h.1 j h1 (by omega)) hr (by omega) (by omega) (by omega)
theorem shr_congr {a b : Int → Int} (h : Low a b) (hI : Inv a) {r p : Int} (hr : 0 ≤ r ∧ r < 16) (hp : 0 ≤ p ∧ p < 48) : shr b r p = shr a r p := by
  have e0 : b (25344 + r) = a (25344 + r) := h.1 _ (by omega) (by omega)
  have e1 : ∀ q, 0 ≤ q → q < 48 → shq b r q = shq a r q := fun q h1 h2 => by
    unfold shq; rw [pthz_congr h hI hr ⟨h1, h2⟩, e0]
  have e2 : ∀ q, 0 ≤ q → q < 48 → srm b r q = srm a r q := fun q h1 h2 => by
    unfold srm; rw [pthz_congr h hI hr ⟨h1, h2⟩, e0]
  have e3 : mis b r = mis a r := by
    unfold mis; rw [e0, sz_congr e1]
  have e4 : pah (srm b r) p = pah (srm a r) p := sz_congr (fun q h1 h2 => by rw [e2 q h1 h2, e2 p hp.1 hp.2])
  unfold shr
  rw [e1 p hp.1 hp.2, e2 p hp.1 hp.2, e3, e4]
theorem cshz_congr {a b : Int → Int} (h : Low a b) {r : Int} (hr : 0 ≤ r ∧ r < 16) : cshz b r = cshz a r := by
  unfold cshz allz
  rw [h.1 _ (by omega) (by omega), h.1 _ (by omega) (by omega)]
theorem cutA_at {a : Int → Int} (f : Int → Int) {r n : Int} (hr : 0 ≤ r ∧ r < 16) (j : Int) : cutA a r f n j = if j = 26179 then a 26179 + 1 else if j = 26160 + r then a (26160 + r) + n else if j = 26144 + r then cshz a r else if 25376 + r * 48 ≤ j ∧ j < 25376 + r * 48 + 48 then f (j - (25376 + r * 48)) else a j := by
  have e0 : ∀ j, ¬ (25376 + r * 48 ≤ j ∧ j < 25376 + r * 48 + 48) → cpz f a 0 (25376 + r * 48) 48 j = a j := fun j h => if_neg h
  have e1 : cshz (cpz f a 0 (25376 + r * 48) 48) r = cshz a r := by
    unfold cshz allz
    rw [e0 _ (by omega), e0 _ (by omega)]
  unfold cutA
  simp only [e1]
  by_cases h1 : j = 26179
  · rw [if_pos h1, h1, upz_eq, upz_ne _ _ _ (by omega), upz_ne _ _ _ (by omega), e0 _ (by omega)]
  · rw [if_neg h1, upz_ne _ _ _ h1]
    by_cases h2 : j = 26160 + r
    · rw [if_pos h2, h2, upz_eq, upz_ne _ _ _ (by omega), e0 _ (by omega)]
    · rw [if_neg h2, upz_ne _ _ _ h2]
      by_cases h3 : j = 26144 + r
      · rw [if_pos h3, h3, upz_eq]
      · rw [if_neg h3, upz_ne _ _ _ h3]
        unfold cpz
        by_cases h4 : 25376 + r * 48 ≤ j ∧ j < 25376 + r * 48 + 48
        · rw [if_pos h4, if_pos h4, Int.zero_add]
        · rw [if_neg h4, if_neg h4]
theorem newA_at {a : Int → Int} {r : Int} (hr : 0 ≤ r ∧ r < 16) (j : Int) : newA a r j = if j = 26180 then a 26180 + 1 else if j = 26160 + r ∨ j = 26144 + r ∨ (25376 + r * 48 ≤ j ∧ j < 25376 + r * 48 + 48) then 0 else a j := by
  have e0 : ∀ j, ¬ (25376 + r * 48 ≤ j ∧ j < 25376 + r * 48 + 48) → zeroI a r 48 j = a j := fun j h => if_neg h
  unfold newA
  by_cases h1 : j = 26180
  · rw [if_pos h1, h1, upz_eq, upz_ne _ _ _ (by omega), upz_ne _ _ _ (by omega), e0 _ (by omega)]
  · rw [if_neg h1, upz_ne _ _ _ h1]
    by_cases h2 : j = 26160 + r
    · rw [if_pos (Or.inl h2), h2, upz_eq]
    · rw [upz_ne _ _ _ h2]
      by_cases h3 : j = 26144 + r
      · rw [if_pos (Or.inr (Or.inl h3)), h3, upz_eq]
      · rw [upz_ne _ _ _ h3]
        unfold zeroI
        by_cases h4 : 25376 + r * 48 ≤ j ∧ j < 25376 + r * 48 + 48
        · rw [if_pos h4, if_pos (Or.inr (Or.inr h4))]
        · rw [if_neg h4, if_neg (by omega)]
theorem Inv.cut {a : Int → Int} (hI : Inv a) {p q : Int} (h : 0 ≤ rEng a p q) : Inv (cutA a (p * 4 + q) (shr a (p * 4 + q)) (scrz a (p * 4 + q))) := by
  have e : rEng a p q = if ¬ ((0 ≤ p ∧ p ≤ 3) ∧ (0 ≤ q ∧ q ≤ 3)) then -1 else if obsz a (p * 4 + q) = 1 ∨ obsz a (p * 4 + q) = 3 then -4 else if obsz a (p * 4 + q) = 2 then -5 else difz a (p * 4 + q) := rfl
  have hr : 0 ≤ p * 4 + q ∧ p * 4 + q < 16 := by omega
  have hob : 0 ≤ obsz a (p * 4 + q) ∧ obsz a (p * 4 + q) ≤ 3 := by unfold obsz; omega
  have ho : obsz a (p * 4 + q) = 0 := by omega
  have eo : obsz a (p * 4 + q) = if allz a (p * 4 + q) = 0 then 1 else if difz a (p * 4 + q) = 0 then 2 else if 0 < scrz a (p * 4 + q) ∧ a 26178 < a (26160 + (p * 4 + q)) + scrz a (p * 4 + q) then 3 else 0 := rfl
  have hsc := scrz_rng (a := a) (p * 4 + q)
  have hs := hI.2.2.1
  have hcs := cshz_rng hI hr
  have h5 := hI.p (j := 26160 + (p * 4 + q)) (by omega) (by omega)
  have hat := cutA_at (a := a) (shr a (p * 4 + q)) (n := scrz a (p * 4 + q)) hr
  refine hI.upd (fun j h1 h2 => ?_) (fun j => ?_) ?_ (fun j h1 h2 => ?_)
  · rw [hat, if_neg (by omega), if_neg (by omega), if_neg (by omega), if_neg (by omega)]
  · rw [hat]
    have h7 := hI.1 j
    have h8 := hI.1 26179
    split
    · omega
    · split
      · omega
      · split
        · omega
        · split
          · exact (shr_100 hI hr (by omega)).1
          · exact h7
  · rw [hat, hat, hat, if_neg (by omega), if_neg (by omega), if_neg (by omega), if_neg (by omega), if_neg (by omega), if_neg (by omega), if_neg (by omega), if_neg (by omega), if_neg (by omega), if_neg (by omega), if_neg (by omega), if_neg (by omega)]
    exact hs
  · rw [hat, if_neg (by omega)]
    have h7 := hI.2.2.2 j h1 h2
    split
    · omega
    · split
      · omega
      · split
        · exact (shr_100 hI hr (by omega)).2
        · exact h7
theorem Inv.new {a : Int → Int} (hI : Inv a) {r : Int} (hr : 0 ≤ r ∧ r < 16) : Inv (newA a r) := by
  have hat := newA_at (a := a) hr
  refine hI.upd (fun j h1 h2 => ?_) (fun j => ?_) ?_ (fun j h1 h2 => ?_)
  · rw [hat, if_neg (by omega), if_neg (by omega)]
  · rw [hat]
    have h7 := hI.1 j
    have h8 := hI.1 26180
    split
    · omega
    · split
      · omega
      · exact h7
  · rw [hat, hat, hat, if_neg (by omega), if_neg (by omega), if_neg (by omega), if_neg (by omega), if_neg (by omega), if_neg (by omega)]
    exact hI.2.2.1
  · rw [hat, if_neg (by omega)]
    have h7 := hI.2.2.2 j h1 h2
    split
    · omega
    · exact h7
section IVS
variable {a : Int → Int}
theorem inv_log (hI : Inv a) {p q d v h : Int} (h0 : 0 ≤ rLog a p q d v h) : Inv (addW a (p * 4 + q) d v h) := by
  have e : rLog a p q d v h = if ¬ (((0 ≤ p ∧ p ≤ 3) ∧ (0 ≤ q ∧ q ≤ 3)) ∧ (0 ≤ d ∧ d ≤ 15)) then -1 else if ¬ ((1 ≤ v ∧ v ≤ 99) ∧ (1 ≤ h ∧ h ≤ 99)) then -2 else if 9999 < a (25344 + (p * 4 + q)) + a (25360 + (p * 4 + q)) + h then -3 else a (25344 + (p * 4 + q)) + a (25360 + (p * 4 + q)) + h := rfl
  have hz := hI.1 ((p * 4 + q) * 1584 + d * 99 + v - 1)
  exact hI.aW (by omega) (by omega) (by omega) (by omega) (by omega)
theorem inv_calm (hI : Inv a) {p q h : Int} (h0 : 0 ≤ rCalm a p q h) : Inv (upz a (25360 + (p * 4 + q)) (a (25360 + (p * 4 + q)) + h)) := by
  have e : rCalm a p q h = if ¬ ((0 ≤ p ∧ p ≤ 3) ∧ (0 ≤ q ∧ q ≤ 3)) then -1 else if ¬ (1 ≤ h ∧ h ≤ 99) then -2 else if 9999 < a (25344 + (p * 4 + q)) + a (25360 + (p * 4 + q)) + h then -3 else a (25344 + (p * 4 + q)) + a (25360 + (p * 4 + q)) + h := rfl
  exact hI.calm (by omega) (by omega) (by omega)
theorem inv_strike (hI : Inv a) {p q d v : Int} (h0 : 0 ≤ rStrike a p q d v) : Inv (addW a (p * 4 + q) d v (-(a ((p * 4 + q) * 1584 + d * 99 + v - 1)))) := by
  have e : rStrike a p q d v = if ¬ (((0 ≤ p ∧ p ≤ 3) ∧ (0 ≤ q ∧ q ≤ 3)) ∧ (0 ≤ d ∧ d ≤ 15)) then -1 else if ¬ (1 ≤ v ∧ v ≤ 99) then -2 else if a ((p * 4 + q) * 1584 + d * 99 + v - 1) = 0 then -5 else a ((p * 4 + q) * 1584 + d * 99 + v - 1) := rfl
  have hr : 0 ≤ p * 4 + q ∧ p * 4 + q < 16 := by omega
  have hw := hI.w hr
  have hz := hI.1 ((p * 4 + q) * 1584 + d * 99 + v - 1)
  exact hI.aW hr (by omega) (by omega) (by omega) (by omega)
theorem inv_turn (hI : Inv a) {p q b : Int} (h0 : 0 ≤ rTurn a p q b) : Inv (turnI a (p * 4 + q) b 16) := by
  have e : rTurn a p q b = if ¬ ((0 ≤ p ∧ p ≤ 3) ∧ (0 ≤ q ∧ q ≤ 3)) then -1 else if ¬ (1 ≤ b ∧ b ≤ 15) then -2 else if a (25344 + (p * 4 + q)) = 0 then -5 else a (25344 + (p * 4 + q)) := rfl
  exact hI.turn (by omega) (by omega)
theorem inv_ren (hI : Inv a) {p q : Int} (h0 : 0 ≤ rRen a p q) : Inv (newA a (p * 4 + q)) := by
  have e : rRen a p q = if ¬ ((0 ≤ p ∧ p ≤ 3) ∧ (0 ≤ q ∧ q ≤ 3)) then -1 else if cutz a (p * 4 + q) = 0 ∧ a (26144 + (p * 4 + q)) = 0 ∧ a (26160 + (p * 4 + q)) = 0 then -5 else a (26160 + (p * 4 + q)) := rfl
  exact hI.new (by omega)
end IVS
def a0z : Int → Int := upz (upz (upz (fun _ => 0) 26176 12) 26177 30) 26178 5
theorem a0z_at (j : Int) : a0z j = if j = 26178 then 5 else if j = 26177 then 30 else if j = 26176 then 12 else 0 := by
  simp only [a0z, upz]
theorem sz_pt {i v a b : Int} (hi : a ≤ i ∧ i < b) : sz (fun p => if i = p then v else 0) a b = v := by
  rw [sz_split _ hi.1 (by omega : i ≤ b), sz_split _ (by omega : i ≤ i + 1) (by omega : i + 1 ≤ b), sz_one, sz_zero (a := a) (b := i) (fun j h1 h2 => if_neg (by omega)), sz_zero (a := i + 1) (b := b) (fun j h1 h2 => if_neg (by omega)), if_pos rfl]
  omega
/-- the three classes of a direction -/
theorem cls_sum {a : Int → Int} (hI : Inv a) (r d : Int) : sz (fun k => phz a r d k) 0 3 = hbz a r d 1 100 := by
  rw [show (3 : Int) = 2 + 1 from rfl, sz_succ _ (by omega), show (2 : Int) = 1 + 1 from rfl, sz_succ _ (by omega), show (sz (fun k => phz a r d k) 0 1) = phz a r d 0 from sz_one _ 0]
  have h := dir_sum hI r d
  have e0 := pth_d (a := a) (r := r) (d := d) (k := 0) (by omega)
  rw [Int.add_zero] at e0
  rw [e0, pth_d (by omega), pth_d (by omega)] at h
  exact h
/-- a share and the least that is due -/
theorem shr_law {a : Int → Int} (hI : Inv a) {r d k : Int} (hr : 0 ≤ r ∧ r < 16) (hk : 0 ≤ k ∧ k ≤ 2) :
    (if a (25344 + r) = 0 then 0 else 100 * phz a r d k / a (25344 + r)) ≤ shr a r (d * 3 + k) ∧ shr a r (d * 3 + k) ≤ (if a (25344 + r) = 0 then 0 else 100 * phz a r d k / a (25344 + r)) + 1 ∧ ((a (25344 + r) = 0 ∨ 100 * phz a r d k % a (25344 + r) = 0) → shr a r (d * 3 + k) = (if a (25344 + r) = 0 then 0 else 100 * phz a r d k / a (25344 + r))) := by
  have hw := hI.w hr
  have e0 : pthz a r (d * 3 + k) = phz a r d k := by
    unfold pthz
    rw [show (d * 3 + k) / 3 = d by omega, show (d * 3 + k) % 3 = k by omega]
  have e1 : shq a r (d * 3 + k) = if 0 < a (25344 + r) then 100 * phz a r d k / a (25344 + r) else 0 := by unfold shq; rw [e0]
  have e2 : srm a r (d * 3 + k) = if 0 < a (25344 + r) then 100 * phz a r d k % a (25344 + r) else 0 := by unfold srm; rw [e0]
  have e3 : shr a r (d * 3 + k) = shq a r (d * 3 + k) + (if 0 < srm a r (d * 3 + k) ∧ pah (srm a r) (d * 3 + k) < mis a r then 1 else 0) := rfl
  generalize 100 * phz a r d k / a (25344 + r) = x at e1 ⊢
  generalize 100 * phz a r d k % a (25344 + r) = y at e2 ⊢
  by_cases hz : 0 < srm a r (d * 3 + k) ∧ pah (srm a r) (d * 3 + k) < mis a r
  · rw [if_pos hz] at e3
    have h1 := hz.1
    refine ⟨by omega, by omega, fun h => by omega⟩
  · rw [if_neg hz] at e3
    refine ⟨by omega, by omega, fun h => by omega⟩
/-! ### both ways tell the same shares -/
theorem pah_lt {m : Int → Int} {p q : Int} (hp : 0 ≤ p ∧ p < 48) (h : m q < m p ∨ (m p = m q ∧ p < q)) : pah m p < pah m q := by
  have h1 : sz (fun o => (if m p < m o ∨ (m o = m p ∧ o < p) then 1 else 0) + (if p = o then 1 else 0)) 0 48 ≤ sz (fun o => if m q < m o ∨ (m o = m q ∧ o < q) then 1 else 0) 0 48 := by
    refine sz_lef (fun o _ _ => ?_)
    show (if m p < m o ∨ (m o = m p ∧ o < p) then (1 : Int) else 0) + (if p = o then 1 else 0) ≤ if m q < m o ∨ (m o = m q ∧ o < q) then 1 else 0
    by_cases ho : p = o
    · subst ho
      rw [if_neg (by omega), if_pos rfl, if_pos h]; omega
    · rw [if_neg ho]
      by_cases hc : m p < m o ∨ (m o = m p ∧ o < p)
      · rw [if_pos hc, if_pos (by omega)]; omega
      · rw [if_neg hc]; split <;> omega
  rw [sz_add, sz_pt hp] at h1
  have h2 : sz (fun o => if m p < m o ∨ (m o = m p ∧ o < p) then 1 else 0) 0 48 = pah m p := rfl
  have h3 : sz (fun o => if m q < m o ∨ (m o = m q ∧ o < q) then 1 else 0) 0 48 = pah m q := rfl
  omega
theorem bsi_spec (m g : Int → Int) : ∀ i : Nat, (bsi m g i < 0 ∧ ∀ j : Int, 0 ≤ j → j < i → g j ≠ 0) ∨ ((0 ≤ bsi m g i ∧ bsi m g i < i) ∧ g (bsi m g i) = 0 ∧ ∀ j : Int, 0 ≤ j → j < i → g j = 0 → m j < m (bsi m g i) ∨ (m j = m (bsi m g i) ∧ bsi m g i ≤ j))
  | 0 => Or.inl ⟨by show (-1 : Int) < 0; omega, fun j h1 h2 => absurd h2 (by omega)⟩
  | i + 1 => by
    have ih := bsi_spec m g i
    rw [bsi]
    rcases ih with ⟨h1, h2⟩ | ⟨h1, h2, h3⟩
    · by_cases hg : g (i : Int) = 0
      · right
        rw [if_pos ⟨hg, Or.inl h1⟩]
        refine ⟨by omega, hg, fun j h4 h5 h6 => ?_⟩
        by_cases hj : j = i
        · rw [hj]; exact Or.inr ⟨rfl, Int.le_refl _⟩
        · exact absurd h6 (h2 j h4 (by omega))
      · left
        rw [if_neg (fun z => hg z.1)]
        refine ⟨h1, fun j h4 h5 => ?_⟩
        by_cases hj : j = i
        · rw [hj]; exact hg
        · exact h2 j h4 (by omega)
    · by_cases hc : g (i : Int) = 0 ∧ (bsi m g i < 0 ∨ m (bsi m g i) < m (i : Int))
      · right
        rw [if_pos hc]
        refine ⟨by omega, hc.1, fun j h4 h5 h6 => ?_⟩
        by_cases hj : j = i
        · rw [hj]; exact Or.inr ⟨rfl, Int.le_refl _⟩
        · have h7 := h3 j h4 (by omega) h6
          have h8 := hc.2
          left; omega
      · right
        rw [if_neg hc]
        refine ⟨by omega, h2, fun j h4 h5 h6 => ?_⟩
        by_cases hj : j = i
        · rw [hj] at h6 ⊢
          have hc2 : ¬ m (bsi m g i) < m (i : Int) := fun z => hc ⟨h6, Or.inr z⟩
          omega
        · exact h3 j h4 (by omega) h6
/-- behind n givings just the first n in rank have got one -/
theorem dl_st {m f : Int → Int} : ∀ n : Nat, n ≤ 48 → (∀ j : Int, 0 ≤ j → j < 48 → (dlN m (f, fun _ => 0) n).2 j = (if pah m j < n then 1 else 0) ∧ (dlN m (f, fun _ => 0) n).1 j = f j + (if pah m j < n then 1 else 0)) ∧ sz (dlN m (f, fun _ => 0) n).2 0 48 = n
  | 0, _ => ⟨fun j _ _ => by
      have := (pah_rng m j).1
      rw [if_neg (by omega)]
      exact ⟨rfl, (Int.add_zero _).symm⟩, sz_zero (fun _ _ _ => rfl)⟩
  | n + 1, hn => by
    obtain ⟨ih, ihs⟩ := dl_st (m := m) (f := f) n (by omega)
    generalize hS : dlN m (f, fun _ => 0) n = S at ih ihs
    rcases bsi_spec m S.2 48 with ⟨h1, h2⟩ | ⟨h1, h2, h3⟩
    · exfalso
      have h4 : sz (fun _ => (1 : Int)) 0 48 ≤ sz S.2 0 48 := sz_lef (fun j h5 h6 => by
        have h7 := (ih j h5 h6).1
        have h8 := h2 j h5 (by omega)
        show (1 : Int) ≤ S.2 j
        omega)
      have h5 : sz (fun _ => (1 : Int)) 0 48 = 48 := by decide +kernel
      omega
    · generalize hB : bsi m S.2 48 = b at h1 h2 h3
      have hb : 0 ≤ b ∧ b < 48 := by omega
      have hg0 := ih b hb.1 hb.2
      have hpb : (n : Int) ≤ pah m b := by omega
      have hpe : pah m b ≤ n := by
        have h4 : sz (fun o => if m b < m o ∨ (m o = m b ∧ o < b) then 1 else 0) 0 48 ≤ sz S.2 0 48 := sz_lef (fun o h5 h6 => by
          have h7 := (ih o h5 h6).1
          have h8 := h3 o h5 (by omega)
          show (if m b < m o ∨ (m o = m b ∧ o < b) then (1 : Int) else 0) ≤ S.2 o
          by_cases h9 : S.2 o = 0
          · have h10 := h8 h9
            rw [if_neg (by omega)]; omega
          · have : S.2 o = 1 := by omega
            split <;> omega)
        have h9 : sz (fun o => if m b < m o ∨ (m o = m b ∧ o < b) then 1 else 0) 0 48 = pah m b := rfl
        omega
      have hD : dlN m (f, fun _ => 0) (n + 1) = (upz S.1 b (S.1 b + 1), upz S.2 b 1) := by
        rw [dlN, hS, dlS, hB, if_pos hb.1]
      rw [hD]
      refine ⟨fun j h5 h6 => ?_, ?_⟩
      · have h7 := ih j h5 h6
        show upz S.2 b 1 j = _ ∧ upz S.1 b (S.1 b + 1) j = _
        by_cases hj : j = b
        · rw [hj] at h7 ⊢
          rw [upz_eq, upz_eq]
          exact ⟨by omega, by omega⟩
        · rw [upz_ne _ _ _ hj, upz_ne _ _ _ hj]
          have hne : pah m j ≠ pah m b := by
            intro he
            rcases (show (m b < m j ∨ (m j = m b ∧ j < b)) ∨ (m j < m b ∨ (m b = m j ∧ b < j)) by omega) with h8 | h8
            · have := pah_lt (m := m) (p := j) (q := b) ⟨h5, h6⟩ h8; omega
            · have := pah_lt (m := m) (p := b) (q := j) hb h8; omega
          exact ⟨by omega, by omega⟩
      · show sz (upz S.2 b 1) 0 48 = _
        rw [sz_upz_in _ hb.1 hb.2, ihs, h2]
        omega
theorem mis_0 {a : Int → Int} (hI : Inv a) {r : Int} (hr : 0 ≤ r ∧ r < 16) : 0 ≤ mis a r := by
  by_cases hw : 0 < a (25344 + r)
  · have h1 := srm_sum hI hr hw
    have h2 := sz_nonneg (f := srm a r) (a := 0) (b := 48) (fun j _ _ => (srm_lt hw).1)
    rcases Int.lt_or_le (mis a r) 0 with h | h
    · exfalso
      have h3 : a (25344 + r) * mis a r < a (25344 + r) * 0 := Int.mul_lt_mul_of_pos_left h hw
      rw [Int.mul_zero] at h3
      omega
    · exact h
  · have : mis a r = 0 := if_neg hw
    omega
theorem dez_shr {a : Int → Int} (hI : Inv a) {r p : Int} (hr : 0 ≤ r ∧ r < 16) (hp : 0 ≤ p ∧ p < 48) : dez a r p = shr a r p := by
  have h47 := mis_47 hI hr
  have h0 := mis_0 hI hr
  by_cases hw : 0 < a (25344 + r)
  · have h1 := ((dl_st (m := srm a r) (f := shq a r) (mis a r).toNat (by omega)).1 p hp.1 hp.2).2
    rw [shr_eq hI hr hp hw]
    show (dlN (srm a r) (shq a r, fun _ => 0) (mis a r).toNat).1 p = _
    rw [h1, show (((mis a r).toNat : Nat) : Int) = mis a r by omega]
  · rw [shr_w0 hw]
    have h1 : mis a r = 0 := if_neg hw
    unfold dez
    rw [h1]; rfl
theorem shr_sum {a : Int → Int} (hI : Inv a) {r : Int} (hr : 0 ≤ r ∧ r < 16) : sz (shr a r) 0 48 = if a (25344 + r) = 0 then 0 else 100 := by
  have hw0 := hI.w hr
  have h47 := mis_47 hI hr
  have h0 := mis_0 hI hr
  by_cases hw : 0 < a (25344 + r)
  · rw [if_neg (by omega)]
    have h1 := dl_st (m := srm a r) (f := shq a r) (mis a r).toNat (by omega)
    have e1 : sz (shr a r) 0 48 = sz (fun p => shq a r p + (dlN (srm a r) (shq a r, fun _ => 0) (mis a r).toNat).2 p) 0 48 := sz_congr (fun p h2 h3 => by
      rw [shr_eq hI hr ⟨h2, h3⟩ hw, (h1.1 p h2 h3).1, show (((mis a r).toNat : Nat) : Int) = mis a r by omega])
    have e4 := sz_add (shq a r) (dlN (srm a r) (shq a r, fun _ => 0) (mis a r).toNat).2 0 48
    have e2 : mis a r = 100 - sz (shq a r) 0 48 := if_pos hw
    have e5 := h1.2
    rw [e1, e4, e5]
    omega
  · rw [if_pos (by omega)]
    exact sz_zero (fun p _ _ => by rw [shr_w0 hw]; exact if_neg hw)
/-! ### speeds -/
theorem sz_swap (f : Int → Int → Int) (a b : Int) : ∀ n : Nat, sz (fun s => sz (fun d => f d s) 0 (n : Int)) a b = sz (fun d => sz (fun s => f d s) a b) 0 (n : Int)
  | 0 => by
    rw [show ((0 : Nat) : Int) = 0 from rfl, sz_self]
    exact sz_zero (fun s _ _ => sz_self _ _)
  | n + 1 => by
    rw [show ((n + 1 : Nat) : Int) = (n : Int) + 1 by omega, sz_succ _ (by omega), ← sz_swap f a b n, ← sz_add]
    exact sz_congr (fun s _ _ => sz_succ _ (by omega))
theorem spz_sum {a : Int → Int} (hI : Inv a) {r : Int} (hr : 0 ≤ r ∧ r < 16) : sz (spz a r) 1 100 = a (25344 + r) := by
  have h := sz_swap (fun d s => a (r * 1584 + d * 99 + s - 1)) 1 100 16
  rw [show ((16 : Nat) : Int) = 16 from rfl] at h
  exact h.trans (wnd_dir hI hr)
theorem gsz_spec (a : Int → Int) (r : Int) : ∀ n : Nat, (gsz a r n = -5 ∧ ∀ s : Int, 1 ≤ s → s ≤ n → spz a r s ≤ 0) ∨ ((1 ≤ gsz a r n ∧ gsz a r n ≤ n) ∧ 0 < spz a r (gsz a r n) ∧ ∀ s : Int, gsz a r n < s → s ≤ n → spz a r s ≤ 0)
  | 0 => Or.inl ⟨rfl, fun s h1 h2 => absurd h2 (by omega)⟩
  | n + 1 => by
    have ih := gsz_spec a r n
    rw [gsz]
    by_cases hc : 0 < spz a r ((n : Int) + 1)
    · right
      rw [if_pos hc]
      exact ⟨by omega, hc, fun s h1 h2 => absurd h2 (by omega)⟩
    · rw [if_neg hc]
      rcases ih with ⟨h1, h2⟩ | ⟨h1, h2, h3⟩
      · left
        refine ⟨h1, fun s h4 h5 => ?_⟩
        by_cases hs : s = (n : Int) + 1
        · rw [hs]; omega
        · exact h2 s h4 (by omega)
      · right
        refine ⟨by omega, h2, fun s h4 h5 => ?_⟩
        by_cases hs : s = (n : Int) + 1
        · rw [hs]; omega
        · exact h3 s h4 (by omega)
theorem mean_law {a : Int → Int} (hI : Inv a) {r : Int} (hr : 0 ≤ r ∧ r < 16) : (a (25344 + r) = 0 → meanz a r = -5 ∧ gsz a r 99 = -5) ∧ (0 < a (25344 + r) → 0 < meanz a r ∧ meanz a r ≤ gsz a r 99 ∧ gsz a r 99 < 100) := by
  have hs := spz_sum hI hr
  have hg := gsz_spec a r 99
  have hnn : ∀ s : Int, 1 ≤ s → s < 100 → 0 ≤ spz a r s := fun s h1 h2 => (spz_rng hI hr ⟨h1, by omega⟩).1
  refine ⟨fun h0 => ⟨if_pos (by omega), ?_⟩, fun h0 => ?_⟩
  · rcases hg with h | ⟨h1, h2, h3⟩
    · exact h.1
    · exfalso
      have := sz_mem (f := spz a r) (a := 1) (b := 100) (i := gsz a r 99) (fun j g1 g2 => hnn j g1 g2) h1.1 (by omega)
      omega
  · have hm : meanz a r = wsum a r 100 / a (25344 + r) := if_neg (by omega)
    rcases hg with ⟨h1, h2⟩ | ⟨h1, h2, h3⟩
    · exfalso
      have : sz (spz a r) 1 100 = 0 := sz_zero (fun j g1 g2 => by
        have := hnn j g1 g2
        have := h2 j g1 (by omega)
        omega)
      omega
    · have lo : a (25344 + r) ≤ wsum a r 100 := by
        rw [← hs]
        exact sz_lef (fun s g1 g2 => by
          have g3 := hnn s g1 g2
          have g4 : 1 * spz a r s ≤ s * spz a r s := Int.mul_le_mul_of_nonneg_right (by omega) g3
          rw [Int.one_mul] at g4; exact g4)
      have hi : wsum a r 100 ≤ gsz a r 99 * a (25344 + r) := by
        rw [← hs, ← sz_mulc]
        exact sz_lef (fun s g1 g2 => by
          have g3 := hnn s g1 g2
          rcases Int.lt_or_le (gsz a r 99) s with g | g
          · have g5 := h3 s g (by omega)
            have g6 : spz a r s = 0 := by omega
            rw [g6, Int.mul_zero, Int.mul_zero]; exact Int.le_refl 0
          · exact Int.mul_le_mul_of_nonneg_right g g3)
      rw [hm]
      refine ⟨?_, ?_, by omega⟩
      · have : 1 ≤ wsum a r 100 / a (25344 + r) := (Int.le_ediv_iff_mul_le h0).mpr (by omega)
        omega
      · exact Int.le_of_lt_add_one (Int.ediv_lt_of_lt_mul h0 (by rw [Int.add_mul]; omega))
/-! ### what the calls answer, told shortly -/
theorem rRose_0 {a : Int → Int} {p q : Int} (hp : 0 ≤ p ∧ p ≤ 3) (hq : 0 ≤ q ∧ q ≤ 3) : rRose a p q 0 = a (25344 + (p * 4 + q)) + a (25360 + (p * 4 + q)) := by
  unfold rRose; rw [if_neg (by omega), if_pos rfl]
theorem rRose_1 {a : Int → Int} {p q : Int} (hp : 0 ≤ p ∧ p ≤ 3) (hq : 0 ≤ q ∧ q ≤ 3) : rRose a p q 1 = a (25344 + (p * 4 + q)) := by
  unfold rRose; rw [if_neg (by omega), if_neg (by omega), if_pos rfl]
theorem rRose_2 {a : Int → Int} {p q : Int} (hp : 0 ≤ p ∧ p ≤ 3) (hq : 0 ≤ q ∧ q ≤ 3) : rRose a p q 2 = a (25360 + (p * 4 + q)) := by
  unfold rRose; rw [if_neg (by omega), if_neg (by omega), if_neg (by omega), if_pos rfl]
theorem rRose_3 {a : Int → Int} {p q : Int} (hp : 0 ≤ p ∧ p ≤ 3) (hq : 0 ≤ q ∧ q ≤ 3) : rRose a p q 3 = cshz a (p * 4 + q) := by
  unfold rRose; rw [if_neg (by omega), if_neg (by omega), if_neg (by omega), if_neg (by omega), if_pos rfl]
theorem rRose_4 {a : Int → Int} {p q : Int} (hp : 0 ≤ p ∧ p ≤ 3) (hq : 0 ≤ q ∧ q ≤ 3) : rRose a p q 4 = gsz a (p * 4 + q) 99 := by
  unfold rRose; rw [if_neg (by omega), if_neg (by omega), if_neg (by omega), if_neg (by omega), if_neg (by omega), if_pos rfl]
theorem rRose_5 {a : Int → Int} {p q : Int} (hp : 0 ≤ p ∧ p ≤ 3) (hq : 0 ≤ q ∧ q ≤ 3) : rRose a p q 5 = meanz a (p * 4 + q) := by
  unfold rRose; rw [if_neg (by omega), if_neg (by omega), if_neg (by omega), if_neg (by omega), if_neg (by omega), if_neg (by omega), if_pos rfl]
theorem rRose_c {a : Int → Int} {p q : Int} (hp : 0 ≤ p ∧ p ≤ 3) (hq : 0 ≤ q ∧ q ≤ 3) {k : Int} (hk : 0 ≤ k ∧ k ≤ 2) : rRose a p q (6 + k) = clz a (p * 4 + q) k := by
  unfold rRose; rw [if_neg (by omega), if_neg (by omega), if_neg (by omega), if_neg (by omega), if_neg (by omega), if_neg (by omega), if_neg (by omega), if_pos (by omega), show 6 + k - 6 = k by omega]
theorem rRose_9 {a : Int → Int} {p q : Int} (hp : 0 ≤ p ∧ p ≤ 3) (hq : 0 ≤ q ∧ q ≤ 3) : rRose a p q 9 = prevz a (p * 4 + q) := by
  unfold rRose; rw [if_neg (by omega), if_neg (by omega), if_neg (by omega), if_neg (by omega), if_neg (by omega), if_neg (by omega), if_neg (by omega), if_neg (by omega), if_pos rfl]
theorem rRose_10 {a : Int → Int} {p q : Int} (hp : 0 ≤ p ∧ p ≤ 3) (hq : 0 ≤ q ∧ q ≤ 3) : rRose a p q 10 = -2 := by
  unfold rRose; rw [if_neg (by omega), if_neg (by omega), if_neg (by omega), if_neg (by omega), if_neg (by omega), if_neg (by omega), if_neg (by omega), if_neg (by omega), if_neg (by omega)]
theorem rPlate_0 {a : Int → Int} {p q : Int} (hp : 0 ≤ p ∧ p ≤ 3) (hq : 0 ≤ q ∧ q ≤ 3) : rPlate a p q 0 = a (26144 + (p * 4 + q)) := by
  unfold rPlate; rw [if_neg (by omega), if_pos rfl]
theorem rPlate_1 {a : Int → Int} {p q : Int} (hp : 0 ≤ p ∧ p ≤ 3) (hq : 0 ≤ q ∧ q ≤ 3) : rPlate a p q 1 = a (26160 + (p * 4 + q)) := by
  unfold rPlate; rw [if_neg (by omega), if_neg (by omega), if_pos rfl]
theorem rPlate_2 {a : Int → Int} {p q : Int} (hp : 0 ≤ p ∧ p ≤ 3) (hq : 0 ≤ q ∧ q ≤ 3) : rPlate a p q 2 = cutz a (p * 4 + q) := by
  unfold rPlate; rw [if_neg (by omega), if_neg (by omega), if_neg (by omega), if_pos rfl]
theorem rPlate_3 {a : Int → Int} {p q : Int} (hp : 0 ≤ p ∧ p ≤ 3) (hq : 0 ≤ q ∧ q ≤ 3) : rPlate a p q 3 = longz a (p * 4 + q) := by
  unfold rPlate; rw [if_neg (by omega), if_neg (by omega), if_neg (by omega), if_neg (by omega), if_pos rfl]
theorem rPlate_4 {a : Int → Int} {p q : Int} (hp : 0 ≤ p ∧ p ≤ 3) (hq : 0 ≤ q ∧ q ≤ 3) : rPlate a p q 4 = disz a (p * 4 + q) := by
  unfold rPlate; rw [if_neg (by omega), if_neg (by omega), if_neg (by omega), if_neg (by omega), if_neg (by omega), if_pos rfl]
theorem rPlate_5 {a : Int → Int} {p q : Int} (hp : 0 ≤ p ∧ p ≤ 3) (hq : 0 ≤ q ∧ q ≤ 3) : rPlate a p q 5 = scrz a (p * 4 + q) := by
  unfold rPlate; rw [if_neg (by omega), if_neg (by omega), if_neg (by omega), if_neg (by omega), if_neg (by omega), if_neg (by omega), if_pos rfl]
theorem rHours_3 {a : Int → Int} {p q : Int} (hp : 0 ≤ p ∧ p ≤ 3) (hq : 0 ≤ q ∧ q ≤ 3) {d : Int} (hd : 0 ≤ d ∧ d ≤ 15) : rHours a p q d 3 = hbz a (p * 4 + q) d 1 100 := by
  unfold rHours; rw [if_neg (by omega), if_pos rfl]
theorem rHours_k {a : Int → Int} {p q : Int} (hp : 0 ≤ p ∧ p ≤ 3) (hq : 0 ≤ q ∧ q ≤ 3) {d k : Int} (hd : 0 ≤ d ∧ d ≤ 15) (hk : 0 ≤ k ∧ k ≤ 2) : rHours a p q d k = phz a (p * 4 + q) d k := by
  unfold rHours; rw [if_neg (by omega), if_neg (by omega), if_pos hk]
theorem rShare_k {a : Int → Int} {p q : Int} (hp : 0 ≤ p ∧ p ≤ 3) (hq : 0 ≤ q ∧ q ≤ 3) {d k : Int} (hd : 0 ≤ d ∧ d ≤ 15) (hk : 0 ≤ k ∧ k ≤ 2) : rShare a p q d k = shr a (p * 4 + q) (d * 3 + k) := if_pos ⟨⟨hp, hq⟩, hd, hk⟩
theorem rDealt_k {a : Int → Int} {p q : Int} (hp : 0 ≤ p ∧ p ≤ 3) (hq : 0 ≤ q ∧ q ≤ 3) {d k : Int} (hI : Inv a) (hd : 0 ≤ d ∧ d ≤ 15) (hk : 0 ≤ k ∧ k ≤ 2) : rDealt a p q d k = shr a (p * 4 + q) (d * 3 + k) := (if_pos ⟨⟨hp, hq⟩, hd, hk⟩).trans (dez_shr hI (by omega) (by omega))
theorem rHours_i {a : Int → Int} {p q : Int} (hp : 0 ≤ p ∧ p ≤ 3) (hq : 0 ≤ q ∧ q ≤ 3) {i : Int} (hi : 0 ≤ i ∧ i < 48) : rHours a p q (i / 3) (i % 3) = pthz a (p * 4 + q) i := rHours_k hp hq (by omega) (by omega)
theorem rShare_i {a : Int → Int} {p q : Int} (hp : 0 ≤ p ∧ p ≤ 3) (hq : 0 ≤ q ∧ q ≤ 3) {i : Int} (hi : 0 ≤ i ∧ i < 48) : rShare a p q (i / 3) (i % 3) = shr a (p * 4 + q) i := by
  rw [rShare_k hp hq (by omega) (by omega), show i / 3 * 3 + i % 3 = i by omega]
theorem rPetal_i {a : Int → Int} {p q : Int} (hp : 0 ≤ p ∧ p ≤ 3) (hq : 0 ≤ q ∧ q ≤ 3) {i : Int} (hi : 0 ≤ i ∧ i < 48) : rPetal a p q (i / 3) (i % 3) = a (25376 + (p * 4 + q) * 48 + i) := by
  unfold rPetal; rw [if_pos ⟨⟨hp, hq⟩, by omega, by omega⟩, show i / 3 * 3 + i % 3 = i by omega]
theorem rReas_o {a : Int → Int} {p q : Int} (hp : 0 ≤ p ∧ p ≤ 3) (hq : 0 ≤ q ∧ q ≤ 3) : rReas a p q = obsz a (p * 4 + q) := if_pos ⟨hp, hq⟩
theorem rQuar_o {a : Int → Int} {p q : Int} (hp : 0 ≤ p ∧ p ≤ 3) (hq : 0 ≤ q ∧ q ≤ 3) {k : Int} (hk : 0 ≤ k ∧ k ≤ 3) : rQuar a p q k = hbz a (p * 4 + q) (4 * k) 1 100 + hbz a (p * 4 + q) ((4 * k + 15) % 16) 1 100 + hbz a (p * 4 + q) (4 * k + 1) 1 100 + (hbz a (p * 4 + q) ((4 * k + 14) % 16) 1 100 + hbz a (p * 4 + q) (4 * k + 2) 1 100) / 2 := by
  unfold rQuar hoz1
  rw [if_neg (by omega), show (k * 4 - 1) % 16 = (4 * k + 15) % 16 by omega, show (k * 4) % 16 = 4 * k by omega, show (k * 4 + 1) % 16 = 4 * k + 1 by omega, show (k * 4 - 2) % 16 = (4 * k + 14) % 16 by omega, show (k * 4 + 2) % 16 = 4 * k + 2 by omega]
  omega
theorem rExc_o {a : Int → Int} {p q : Int} (hp : 0 ≤ p ∧ p ≤ 3) (hq : 0 ≤ q ∧ q ≤ 3) {d : Int} (hd : 0 ≤ d ∧ d ≤ 15) : rExc a p q d = if 0 < hbz a (p * 4 + q) d 1 100 - hbz a (p * 4 + q) ((d + 8) % 16) 1 100 then hbz a (p * 4 + q) d 1 100 - hbz a (p * 4 + q) ((d + 8) % 16) 1 100 else 0 := by
  unfold rExc hoz1
  rw [if_neg (by omega), show d % 16 = d by omega]
theorem rCount_0 (a : Int → Int) (s n : Int) : rCount a s n 0 = sumz a 25344 + sumz a 25360 := by
  unfold rCount; rw [if_pos rfl]
theorem rCount_1 (a : Int → Int) (s n : Int) : rCount a s n 1 = sumz a 25360 := by
  unfold rCount; rw [if_neg (by omega), if_pos rfl]
theorem rCount_2 (a : Int → Int) (s n : Int) : rCount a s n 2 = pnad a 16 := by
  unfold rCount; rw [if_neg (by omega), if_neg (by omega), if_pos rfl]
theorem rCount_3 (a : Int → Int) (s n : Int) : rCount a s n 3 = sumz a 26160 := by
  unfold rCount; rw [if_neg (by omega), if_neg (by omega), if_neg (by omega), if_pos rfl]
theorem rCount_4 (a : Int → Int) (s n : Int) : rCount a s n 4 = a 26179 := by
  unfold rCount; rw [if_neg (by omega), if_neg (by omega), if_neg (by omega), if_neg (by omega), if_pos rfl]
theorem rCount_5 (a : Int → Int) (s n : Int) : rCount a s n 5 = a 26180 := by
  unfold rCount; rw [if_neg (by omega), if_neg (by omega), if_neg (by omega), if_neg (by omega), if_neg (by omega), if_pos rfl]
theorem rCount_c (a : Int → Int) (s n : Int) {k : Int} (hk : 0 ≤ k ∧ k ≤ 2) : rCount a s n (6 + k) = a (26176 + k) := by
  unfold rCount; rw [if_neg (by omega), if_neg (by omega), if_neg (by omega), if_neg (by omega), if_neg (by omega), if_neg (by omega), if_pos (by omega), show 6 + k - 6 = k by omega]
theorem rCount_6 (a : Int → Int) (s n : Int) : rCount a s n 6 = a 26176 := by
  unfold rCount; rw [if_neg (by omega), if_neg (by omega), if_neg (by omega), if_neg (by omega), if_neg (by omega), if_neg (by omega), if_pos (by omega)]; rfl
theorem rCount_7 (a : Int → Int) (s n : Int) : rCount a s n 7 = a 26177 := by
  unfold rCount; rw [if_neg (by omega), if_neg (by omega), if_neg (by omega), if_neg (by omega), if_neg (by omega), if_neg (by omega), if_pos (by omega)]; rfl
theorem rCount_8 (a : Int → Int) (s n : Int) : rCount a s n 8 = a 26178 := by
  unfold rCount; rw [if_neg (by omega), if_neg (by omega), if_neg (by omega), if_neg (by omega), if_neg (by omega), if_neg (by omega), if_pos (by omega)]; rfl
theorem rCount_11 (a : Int → Int) (s n : Int) : rCount a s n 11 = -2 := by
  unfold rCount; rw [if_neg (by omega), if_neg (by omega), if_neg (by omega), if_neg (by omega), if_neg (by omega), if_neg (by omega), if_neg (by omega), if_neg (by omega), if_neg (by omega)]
/-! ### plates -/
def itz (a : Int → Int) (r k : Int) : Int := if k = 48 then a (26144 + r) else a (25376 + r * 48 + k)
def duz (a : Int → Int) (r k : Int) : Int := if k = 48 then cshz a r else shr a r k
theorem itz_48 (a : Int → Int) (r : Int) : itz a r 48 = a (26144 + r) := if_pos rfl
theorem duz_48 (a : Int → Int) (r : Int) : duz a r 48 = cshz a r := if_pos rfl
theorem itz_k (a : Int → Int) (r : Int) {k : Int} (h : k < 48) : itz a r k = a (25376 + r * 48 + k) := if_neg (by omega)
theorem duz_k (a : Int → Int) (r : Int) {k : Int} (h : k < 48) : duz a r k = shr a r k := if_neg (by omega)
def farS (a : Int → Int) (r i : Int) : Int := sz (fun k => absz (itz a r k - duz a r k)) 0 i
def needS (a : Int → Int) (r i : Int) : Int := sz (fun k => if duz a r k < itz a r k then 1 else 0) 0 i
def difS (a : Int → Int) (r i : Int) : Int := sz (fun k => if itz a r k = duz a r k then 0 else 1) 0 i
def petS (a : Int → Int) (r i : Int) : Int := sz (fun k => if k < 48 ∧ 0 < itz a r k then 1 else 0) 0 i
def lonS (a : Int → Int) (r i : Int) : Int := mxz (fun p => a (25376 + r * 48 + p)) (if i < 48 then i else 48).toNat
theorem farS_49 (a : Int → Int) (r : Int) : farS a r 49 = disz a r := by
  unfold farS disz
  rw [show (49 : Int) = 48 + 1 from rfl, sz_succ _ (by omega), itz_48, duz_48, sz_congr (g := fun p => absz (a (25376 + r * 48 + p) - shr a r p)) (fun k _ h => by rw [itz_k a r h, duz_k a r h])]
theorem needS_49 (a : Int → Int) (r : Int) : needS a r 49 = scrz a r := by
  unfold needS scrz
  rw [show (49 : Int) = 48 + 1 from rfl, sz_succ _ (by omega), itz_48, duz_48, sz_congr (g := fun p => if shr a r p < a (25376 + r * 48 + p) then 1 else 0) (fun k _ h => by rw [itz_k a r h, duz_k a r h])]
theorem difS_49 (a : Int → Int) (r : Int) : difS a r 49 = difz a r := by
  unfold difS difz
  rw [show (49 : Int) = 48 + 1 from rfl, sz_succ _ (by omega), itz_48, duz_48, sz_congr (g := fun p => if a (25376 + r * 48 + p) = shr a r p then 0 else 1) (fun k _ h => by rw [itz_k a r h, duz_k a r h])]
theorem petS_49 (a : Int → Int) (r : Int) : petS a r 49 = cutz a r := by
  unfold petS cutz
  rw [show (49 : Int) = 48 + 1 from rfl, sz_succ _ (by omega), if_neg (by omega), Int.add_zero]
  exact sz_congr (fun k _ h => by
    rw [itz_k a r h]
    by_cases hc : 0 < a (25376 + r * 48 + k)
    · rw [if_pos ⟨h, hc⟩, if_pos hc]
    · rw [if_neg (fun z => hc z.2), if_neg hc])
theorem lonS_49 (a : Int → Int) (r : Int) : lonS a r 49 = longz a r := rfl
theorem farS_s (a : Int → Int) (r : Int) {i : Int} (hi : 0 ≤ i) : farS a r (i + 1) = farS a r i + absz (itz a r i - duz a r i) := sz_succ _ hi
theorem needS_s (a : Int → Int) (r : Int) {i : Int} (hi : 0 ≤ i) : needS a r (i + 1) = needS a r i + (if duz a r i < itz a r i then 1 else 0) := sz_succ _ hi
theorem difS_s (a : Int → Int) (r : Int) {i : Int} (hi : 0 ≤ i) : difS a r (i + 1) = difS a r i + (if itz a r i = duz a r i then 0 else 1) := sz_succ _ hi
theorem petS_s (a : Int → Int) (r : Int) {i : Int} (hi : 0 ≤ i) : petS a r (i + 1) = petS a r i + (if i < 48 ∧ 0 < itz a r i then 1 else 0) := sz_succ _ hi
theorem lonS_s (a : Int → Int) (r : Int) {i : Int} (hi : 0 ≤ i) : lonS a r (i + 1) = if i < 48 ∧ lonS a r i < itz a r i then itz a r i else lonS a r i := by
  by_cases h : i < 48
  · unfold lonS
    rw [itz_k a r h, if_pos h]
    have e : (if i + 1 < 48 then i + 1 else 48).toNat = i.toNat + 1 := by split <;> omega
    rw [e, mxz, Int.toNat_of_nonneg hi]
    by_cases hc : mxz (fun p => a (25376 + r * 48 + p)) i.toNat < a (25376 + r * 48 + i)
    · rw [if_pos hc, if_pos ⟨h, hc⟩]
    · rw [if_neg hc, if_neg (fun z => hc z.2)]
  · rw [if_neg (fun z => h z.1)]
    unfold lonS
    rw [if_neg h, if_neg (by omega)]
theorem itz_rng {a : Int → Int} (hI : Inv a) {r k : Int} (hr : 0 ≤ r ∧ r < 16) (hk : 0 ≤ k ∧ k ≤ 48) : 0 ≤ itz a r k ∧ itz a r k ≤ 100 := by
  unfold itz
  split
  · exact hI.p (by omega) (by omega)
  · exact hI.p (by omega) (by omega)
theorem duz_rng {a : Int → Int} (hI : Inv a) {r k : Int} (hr : 0 ≤ r ∧ r < 16) (hk : 0 ≤ k ∧ k ≤ 48) : 0 ≤ duz a r k ∧ duz a r k ≤ 100 := by
  unfold duz
  split
  · exact cshz_rng hI hr
  · exact shr_100 hI hr (by omega)
theorem dis_dif (a : Int → Int) (r : Int) : 0 < disz a r ↔ 0 < difz a r := by
  rw [← farS_49, ← difS_49]
  have h01 : ∀ k, 0 ≤ (if itz a r k = duz a r k then (0 : Int) else 1) := fun k => by split <;> omega
  have hab : ∀ k, 0 ≤ absz (itz a r k - duz a r k) := fun k => by unfold absz; split <;> omega
  constructor
  · intro h
    rcases Int.lt_or_le 0 (difS a r 49) with g | g
    · exact g
    · exfalso
      have h0 : farS a r 49 = 0 := sz_zero (fun k g1 g2 => by
        have h1 : (if itz a r k = duz a r k then (0 : Int) else 1) ≤ difS a r 49 := sz_mem (f := fun k => if itz a r k = duz a r k then (0 : Int) else 1) (fun j _ _ => h01 j) g1 g2
        by_cases hc : itz a r k = duz a r k
        · rw [hc, Int.sub_self]; rfl
        · rw [if_neg hc] at h1; omega)
      omega
  · intro h
    rcases Int.lt_or_le 0 (farS a r 49) with g | g
    · exact g
    · exfalso
      have h0 : difS a r 49 = 0 := sz_zero (fun k g1 g2 => by
        have h1 : absz (itz a r k - duz a r k) ≤ farS a r 49 := sz_mem (f := fun k => absz (itz a r k - duz a r k)) (fun j _ _ => hab j) g1 g2
        refine if_pos ?_
        unfold absz at h1
        split at h1 <;> omega)
      omega
theorem obsz_o (a : Int → Int) (r : Int) : obsz a r = if allz a r = 0 then 1 else if difz a r = 0 then 2 else if 0 < scrz a r ∧ a 26178 < a (26160 + r) + scrz a r then 3 else 0 := rfl
theorem allz_o (a : Int → Int) (r : Int) : allz a r = a (25344 + r) + a (25360 + r) := rfl
/-- behind an engraving -/
theorem eng_law {a : Int → Int} (hI : Inv a) {r n : Int} (hr : 0 ≤ r ∧ r < 16) (hall : allz a r ≠ 0) : disz (cutA a r (shr a r) n) r = 0 ∧ cutA a r (shr a r) n (26160 + r) = a (26160 + r) + n ∧ cutA a r (shr a r) n 26179 = a 26179 + 1 ∧ obsz (cutA a r (shr a r) n) r = 2 := by
  have hat := cutA_at (a := a) (shr a r) (n := n) hr
  have hL : Low a (cutA a r (shr a r) n) := ⟨fun j h1 h2 => by rw [hat, if_neg (by omega), if_neg (by omega), if_neg (by omega), if_neg (by omega)], by rw [hat, if_neg (by omega), if_neg (by omega), if_neg (by omega), if_neg (by omega)], by rw [hat, if_neg (by omega), if_neg (by omega), if_neg (by omega), if_neg (by omega)]⟩
  have e1 : ∀ k, 0 ≤ k → k < 49 → itz (cutA a r (shr a r) n) r k = duz (cutA a r (shr a r) n) r k := by
    intro k h1 h2
    by_cases hk : k = 48
    · rw [hk, itz_48, duz_48, cshz_congr hL hr, hat, if_neg (by omega), if_neg (by omega), if_pos rfl]
    · rw [itz_k _ _ (by omega), duz_k _ _ (by omega), shr_congr hL hI hr ⟨h1, by omega⟩, hat, if_neg (by omega), if_neg (by omega), if_neg (by omega), if_pos (by omega)]
      exact congrArg _ (by omega)
  have h0 : disz (cutA a r (shr a r) n) r = 0 := by
    rw [← farS_49]
    exact sz_zero (fun k h1 h2 => by rw [e1 k h1 h2, Int.sub_self]; rfl)
  have h3 : difz (cutA a r (shr a r) n) r = 0 := by
    rw [← difS_49]
    exact sz_zero (fun k h1 h2 => if_pos (e1 k h1 h2))
  have h4 : allz (cutA a r (shr a r) n) r = allz a r := by
    unfold allz
    rw [hL.1 _ (by omega) (by omega), hL.1 _ (by omega) (by omega)]
  refine ⟨h0, ?_, ?_, ?_⟩
  · rw [hat, if_neg (by omega), if_pos rfl]
  · rw [hat, if_pos rfl]
  · rw [obsz_o, h4, if_neg hall, if_pos h3]
theorem mxz_0 {f : Int → Int} : ∀ n : Nat, (∀ j : Int, 0 ≤ j → j < n → f j = 0) → mxz f n = 0
  | 0, _ => rfl
  | n + 1, h => by
    rw [mxz, mxz_0 n (fun j h1 h2 => h j h1 (by omega)), h n (by omega) (by omega)]
    exact if_neg (Int.lt_irrefl 0)
theorem ren_law {a : Int → Int} {r : Int} (hr : 0 ≤ r ∧ r < 16) : newA a r (26160 + r) = 0 ∧ newA a r (26144 + r) = 0 ∧ longz (newA a r) r = 0 ∧ newA a r 26180 = a 26180 + 1 := by
  have hat := newA_at (a := a) hr
  refine ⟨?_, ?_, mxz_0 48 (fun j h1 h2 => ?_), ?_⟩
  · rw [hat, if_neg (by omega), if_pos (Or.inl rfl)]
  · rw [hat, if_neg (by omega), if_pos (Or.inr (Or.inl rfl))]
  · show newA a r (25376 + r * 48 + j) = 0
    rw [hat, if_neg (by omega), if_pos (Or.inr (Or.inr (by omega)))]
  · rw [hat, if_pos rfl]
theorem cut0_long {a : Int → Int} (hI : Inv a) {r : Int} (h : cutz a r = 0) : longz a r = 0 := mxz_0 48 (fun j h1 h2 => by
  have h3 : (if 0 < a (25376 + r * 48 + j) then (1 : Int) else 0) ≤ cutz a r := sz_mem (f := fun p => if 0 < a (25376 + r * 48 + p) then (1 : Int) else 0) (fun j _ _ => by show (0 : Int) ≤ (if 0 < a (25376 + r * 48 + j) then 1 else 0); split <;> omega) h1 (by omega)
  have h4 := hI.1 (25376 + r * 48 + j)
  show a (25376 + r * 48 + j) = 0
  by_cases hc : 0 < a (25376 + r * 48 + j)
  · rw [if_pos hc] at h3; omega
  · omega)
/-! ### logs -/
theorem phz_0 (a : Int → Int) (r d : Int) : phz a r d 0 = hbz a r d 1 (a 26176) := by
  unfold phz; rw [if_pos rfl, if_neg (by omega)]; rfl
theorem phz_1 (a : Int → Int) (r d : Int) : phz a r d 1 = hbz a r d (a 26176) (a 26177) := by
  unfold phz; rw [if_neg (by omega), if_neg (by omega)]; rfl
theorem phz_2 (a : Int → Int) (r d : Int) : phz a r d 2 = hbz a r d (a 26177) 100 := by
  unfold phz; rw [if_neg (by omega), if_pos rfl]; rfl
theorem addW_at {a : Int → Int} {r d v h : Int} (hr : 0 ≤ r ∧ r < 16) (hd : 0 ≤ d ∧ d < 16) (hv : 1 ≤ v ∧ v ≤ 99) (j : Int) : addW a r d v h j = if j = 25344 + r then a (25344 + r) + h else if j = r * 1584 + d * 99 + v - 1 then a (r * 1584 + d * 99 + v - 1) + h else a j := by
  by_cases hj : j = 25344 + r
  · rw [if_pos hj, hj, (addW_w (a := a) (h := h) hr hd hv).1]
  · rw [if_neg hj]
    unfold addW
    rw [upz_ne _ _ _ hj]
    rfl
theorem phz_add {a : Int → Int} (hI : Inv a) {r d v h : Int} (hr : 0 ≤ r ∧ r < 16) (hd : 0 ≤ d ∧ d < 16) (hv : 1 ≤ v ∧ v ≤ 99) : phz (addW a r d v h) r d (if v < a 26176 then 0 else if v < a 26177 then 1 else 2) = phz a r d (if v < a 26176 then 0 else if v < a 26177 then 1 else 2) + h := by
  have hs := hI.s
  have hat := addW_at (a := a) (h := h) hr hd hv
  have key : ∀ f e, 1 ≤ f → f ≤ v → v < e → e ≤ 100 → hbz (addW a r d v h) r d f e = hbz a r d f e + h := by
    intro f e h1 h2 h3 h4
    have e1 : hbz (addW a r d v h) r d f e = sz (upz (fun s => a (r * 1584 + d * 99 + s - 1)) v (a (r * 1584 + d * 99 + v - 1) + h)) f e := sz_congr (fun s g1 g2 => by
      show addW a r d v h (r * 1584 + d * 99 + s - 1) = if s = v then a (r * 1584 + d * 99 + v - 1) + h else a (r * 1584 + d * 99 + s - 1)
      rw [hat, if_neg (by omega)]
      by_cases hs2 : s = v
      · rw [if_pos hs2, if_pos (by omega)]
      · rw [if_neg hs2, if_neg (by omega)])
    have e2 : sz (upz (fun s => a (r * 1584 + d * 99 + s - 1)) v (a (r * 1584 + d * 99 + v - 1) + h)) f e = hbz a r d f e + (a (r * 1584 + d * 99 + v - 1) + h) - a (r * 1584 + d * 99 + v - 1) := sz_upz_in _ h2 h3
    rw [e1, e2]
    omega
  have p0 : addW a r d v h 26176 = a 26176 := by rw [hat, if_neg (by omega), if_neg (by omega)]
  have p1 : addW a r d v h 26177 = a 26177 := by rw [hat, if_neg (by omega), if_neg (by omega)]
  by_cases c0 : v < a 26176
  · rw [if_pos c0, phz_0, phz_0, p0]
    exact key _ _ (by omega) (by omega) c0 (by omega)
  · by_cases c1 : v < a 26177
    · rw [if_neg c0, if_pos c1, phz_1, phz_1, p0, p1]
      exact key _ _ (by omega) (by omega) c1 (by omega)
    · rw [if_neg c0, if_neg c1, phz_2, phz_2, p1]
      exact key _ _ (by omega) (by omega) (by omega) (by omega)
theorem turnI_out (a : Int → Int) {r b j : Int} (h : ¬ (r * 1584 ≤ j ∧ j < r * 1584 + 1584)) : turnI a r b 16 j = a j := if_neg (fun z => h z.1)
theorem phz_turn {a : Int → Int} (hI : Inv a) {r b d k : Int} (hr : 0 ≤ r ∧ r < 16) (hb : 0 ≤ b ∧ b < 16) (hd : 0 ≤ d ∧ d < 16) (hk : 0 ≤ k ∧ k ≤ 2) : phz (turnI a r b 16) r ((d + b) % 16) k = phz a r d k := by
  have hs := hI.s
  have key : ∀ f e, 1 ≤ f → e ≤ 100 → hbz (turnI a r b 16) r ((d + b) % 16) f e = hbz a r d f e := fun f e h1 h2 => sz_congr (fun s g1 g2 => by
    show turnI a r b 16 (r * 1584 + (d + b) % 16 * 99 + s - 1) = a (r * 1584 + d * 99 + s - 1)
    have hD : 0 ≤ (d + b) % 16 ∧ (d + b) % 16 < 16 := by omega
    have hd2 : ((d + b) % 16 - b) % 16 = d := by omega
    generalize (d + b) % 16 = D at hD hd2
    have e1 : (r * 1584 + D * 99 + s - 1 - r * 1584) / 99 = D := by omega
    have e2 : (r * 1584 + D * 99 + s - 1 - r * 1584) % 99 = s - 1 := by omega
    unfold turnI
    rw [e1, e2, hd2, if_pos ⟨by omega, by omega⟩]
    exact congrArg a (by omega))
  have p0 : turnI a r b 16 26176 = a 26176 := turnI_out a (by omega)
  have p1 : turnI a r b 16 26177 = a 26177 := turnI_out a (by omega)
  rcases (show k = 0 ∨ k = 1 ∨ k = 2 by omega) with rfl | rfl | rfl
  · rw [phz_0, phz_0, p0]; exact key _ _ (by omega) (by omega)
  · rw [phz_1, phz_1, p0, p1]; exact key _ _ (by omega) (by omega)
  · rw [phz_2, phz_2, p1]; exact key _ _ (by omega) (by omega)
theorem spz_turn {a : Int → Int} {r b s : Int} (hb : 0 ≤ b ∧ b < 16) (hs : 1 ≤ s ∧ s ≤ 99) : spz (turnI a r b 16) r s = spz a r s := by
  have h := sz_rot (fun d => a (r * 1584 + d * 99 + s - 1)) (b := b) ⟨hb.1, by omega⟩
  refine Eq.trans (sz_congr (fun d h1 h2 => ?_)) h
  show turnI a r b 16 (r * 1584 + d * 99 + s - 1) = a (r * 1584 + (d - b) % 16 * 99 + s - 1)
  have e1 : (r * 1584 + d * 99 + s - 1 - r * 1584) / 99 = d := by omega
  have e2 : (r * 1584 + d * 99 + s - 1 - r * 1584) % 99 = s - 1 := by omega
  unfold turnI
  rw [e1, e2, if_pos ⟨by omega, by omega⟩]
  exact congrArg a (by omega)
theorem turn_law {a : Int → Int} (hI : Inv a) {r b : Int} (hr : 0 ≤ r ∧ r < 16) (hb : 0 ≤ b ∧ b < 16) : turnI a r b 16 (25344 + r) = a (25344 + r) ∧ meanz (turnI a r b 16) r = meanz a r := by
  have h1 : turnI a r b 16 (25344 + r) = a (25344 + r) := turnI_out a (by omega)
  have h2 : wsum (turnI a r b 16) r 100 = wsum a r 100 := sz_congr (fun s g1 g2 => by rw [spz_turn hb ⟨g1, by omega⟩])
  refine ⟨h1, ?_⟩
  unfold meanz
  rw [h1, h2]
/-! ### what holds between the law's steps -/
def PI (N : Int) (a : Int → Int) (o s : Int) : Prop := Inv a ∧ (∀ r, 0 ≤ r → r < 16 → a (26160 + r) ≤ 9) ∧ (a 26179 ≤ N ∧ a 26180 ≤ N) ∧ (0 ≤ o ∧ o < 4) ∧ (0 ≤ s ∧ s ≤ 4)
theorem ring_ok {o s : Int} (ho : 0 ≤ o ∧ o < 4) (hs : 0 ≤ s ∧ s ≤ 4) : (0 ≤ oN o s ∧ oN o s < 4) ∧ (0 ≤ sN s ∧ sN s ≤ 4) := by
  unfold oN sN
  constructor
  · split <;> omega
  · split <;> omega
theorem PI.up {N M : Int} {a : Int → Int} {o s : Int} (h : PI N a o s) (hm : N ≤ M) : PI M a o s := ⟨h.1, h.2.1, ⟨by have := h.2.2.1.1; omega, by have := h.2.2.1.2; omega⟩, h.2.2.2⟩
theorem PI.low {N : Int} {a b : Int → Int} {o s : Int} (h : PI N a o s) (hI : Inv b) (h1 : ∀ r, 0 ≤ r → r < 16 → b (26160 + r) = a (26160 + r)) (h2 : b 26179 = a 26179) (h3 : b 26180 = a 26180) : PI N b (oN o s) (sN s) :=
  ⟨hI, fun r g1 g2 => by rw [h1 r g1 g2]; exact h.2.1 r g1 g2, by rw [h2, h3]; exact h.2.2.1, ring_ok h.2.2.2.1 h.2.2.2.2⟩
theorem PI.aW {N : Int} {a : Int → Int} {o s : Int} (h : PI N a o s) {r d v x : Int} (hr : 0 ≤ r ∧ r < 16) (hd : 0 ≤ d ∧ d < 16) (hv : 1 ≤ v ∧ v ≤ 99) (hI : Inv (addW a r d v x)) : PI N (addW a r d v x) (oN o s) (sN s) := by
  have hat := addW_at (a := a) (h := x) hr hd hv
  exact h.low hI (fun r' g1 g2 => by rw [hat, if_neg (by omega), if_neg (by omega)]) (by rw [hat, if_neg (by omega), if_neg (by omega)]) (by rw [hat, if_neg (by omega), if_neg (by omega)])
theorem PI.cut {N : Int} {a : Int → Int} {o s : Int} (h : PI N a o s) {p q : Int} (h0 : 0 ≤ rEng a p q) : PI (N + 1) (cutA a (p * 4 + q) (shr a (p * 4 + q)) (scrz a (p * 4 + q))) (oN o s) (sN s) := by
  have e : rEng a p q = if ¬ ((0 ≤ p ∧ p ≤ 3) ∧ (0 ≤ q ∧ q ≤ 3)) then -1 else if obsz a (p * 4 + q) = 1 ∨ obsz a (p * 4 + q) = 3 then -4 else if obsz a (p * 4 + q) = 2 then -5 else difz a (p * 4 + q) := rfl
  have hr : 0 ≤ p * 4 + q ∧ p * 4 + q < 16 := by omega
  have hob : 0 ≤ obsz a (p * 4 + q) ∧ obsz a (p * 4 + q) ≤ 3 := by unfold obsz; omega
  have ho : obsz a (p * 4 + q) = 0 := by omega
  have eo := obsz_o a (p * 4 + q)
  have hsc := scrz_rng (a := a) (p * 4 + q)
  have hs := h.1.2.2.1
  have h9 := h.2.1 _ hr.1 hr.2
  have hc := h.2.2.1
  have hat := cutA_at (a := a) (shr a (p * 4 + q)) (n := scrz a (p * 4 + q)) hr
  refine ⟨h.1.cut h0, fun r' g1 g2 => ?_, ⟨?_, ?_⟩, ring_ok h.2.2.2.1 h.2.2.2.2⟩
  · rw [hat, if_neg (by omega)]
    have h10 := h.2.1 r' g1 g2
    by_cases hr' : r' = p * 4 + q
    · rw [if_pos (by omega)]; omega
    · rw [if_neg (by omega), if_neg (by omega), if_neg (by omega)]; exact h10
  · rw [hat, if_pos rfl]; omega
  · rw [hat, if_neg (by omega), if_neg (by omega), if_neg (by omega), if_neg (by omega)]; omega
theorem PI.new {N : Int} {a : Int → Int} {o s : Int} (h : PI N a o s) {r : Int} (hr : 0 ≤ r ∧ r < 16) : PI (N + 1) (newA a r) (oN o s) (sN s) := by
  have hat := newA_at (a := a) hr
  have hc := h.2.2.1
  refine ⟨h.1.new hr, fun r' g1 g2 => ?_, ⟨?_, ?_⟩, ring_ok h.2.2.2.1 h.2.2.2.2⟩
  · rw [hat, if_neg (by omega)]
    have h10 := h.2.1 r' g1 g2
    split <;> omega
  · rw [hat, if_neg (by omega), if_neg (by omega)]; omega
  · rw [hat, if_pos rfl]; omega
theorem PI.start : PI 0 a0z 0 0 := by
  refine ⟨⟨fun j => ?_, fun r h1 h2 => ⟨?_, ?_⟩, ?_, fun j h1 h2 => ?_⟩, fun r h1 h2 => ?_, ⟨?_, ?_⟩, by omega, by omega⟩
  · rw [a0z_at]; omega
  · rw [sz_zero (fun j h3 h4 => by rw [a0z_at]; omega), a0z_at]; omega
  · rw [a0z_at, a0z_at]; omega
  · rw [a0z_at, a0z_at, a0z_at]; omega
  · rw [a0z_at]; omega
  · rw [a0z_at]; omega
  · rw [a0z_at]; omega
  · rw [a0z_at]; omega

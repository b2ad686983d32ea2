/-! the state stays sound behind every act -/
theorem wdv_c {t : Int → Int} {n p : Int} (h : sgz t n p = 99) : wdv t n p = -1 := if_pos h
theorem Inv.congr {a b : Int → Int} (hI : Inv a) (h : ∀ j, 0 ≤ j → j < 26181 → b j = a j) (h0 : ∀ j, 0 ≤ b j) : Inv b := by
  refine hI.upd (fun j h1 h2 => h j h1 (by omega)) h0 ?_ (fun j h1 h2 => ?_)
  · rw [h _ (by omega) (by omega), h _ (by omega) (by omega), h _ (by omega) (by omega)]
    exact hI.2.2.1
  · rw [h j (by omega) (by omega)]
    exact hI.2.2.2 j h1 h2
theorem Inv.nn {a : Int → Int} (hI : Inv a) : ∀ j, 0 ≤ a j := hI.1
theorem Inv.u1 {a : Int → Int} (hI : Inv a) {k v : Int} (hk : 25376 ≤ k ∧ (k < 26176 ∨ 26178 < k)) (hv : 0 ≤ v ∧ (k < 26176 → v ≤ 100)) : Inv (upz a k v) := by
  refine hI.upd (fun j h1 h2 => upz_ne _ _ _ (by omega)) (fun j => ?_) ?_ (fun j h1 h2 => ?_)
  · have := hI.1 j
    unfold upz
    split <;> omega
  · rw [upz_ne _ _ _ (by omega), upz_ne _ _ _ (by omega), upz_ne _ _ _ (by omega)]
    exact hI.2.2.1
  · have := hI.2.2.2 j h1 h2
    unfold upz
    split <;> omega
theorem Inv.set {a : Int → Int} (hI : Inv a) {w v : Int} (h : 0 ≤ rSet a w v) : Inv (upz a (26176 + w) v) := by
  have hs := hI.2.2.1
  have e : rSet a w v = if ¬ (0 ≤ w ∧ w ≤ 2) then -1 else if ¬ ((w = 2 ∧ 0 ≤ v ∧ v ≤ 9) ∨ (w ≠ 2 ∧ 1 ≤ v ∧ v ≤ 99)) then -2 else if (w = 0 ∧ a 26177 ≤ v) ∨ (w = 1 ∧ v ≤ a 26176) then -4 else if a (26176 + w) = v then -5 else a (26176 + w) := rfl
  have hc : (0 ≤ w ∧ w ≤ 2) ∧ ((w = 2 ∧ 0 ≤ v ∧ v ≤ 9) ∨ (w ≠ 2 ∧ 1 ≤ v ∧ v ≤ 99)) ∧ ¬ ((w = 0 ∧ a 26177 ≤ v) ∨ (w = 1 ∧ v ≤ a 26176)) := by omega
  refine hI.upd (fun j h1 h2 => upz_ne _ _ _ (by omega)) (fun j => ?_) ?_ (fun j h1 h2 => ?_)
  · have := hI.1 j
    unfold upz
    split <;> omega
  · rcases (show w = 0 ∨ w = 1 ∨ w = 2 by omega) with rfl | rfl | rfl
    · rw [show (26176 + 0 : Int) = 26176 from rfl, upz_eq, upz_ne _ _ _ (by omega), upz_ne _ _ _ (by omega)]; omega
    · rw [show (26176 + 1 : Int) = 26177 from rfl, upz_eq, upz_ne _ _ _ (by omega), upz_ne _ _ _ (by omega)]; omega
    · rw [show (26176 + 2 : Int) = 26178 from rfl, upz_eq, upz_ne _ _ _ (by omega), upz_ne _ _ _ (by omega)]; omega
  · rw [upz_ne _ _ _ (by omega)]
    exact hI.2.2.2 j h1 h2
theorem sz_99 (f : Int → Int) (n : Nat) : sz f 0 (99 * (n : Int)) = sz (fun d => sz (fun v => f (99 * d + v)) 0 99) 0 n := by
  induction n with
  | zero => rw [show (99 * ((0 : Nat) : Int)) = 0 from rfl, show ((0 : Nat) : Int) = 0 from rfl, sz_self, sz_self]
  | succ n ih =>
    rw [show ((n + 1 : Nat) : Int) = (n : Int) + 1 by omega, sz_succ _ (by omega), ← ih, sz_split _ (show 0 ≤ 99 * (n : Int) by omega) (show 99 * (n : Int) ≤ 99 * ((n : Int) + 1) by omega), sz_shift f (99 * (n : Int)) 0 99, Int.add_zero, show 99 * ((n : Int) + 1) = 99 * (n : Int) + 99 by omega]
theorem sz_rot (f : Int → Int) {b : Int} (hb : 0 ≤ b ∧ b ≤ 16) : sz (fun d => f ((d - b) % 16)) 0 16 = sz f 0 16 := by
  rw [sz_split _ hb.1 hb.2, sz_split f (show 0 ≤ 16 - b by omega) (show 16 - b ≤ 16 by omega)]
  have e1 := sz_shift f (16 - b) 0 b
  have e2 := sz_shift (fun d => f ((d - b) % 16)) b 0 (16 - b)
  rw [Int.add_zero] at e1 e2
  rw [show 16 - b + b = 16 by omega] at e1
  rw [show b + (16 - b) = 16 by omega] at e2
  rw [← e1, ← e2, Int.add_comm]
  congr 1
  · exact sz_congr (fun j h1 h2 => congrArg f (by omega))
  · exact sz_congr (fun j h1 h2 => congrArg f (by omega))
theorem Inv.turn {a : Int → Int} (hI : Inv a) {r b : Int} (hr : 0 ≤ r ∧ r < 16) (hb : 0 ≤ b ∧ b ≤ 16) : Inv (turnI a r b 16) := by
  have hout : ∀ j, ¬ (r * 1584 ≤ j ∧ j < r * 1584 + 1584) → turnI a r b 16 j = a j := fun j h => if_neg (fun z => h z.1)
  refine ⟨fun j => ?_, fun r' h1 h2 => ?_, ?_, fun j h1 h2 => ?_⟩
  · unfold turnI
    split
    · exact hI.1 _
    · exact hI.1 _
  · rw [hout _ (by omega), hout _ (by omega)]
    have h3 := hI.2.1 r' h1 h2
    by_cases hr' : r' = r
    · subst hr'
      refine ⟨?_, h3.2⟩
      rw [h3.1]
      have e1 := sz_shift (turnI a r' b 16) (r' * 1584) 0 1584
      have e2 := sz_shift a (r' * 1584) 0 1584
      rw [Int.add_zero] at e1 e2
      rw [← e1, ← e2]
      have e3 := sz_99 (fun s => turnI a r' b 16 (r' * 1584 + s)) 16
      have e4 := sz_99 (fun s => a (r' * 1584 + s)) 16
      rw [show (99 * ((16 : Nat) : Int)) = 1584 from rfl, show ((16 : Nat) : Int) = 16 from rfl] at e3 e4
      rw [e3, e4, ← sz_rot _ hb]
      refine sz_congr (fun d h4 h5 => sz_congr (fun v h6 h7 => ?_))
      show a _ = turnI a r' b 16 _
      unfold turnI
      have e5 : (r' * 1584 + (99 * d + v) - r' * 1584) / 99 = d := by omega
      have e6 : (r' * 1584 + (99 * d + v) - r' * 1584) % 99 = v := by omega
      rw [e5, e6, if_pos (by omega)]
      exact congrArg a (by omega)
    · rw [sz_congr (g := a) (fun j h4 h5 => hout j (by omega))]
      exact h3
  · rw [hout _ (by omega), hout _ (by omega), hout _ (by omega)]
    exact hI.2.2.1
  · rw [hout _ (by omega)]
    exact hI.2.2.2 j h1 h2
theorem shr_100 {a : Int → Int} (h : Inv a) {r p : Int} (hr : 0 ≤ r ∧ r < 16) (hp : 0 ≤ p ∧ p < 48) : 0 ≤ shr a r p ∧ shr a r p ≤ 100 := by
  have h1 := pthz_rng h hr hp
  have h2 := shq_rng h hr hp
  refine ⟨(shr_rng h hr hp).1, ?_⟩
  unfold shr
  by_cases hc : 0 < srm a r p ∧ pah (srm a r) p < mis a r
  · rw [if_pos hc]
    have h3 := hc.1
    by_cases hw : 0 < a (25344 + r)
    · have e1 : shq a r p = 100 * pthz a r p / a (25344 + r) := if_pos hw
      have e2 : srm a r p = 100 * pthz a r p % a (25344 + r) := if_pos hw
      have e3 := Int.mul_ediv_add_emod (100 * pthz a r p) (a (25344 + r))
      rw [← e1, ← e2] at e3
      rcases Int.lt_or_le (shq a r p) 100 with g | g
      · omega
      · exfalso
        have e4 : shq a r p = 100 := by omega
        rw [e4] at e3
        omega
    · have : srm a r p = 0 := if_neg hw
      omega
  · rw [if_neg hc]; omega
theorem hbz_congr {a b : Int → Int} (h : ∀ j, 0 ≤ j → j < 25344 → b j = a j) {r d f e : Int} (hr : 0 ≤ r ∧ r < 16) (hd : 0 ≤ d ∧ d < 16) (hf : 1 ≤ f) (he : e ≤ 100) : hbz b r d f e = hbz a r d f e := sz_congr (fun j h1 h2 => h _ (by omega) (by omega))
/-- what the shares are found of -/
def Low (a b : Int → Int) : Prop := (∀ j, 0 ≤ j → j < 25376 → b j = a j) ∧ b 26176 = a 26176 ∧ b 26177 = a 26177
theorem pthz_congr {a b : Int → Int} (h : Low a b) (hI : Inv a) {r p : Int} (hr : 0 ≤ r ∧ r < 16) (hp : 0 ≤ p ∧ p < 48) : pthz b r p = pthz a r p := by
  have hs := hI.s
  unfold pthz phz
  rcases (show p % 3 = 0 ∨ p % 3 = 1 ∨ p % 3 = 2 by omega) with g | g | g
  · rw [g, if_pos rfl, if_pos rfl, if_neg (by omega), if_neg (by omega), show (26176 + 0 : Int) = 26176 from rfl, h.2.1]
    exact hbz_congr (fun j h1 h2 => h.1 j h1 (by omega)) hr (by omega) (by omega) (by omega)
  · rw [g, if_neg (by omega), if_neg (by omega), if_neg (by omega), if_neg (by omega), show (26176 + (1 - 1) : Int) = 26176 from rfl, show (26176 + 1 : Int) = 26177 from rfl, h.2.1, h.2.2]
    exact hbz_congr (fun j h1 h2 => h.1 j h1 (by omega)) hr (by omega) (by omega) (by omega)
  · rw [g, if_neg (show ¬ (2 : Int) = 0 by omega), if_pos rfl, if_neg (show ¬ (2 : Int) = 0 by omega), if_pos rfl, show (26176 + (2 - 1) : Int) = 26177 from rfl, h.2.2]
    exact hbz_congr (fun j h1 h2 => h.1 j h1 (by omega)) hr (by omega) (by omega) (by omega)
theorem shr_congr {a b : Int → Int} (h : Low a b) (hI : Inv a) {r p : Int} (hr : 0 ≤ r ∧ r < 16) (hp : 0 ≤ p ∧ p < 48) : shr b r p = shr a r p := by
  have e0 : b (25344 + r) = a (25344 + r) := h.1 _ (by omega) (by omega)
  have e1 : ∀ q, 0 ≤ q → q < 48 → shq b r q = shq a r q := fun q h1 h2 => by
    unfold shq; rw [pthz_congr h hI hr ⟨h1, h2⟩, e0]
  have e2 : ∀ q, 0 ≤ q → q < 48 → srm b r q = srm a r q := fun q h1 h2 => by
    unfold srm; rw [pthz_congr h hI hr ⟨h1, h2⟩, e0]
  have e3 : mis b r = mis a r := by
    unfold mis; rw [e0, sz_congr e1]
  have e4 : pah (srm b r) p = pah (srm a r) p := sz_congr (fun q h1 h2 => by rw [e2 q h1 h2, e2 p hp.1 hp.2])
  unfold shr
  rw [e1 p hp.1 hp.2, e2 p hp.1 hp.2, e3, e4]
theorem cshz_congr {a b : Int → Int} (h : Low a b) {r : Int} (hr : 0 ≤ r ∧ r < 16) : cshz b r = cshz a r := by
  unfold cshz allz
  rw [h.1 _ (by omega) (by omega), h.1 _ (by omega) (by omega)]
theorem Low.up {a b : Int → Int} (h : Low a b) {k v : Int} (hk : 25376 ≤ k ∧ k < 26176) : Low a (upz b k v) :=
  ⟨fun j h1 h2 => by rw [upz_ne _ _ _ (by omega)]; exact h.1 j h1 h2, by rw [upz_ne _ _ _ (by omega)]; exact h.2.1, by rw [upz_ne _ _ _ (by omega)]; exact h.2.2⟩
theorem Low.rfl {a : Int → Int} : Low a a := ⟨fun _ _ _ => Eq.refl _, Eq.refl _, Eq.refl _⟩
theorem cutA_at {a : Int → Int} (f : Int → Int) {r n : Int} (hr : 0 ≤ r ∧ r < 16) (j : Int) : cutA a r f n j = if j = 26179 then a 26179 + 1 else if j = 26160 + r then a (26160 + r) + n else if j = 26144 + r then cshz a r else if 25376 + r * 48 ≤ j ∧ j < 25376 + r * 48 + 48 then f (j - (25376 + r * 48)) else a j := by
  have e0 : ∀ j, ¬ (25376 + r * 48 ≤ j ∧ j < 25376 + r * 48 + 48) → cpz f a 0 (25376 + r * 48) 48 j = a j := fun j h => if_neg h
  have e1 : cshz (cpz f a 0 (25376 + r * 48) 48) r = cshz a r := by
    unfold cshz allz
    rw [e0 _ (by omega), e0 _ (by omega)]
  unfold cutA
  simp only [e1]
  by_cases h1 : j = 26179
  · rw [if_pos h1, h1, upz_eq, upz_ne _ _ _ (by omega), upz_ne _ _ _ (by omega), e0 _ (by omega)]
  · rw [if_neg h1, upz_ne _ _ _ h1]
    by_cases h2 : j = 26160 + r
    · rw [if_pos h2, h2, upz_eq, upz_ne _ _ _ (by omega), e0 _ (by omega)]
    · rw [if_neg h2, upz_ne _ _ _ h2]
      by_cases h3 : j = 26144 + r
      · rw [if_pos h3, h3, upz_eq]
      · rw [if_neg h3, upz_ne _ _ _ h3]
        unfold cpz
        by_cases h4 : 25376 + r * 48 ≤ j ∧ j < 25376 + r * 48 + 48
        · rw [if_pos h4, if_pos h4, Int.zero_add]
        · rw [if_neg h4, if_neg h4]
theorem newA_at {a : Int → Int} {r : Int} (hr : 0 ≤ r ∧ r < 16) (j : Int) : newA a r j = if j = 26180 then a 26180 + 1 else if j = 26160 + r ∨ j = 26144 + r ∨ (25376 + r * 48 ≤ j ∧ j < 25376 + r * 48 + 48) then 0 else a j := by
  have e0 : ∀ j, ¬ (25376 + r * 48 ≤ j ∧ j < 25376 + r * 48 + 48) → zeroI a r 48 j = a j := fun j h => if_neg h
  unfold newA
  by_cases h1 : j = 26180
  · rw [if_pos h1, h1, upz_eq, upz_ne _ _ _ (by omega), upz_ne _ _ _ (by omega), e0 _ (by omega)]
  · rw [if_neg h1, upz_ne _ _ _ h1]
    by_cases h2 : j = 26160 + r
    · rw [if_pos (Or.inl h2), h2, upz_eq]
    · rw [upz_ne _ _ _ h2]
      by_cases h3 : j = 26144 + r
      · rw [if_pos (Or.inr (Or.inl h3)), h3, upz_eq]
      · rw [upz_ne _ _ _ h3]
        unfold zeroI
        by_cases h4 : 25376 + r * 48 ≤ j ∧ j < 25376 + r * 48 + 48
        · rw [if_pos h4, if_pos (Or.inr (Or.inr h4))]
        · rw [if_neg h4, if_neg (by omega)]
theorem Inv.cut {a : Int → Int} (hI : Inv a) {p q : Int} (h : 0 ≤ rEng a p q) : Inv (cutA a (p * 4 + q) (shr a (p * 4 + q)) (scrz a (p * 4 + q))) := by
  have e : rEng a p q = if ¬ ((0 ≤ p ∧ p ≤ 3) ∧ (0 ≤ q ∧ q ≤ 3)) then -1 else if obsz a (p * 4 + q) = 1 ∨ obsz a (p * 4 + q) = 3 then -4 else if obsz a (p * 4 + q) = 2 then -5 else difz a (p * 4 + q) := rfl
  have hr : 0 ≤ p * 4 + q ∧ p * 4 + q < 16 := by omega
  have hob : 0 ≤ obsz a (p * 4 + q) ∧ obsz a (p * 4 + q) ≤ 3 := by unfold obsz; omega
  have ho : obsz a (p * 4 + q) = 0 := by omega
  have eo : obsz a (p * 4 + q) = if allz a (p * 4 + q) = 0 then 1 else if difz a (p * 4 + q) = 0 then 2 else if 0 < scrz a (p * 4 + q) ∧ a 26178 < a (26160 + (p * 4 + q)) + scrz a (p * 4 + q) then 3 else 0 := rfl
  have hsc := scrz_rng (a := a) (p * 4 + q)
  have hs := hI.2.2.1
  have hcs := cshz_rng hI hr
  have h5 := hI.p (j := 26160 + (p * 4 + q)) (by omega) (by omega)
  have hat := cutA_at (a := a) (shr a (p * 4 + q)) (n := scrz a (p * 4 + q)) hr
  refine hI.upd (fun j h1 h2 => ?_) (fun j => ?_) ?_ (fun j h1 h2 => ?_)
  · rw [hat, if_neg (by omega), if_neg (by omega), if_neg (by omega), if_neg (by omega)]
  · rw [hat]
    have h7 := hI.1 j
    have h8 := hI.1 26179
    split
    · omega
    · split
      · omega
      · split
        · omega
        · split
          · exact (shr_100 hI hr (by omega)).1
          · exact h7
  · rw [hat, hat, hat, if_neg (by omega), if_neg (by omega), if_neg (by omega), if_neg (by omega), if_neg (by omega), if_neg (by omega), if_neg (by omega), if_neg (by omega), if_neg (by omega), if_neg (by omega), if_neg (by omega), if_neg (by omega)]
    exact hs
  · rw [hat, if_neg (by omega)]
    have h7 := hI.2.2.2 j h1 h2
    split
    · omega
    · split
      · omega
      · split
        · exact (shr_100 hI hr (by omega)).2
        · exact h7
theorem Inv.new {a : Int → Int} (hI : Inv a) {r : Int} (hr : 0 ≤ r ∧ r < 16) : Inv (newA a r) := by
  have hat := newA_at (a := a) hr
  refine hI.upd (fun j h1 h2 => ?_) (fun j => ?_) ?_ (fun j h1 h2 => ?_)
  · rw [hat, if_neg (by omega), if_neg (by omega)]
  · rw [hat]
    have h7 := hI.1 j
    have h8 := hI.1 26180
    split
    · omega
    · split
      · omega
      · exact h7
  · rw [hat, hat, hat, if_neg (by omega), if_neg (by omega), if_neg (by omega), if_neg (by omega), if_neg (by omega), if_neg (by omega)]
    exact hI.2.2.1
  · rw [hat, if_neg (by omega)]
    have h7 := hI.2.2.2 j h1 h2
    split
    · omega
    · exact h7
theorem Rel.congr {a b sv : Int → Int} (hR : Rel a sv) (h : ∀ j, 0 ≤ j → j < 26181 → ¬ (25344 ≤ j ∧ j < 25360) → b j = a j) : Rel b sv := by
  intro q h1 h2
  rw [hR q h1 h2]
  unfold pkd
  by_cases h3 : q < 6336
  · rw [if_pos h3, if_pos h3, h _ (by omega) (by omega) (by omega), h _ (by omega) (by omega) (by omega), h _ (by omega) (by omega) (by omega), h _ (by omega) (by omega) (by omega)]
  · rw [if_neg h3, if_neg h3, h _ (by omega) (by omega) (by omega)]
theorem Rel.svc {a sv sw : Int → Int} (hR : Rel a sv) (h : ∀ q, 0 ≤ q → q < 7157 → sw q = sv q) : Rel a sw := fun q h1 h2 => by rw [h q h1 h2]; exact hR q h1 h2
theorem Rel.addW {a sv : Int → Int} {r d v h : Int} (hr : 0 ≤ r ∧ r < 16) (hR : Rel (upz a (r * 1584 + d * 99 + v - 1) (a (r * 1584 + d * 99 + v - 1) + h)) sv) : Rel (addW a r d v h) sv := hR.wnd hr
/-- the model's state behind an engraving as far as i petals -/
def engB (a : Int → Int) (r i : Int) : Int → Int := fun j => if j = 26160 + r then a (26160 + r) + scrz a r else if j = 26144 + r then cshz a r else if 25376 + r * 48 ≤ j ∧ j < 25376 + r * 48 + i then shr a r (j - (25376 + r * 48)) else a j
def renB (a : Int → Int) (r i : Int) : Int → Int := fun j => if j = 26160 + r then 0 else if j = 26144 + r then 0 else if 25376 + r * 48 ≤ j ∧ j < 25376 + r * 48 + i then 0 else a j
theorem Rel.eng {a sv : Int → Int} {r i : Int} (hr : 0 ≤ r ∧ r < 16) (hi : 0 ≤ i ∧ i < 48) (hR : Rel (engB a r i) sv) : Rel (engB a r (i + 1)) (upz sv (6352 + 48 * r + i) (shr a r i)) := by
  refine (hR.put (by omega)).congr (fun j h1 h2 _ => ?_)
  simp only [engB, upz]
  by_cases hj : j = 6352 + 48 * r + i + 19024
  · rw [if_pos hj, if_neg (by omega), if_neg (by omega), if_pos (by omega)]
    exact congrArg (shr a r) (by omega)
  · rw [if_neg hj]
    split
    · rfl
    · split
      · rfl
      · by_cases h5 : 25376 + r * 48 ≤ j ∧ j < 25376 + r * 48 + i
        · rw [if_pos h5, if_pos (by omega)]
        · rw [if_neg h5, if_neg (by omega)]
theorem Rel.ren {a sv : Int → Int} {r i : Int} (hr : 0 ≤ r ∧ r < 16) (hi : 0 ≤ i ∧ i < 48) (hR : Rel (renB a r i) sv) : Rel (renB a r (i + 1)) (upz sv (6352 + 48 * r + i) 0) := by
  refine (hR.put (by omega)).congr (fun j h1 h2 _ => ?_)
  simp only [renB, upz]
  by_cases hj : j = 6352 + 48 * r + i + 19024
  · rw [if_pos hj, if_neg (by omega), if_neg (by omega), if_pos (by omega)]
  · rw [if_neg hj]
    split
    · rfl
    · split
      · rfl
      · by_cases h5 : 25376 + r * 48 ≤ j ∧ j < 25376 + r * 48 + i
        · rw [if_pos h5, if_pos (by omega)]
        · rw [if_neg h5, if_neg (by omega)]
theorem Rel.engE {a sv : Int → Int} {r : Int} (hr : 0 ≤ r ∧ r < 16) (hR : Rel (engB a r 48) sv) : Rel (cutA a r (shr a r) (scrz a r)) (upz sv 7155 (sv 7155 + 1)) := by
  have e0 : sv 7155 = a 26179 := by
    rw [hR.at (by omega)]
    unfold engB
    rw [if_neg (by omega), if_neg (by omega), if_neg (by omega)]
    rfl
  refine (hR.put (k := 7155) (v := sv 7155 + 1) (by omega)).congr (fun j h1 h2 _ => ?_)
  rw [cutA_at _ hr, e0]
  simp only [upz, engB]
  by_cases hj : j = 26179
  · rw [if_pos hj, if_pos (by omega)]
  · rw [if_neg hj, if_neg (show ¬ j = 7155 + 19024 by omega)]
theorem Rel.renE {a sv : Int → Int} {r : Int} (hr : 0 ≤ r ∧ r < 16) (hR : Rel (renB a r 48) sv) : Rel (newA a r) (upz sv 7156 (sv 7156 + 1)) := by
  have e0 : sv 7156 = a 26180 := by
    rw [hR.at (by omega)]
    unfold renB
    rw [if_neg (by omega), if_neg (by omega), if_neg (by omega)]
    rfl
  refine (hR.put (k := 7156) (v := sv 7156 + 1) (by omega)).congr (fun j h1 h2 _ => ?_)
  rw [newA_at hr, e0]
  simp only [upz, renB]
  by_cases hj : j = 26180
  · rw [if_pos hj, if_pos (by omega)]
  · rw [if_neg hj, if_neg (show ¬ j = 7156 + 19024 by omega)]
    omega
theorem Rel.eng0 {a sv : Int → Int} {r : Int} (hr : 0 ≤ r ∧ r < 16) (hR : Rel a sv) : Rel (engB a r 0) (upz (upz sv (7136 + r) (a (26160 + r) + scrz a r)) (7120 + r) (cshz a r)) := by
  refine ((hR.put (k := 7136 + r) (v := a (26160 + r) + scrz a r) (by omega)).put (k := 7120 + r) (v := cshz a r) (by omega)).congr (fun j h1 h2 _ => ?_)
  simp only [upz, engB]
  by_cases h3 : j = 26160 + r
  · rw [if_pos h3, if_neg (by omega), if_pos (by omega)]
  · rw [if_neg h3]
    by_cases h4 : j = 26144 + r
    · rw [if_pos h4, if_pos (by omega)]
    · rw [if_neg h4, if_neg (by omega), if_neg (by omega), if_neg (by omega)]
theorem Rel.ren0 {a sv : Int → Int} {r : Int} (hr : 0 ≤ r ∧ r < 16) (hR : Rel a sv) : Rel (renB a r 0) (upz (upz sv (7136 + r) 0) (7120 + r) 0) := by
  refine ((hR.put (k := 7136 + r) (v := 0) (by omega)).put (k := 7120 + r) (v := 0) (by omega)).congr (fun j h1 h2 _ => ?_)
  simp only [upz, renB]
  by_cases h3 : j = 26160 + r
  · rw [if_pos h3, if_neg (by omega), if_pos (by omega)]
  · rw [if_neg h3]
    by_cases h4 : j = 26144 + r
    · rw [if_pos h4, if_pos (by omega)]
    · rw [if_neg h4, if_neg (by omega), if_neg (by omega), if_neg (by omega)]
def LGp (G : Gx) (hm ms mp mq mt mpa msh mo mtu : Nat) (a' t : Int → Int) (kn kp n : Int) : Option Value → va_W → Prop := fun q w => ∃ sv : Int → Int, q = none ∧ w = [(hm, .inr (7, [.ref ms, .ref mp, .int (zI kn), .ref mq, .int (zI kp), .ref mt, .int (zI n), .ref mpa, .ref msh, .ref mo, .ref mtu])), (ms, aJ G 7157 sv), (mt, aI G 80 t)] ∧ Rel a' sv

abbrev YX7_logs (l : Launch) (G : Gx) : Sx := (cX7_logs, 6, RX7, wsX7_logs, rmD 6, l, G)
theorem ydX7_logs : ydOk yX7_logs 1 := by decide +kernel
theorem inX7_logs_X7 : ∀ w ∈ wsX70, w ∈ wsX7_logs := fun _ h => List.mem_cons_of_mem _ (List.mem_append_right _ h)
set_option maxHeartbeats 1000000 in
set_option maxRecDepth 20000 in
theorem c_X7_logs (l : Launch) (G : Gx) (hm ms mp mq mt mpa msh mo mtu : Nat) (a sv t : Int → Int) (kn kp n p : Int) (hR : Rel a sv) (hI : Inv a) (hn : 0 ≤ n ∧ n ≤ 80) (ht : ∀ j, 0 ≤ t j ∧ t j < 65536) (hp : 0 ≤ p ∧ p ≤ n) (hok : 0 ≤ iez t n p) (htt : a (25344 + rov t n p) + a (25360 + rov t n p) + hov t n p ≤ 9999) : Ct l G yX7_logs wsX7_logs (rmD 6) [.ref hm, .int (zI p)] [(hm, .inr (7, [.ref ms, .ref mp, .int (zI kn), .ref mq, .int (zI kp), .ref mt, .int (zI n), .ref mpa, .ref msh, .ref mo, .ref mtu])), (ms, aJ G 7157 sv), (mt, aI G 80 t)] (LGp G hm ms mp mq mt mpa msh mo mtu (entA a (rov t n p) (wdv t n (p + 4)) (wsv t n (p + 4)) (hov t n p)) t kn kp n) := by
  refine Ct.intro (cc := cX7_logs) (maxL := 6) (ret := none) (lo0 := [some (.ref hm), some (.int (zI p)), none, none, none, none]) (by decide +kernel) rfl ⟨rfl, rfl⟩ (Nat.le_of_ble_eq_true rfl) rfl ?_
  intro X F T
  change Fx X (YX7_logs l G) at F
  change V X (YX7_logs l G) 0 0 0 _ _ _
  have hir := iez_rng t n hp.1 hp.2
  have hwr := wez_rng t n (p := p + 4) (by omega)
  have hrv : 0 ≤ rov t n p ∧ rov t n p < 16 := by omega
  have hhv : 1 ≤ hov t n p ∧ hov t n p ≤ 99 := by omega
  have hw := hI.w hrv
  have hB := hI.bnd
  have c1 := hR.clm hrv
  have hgs : sgz t n (p + 4) = if p + 4 < n then t (p + 4) else -1 := rfl
  have hts := ht (p + 4)
  refine V.aload_n (q := 1) F dX7_logs_0 rfl rfl rfl ?_
  refine V.iload_n (q := 2) F dX7_logs_1 rfl rfl rfl ?_
  refine V.callV (q := 5) F [0, 2] 0 dX7_logs_2 rfl (c_X7_roseAt l G hm ms mp mq mt mpa msh mo mtu _ _ _ _ _ (by omega) ht (by omega)) gX7_logs_X7_roseAt rfl rfl ydX7_roseAt ⟨Nat.le_of_ble_eq_true rfl, Nat.le_of_ble_eq_true rfl⟩ (ci := 7) rfl rfl rfl rfl (Nat.le_of_ble_eq_true rfl) rfl rfl ⟨Nat.zero_le _, Nat.zero_le _⟩ (kkf (st' := [_]) (ws' := [_, _, _]) rfl rfl ?_)
  refine V.istore_n (q := 6) (lo' := [_, _, _, _, _, _]) F dX7_logs_5 rfl rfl (Nat.le_of_ble_eq_true rfl) rfl rfl ?_
  refine V.aload_n (q := 7) F dX7_logs_6 rfl rfl rfl ?_
  refine V.iload_n (q := 8) F dX7_logs_7 rfl rfl rfl ?_
  refine V.iconst (q := 9) F dX7_logs_8 rfl ?_
  refine V.iadd (q := 10) F dX7_logs_9 rfl ?_
  refine V.callV (q := 13) F [0, 2] 0 dX7_logs_10 rfl (c_X7_sign l G hm ms mp mq mt mpa msh mo mtu _ _ _ _ _ (by omega) ht (by omega)) gX7_logs_X7_sign rfl rfl ydX7_sign ⟨Nat.le_of_ble_eq_true rfl, Nat.le_of_ble_eq_true rfl⟩ (ci := 7) rfl rfl rfl rfl (Nat.le_of_ble_eq_true rfl) rfl rfl ⟨Nat.zero_le _, Nat.zero_le _⟩ (kkf (st' := [_]) (ws' := [_, _, _]) rfl rfl ?_)
  refine V.bipush (q := 15) F dX7_logs_13 rfl (by decide) ?_
  refine V.icmp_ne (q := 18) (tgt := 38) F dX7_logs_15 rfl (by decide) (by omega) (fun k15 => ?_) (fun k15 => ?_)
  · have hnc : sgz t n (p + 4) ≠ 99 := by omega
    have hq : 0 ≤ nez t n (p + 4) 0 15 ∧ sgz t n (nez t n (p + 4) 0 15) = 64 ∧ wez t n (p + 4) = nez t n (nez t n (p + 4) 0 15 + 1) 1 99 ∧ wdv t n (p + 4) = nvz t n (p + 4) 0 15 ∧ wsv t n (p + 4) = nvz t n (nez t n (p + 4) 0 15 + 1) 1 99 ∧ 0 ≤ wez t n (p + 4) ∧ 0 ≤ wdv t n (p + 4) ∧ wdv t n (p + 4) < 16 ∧ 1 ≤ wsv t n (p + 4) ∧ wsv t n (p + 4) ≤ 99 := by
      rcases hwr with g | ⟨g1, g2, g3 | g3⟩
      · omega
      · exact absurd g3.1 hnc
      · exact ⟨g3.2.1, g3.2.2.1, g3.2.2.2.1, g3.2.2.2.2.1, g3.2.2.2.2.2.1, by omega, by omega, by omega, by omega, by omega⟩
    have hq1 : nin t n (p + 4) (nez t n (p + 4) 0 15) = wdv t n (p + 4) := by rw [hq.2.2.2.1]; exact (nvz_in hq.1).symm
    have hq2 : nin t n (nez t n (p + 4) 0 15 + 1) (wez t n (p + 4)) = wsv t n (p + 4) := by rw [hq.2.2.2.2.1, hq.2.2.1]; exact (nvz_in (by rw [← hq.2.2.1]; exact hq.2.2.2.2.2.1)).symm
    have hb9 := hB (rov t n p * 1584 + wdv t n (p + 4) * 99 + wsv t n (p + 4) - 1) (by omega) (by omega)
    have hz1 : a (rov t n p * 1584 + wdv t n (p + 4) * 99 + wsv t n (p + 4) - 1) ≤ sz a (rov t n p * 1584) (rov t n p * 1584 + 1584) := sz_mem (fun j _ _ => hI.1 j) (by omega) (by omega)
    rw [← (hI.2.1 _ hrv.1 hrv.2).1] at hz1
    have nb1 := nez_b (t := t) (n := n) (p := p + 4) (lo := 0) (hi := 15) (B := 100) (by omega)
    have wb1 := wez_b (t := t) (n := n) (p := p + 4) (B := 100) (by omega)
    refine V.aload_n (q := 39) F dX7_logs_38 rfl rfl rfl ?_
    refine V.iload_n (q := 40) F dX7_logs_39 rfl rfl rfl ?_
    refine V.iconst (q := 41) F dX7_logs_40 rfl ?_
    refine V.iadd (q := 42) F dX7_logs_41 rfl ?_
    refine V.iconst (q := 43) F dX7_logs_42 rfl ?_
    refine V.bipush (q := 45) F dX7_logs_43 rfl (by decide) ?_
    refine V.callV (q := 48) F [0, 2] 0 dX7_logs_45 rfl (c_X7_numberEnd l G hm ms mp mq mt mpa msh mo mtu _ _ _ _ _ _ _ (by omega) ht (by omega) (by omega)) gX7_logs_X7_numberEnd rfl rfl ydX7_numberEnd ⟨Nat.le_of_ble_eq_true rfl, Nat.le_of_ble_eq_true rfl⟩ (ci := 7) rfl rfl rfl rfl (Nat.le_of_ble_eq_true rfl) rfl rfl ⟨Nat.zero_le _, Nat.zero_le _⟩ (kkf (st' := [_]) (ws' := [_, _, _]) rfl rfl ?_)
    refine V.istore_n (q := 49) (lo' := [_, _, _, _, _, _]) F dX7_logs_48 rfl rfl (Nat.le_of_ble_eq_true rfl) rfl rfl ?_
    refine V.aload_n (q := 50) F dX7_logs_49 rfl rfl rfl ?_
    refine V.iload_n (q := 51) F dX7_logs_50 rfl rfl rfl ?_
    refine V.iconst (q := 52) F dX7_logs_51 rfl ?_
    refine V.iadd (q := 53) F dX7_logs_52 rfl ?_
    refine V.iload_n (q := 54) F dX7_logs_53 rfl rfl rfl ?_
    refine V.callV (q := 57) F [0, 2] 0 dX7_logs_54 rfl (c_X7_numberIn l G hm ms mp mq mt mpa msh mo mtu _ _ _ _ _ _ (by omega) ht (by omega) (by omega)) gX7_logs_X7_numberIn rfl rfl ydX7_numberIn ⟨Nat.le_of_ble_eq_true rfl, Nat.le_of_ble_eq_true rfl⟩ (ci := 7) rfl rfl rfl rfl (Nat.le_of_ble_eq_true rfl) rfl rfl ⟨Nat.zero_le _, Nat.zero_le _⟩ (kkf (st' := [_]) (ws' := [_, _, _]) rfl rfl ?_)
    rw [hq1]
    refine V.istore (q := 59) (lo' := [_, _, _, _, _, _]) F dX7_logs_57 rfl (Nat.le_of_ble_eq_true rfl) rfl rfl ?_
    refine V.aload_n (q := 60) F dX7_logs_59 rfl rfl rfl ?_
    refine V.iload_n (q := 61) F dX7_logs_60 rfl rfl rfl ?_
    refine V.iconst (q := 62) F dX7_logs_61 rfl ?_
    refine V.iadd (q := 63) F dX7_logs_62 rfl ?_
    refine V.aload_n (q := 64) F dX7_logs_63 rfl rfl rfl ?_
    refine V.iload_n (q := 65) F dX7_logs_64 rfl rfl rfl ?_
    refine V.iconst (q := 66) F dX7_logs_65 rfl ?_
    refine V.iadd (q := 67) F dX7_logs_66 rfl ?_
    refine V.callV (q := 70) F [0, 2] 0 dX7_logs_67 rfl (c_X7_windEnd l G hm ms mp mq mt mpa msh mo mtu _ _ _ _ _ (by omega) ht (by omega)) gX7_logs_X7_windEnd rfl rfl ydX7_windEnd ⟨Nat.le_of_ble_eq_true rfl, Nat.le_of_ble_eq_true rfl⟩ (ci := 7) rfl rfl rfl rfl (Nat.le_of_ble_eq_true rfl) rfl rfl ⟨Nat.zero_le _, Nat.zero_le _⟩ (kkf (st' := [_, _, _]) (ws' := [_, _, _]) rfl rfl ?_)
    refine V.callV (q := 73) F [0, 2] 0 dX7_logs_70 rfl (c_X7_numberIn l G hm ms mp mq mt mpa msh mo mtu _ _ _ _ _ _ (by omega) ht (by omega) (by omega)) gX7_logs_X7_numberIn rfl rfl ydX7_numberIn ⟨Nat.le_of_ble_eq_true rfl, Nat.le_of_ble_eq_true rfl⟩ (ci := 7) rfl rfl rfl rfl (Nat.le_of_ble_eq_true rfl) rfl rfl ⟨Nat.zero_le _, Nat.zero_le _⟩ (kkf (st' := [_]) (ws' := [_, _, _]) rfl rfl ?_)
    rw [hq2]
    refine V.istore (q := 75) (lo' := [_, _, _, _, _, _]) F dX7_logs_73 rfl (Nat.le_of_ble_eq_true rfl) rfl rfl ?_
    refine V.aload_n (q := 76) F dX7_logs_75 rfl rfl rfl ?_
    refine V.iload_n (q := 77) F dX7_logs_76 rfl rfl rfl ?_
    refine V.iload (q := 79) F dX7_logs_77 rfl rfl ?_
    refine V.iload (q := 81) F dX7_logs_79 rfl rfl ?_
    refine V.aload_n (q := 82) F dX7_logs_81 rfl rfl rfl ?_
    refine V.iload_n (q := 83) F dX7_logs_82 rfl rfl rfl ?_
    refine V.iload (q := 85) F dX7_logs_83 rfl rfl ?_
    refine V.iload (q := 87) F dX7_logs_85 rfl rfl ?_
    refine V.callV (q := 90) F [0, 1] 0 dX7_logs_87 rfl (c_X7_at l G hm ms mp mq mt mpa msh mo mtu _ _ _ _ _ _ _ _ hR hB (by omega) (by omega) (by omega)) gX7_logs_X7_at rfl rfl ydX7_at ⟨Nat.le_of_ble_eq_true rfl, Nat.le_of_ble_eq_true rfl⟩ (ci := 7) rfl rfl rfl rfl (Nat.le_of_ble_eq_true rfl) rfl rfl ⟨Nat.zero_le _, Nat.zero_le _⟩ (kkf (st' := [_, _, _, _, _]) (ws' := [_, _, _]) rfl rfl ?_)
    refine V.aload_n (q := 91) F dX7_logs_90 rfl rfl rfl ?_
    refine V.iload_n (q := 92) F dX7_logs_91 rfl rfl rfl ?_
    refine V.callV (q := 95) F [0, 2] 0 dX7_logs_92 rfl (c_X7_hoursAt l G hm ms mp mq mt mpa msh mo mtu _ _ _ _ _ (by omega) ht (by omega) (by omega)) gX7_logs_X7_hoursAt rfl rfl ydX7_hoursAt ⟨Nat.le_of_ble_eq_true rfl, Nat.le_of_ble_eq_true rfl⟩ (ci := 7) rfl rfl rfl rfl (Nat.le_of_ble_eq_true rfl) rfl rfl ⟨Nat.zero_le _, Nat.zero_le _⟩ (kkf (st' := [_, _, _, _, _, _]) (ws' := [_, _, _]) rfl rfl ?_)
    refine V.iadd (q := 96) F dX7_logs_95 rfl ?_
    refine V.callV (q := 99) F [0, 1] 0 dX7_logs_96 rfl (c_X7_puts l G hm ms mp mq mt mpa msh mo mtu _ _ _ _ _ _ _ _ _ hR hB (by omega) (by omega) (by omega) (by omega)) gX7_logs_X7_puts rfl rfl ydX7_puts ⟨Nat.le_of_ble_eq_true rfl, Nat.le_of_ble_eq_true rfl⟩ (ci := 7) rfl rfl rfl rfl (Nat.le_of_ble_eq_true rfl) rfl rfl ⟨Nat.zero_le _, Nat.zero_le _⟩ (fun r9 w9 h9 _ => ?_)
    obtain ⟨sv, rfl, rfl, hR⟩ := h9
    refine V.eq (pc' := 99) (st' := []) (ws' := [_, _, _]) rfl rfl rfl rfl ?_
    refine V.vret F T dX7_logs_99 ⟨_, rfl, rfl, ?_⟩ [hm, ms, mt] rfl rfl
    unfold entA
    rw [if_neg (by omega)]
    exact Rel.addW hrv (by assumption)
  · have hcm : sgz t n (p + 4) = 99 := by omega
    refine V.aload_n (q := 19) F dX7_logs_18 rfl rfl rfl ?_
    refine V.get (q := 22) F 0 0 dX7_logs_19 rfl rfl rfl inX7_logs_X7 (by decide) (List.mem_of_getElem? (i := 1) rfl) rfl ?_
    refine V.sipush (q := 25) F dX7_logs_22 rfl (by decide) ?_
    refine V.iload_n (q := 26) F dX7_logs_25 rfl rfl rfl ?_
    refine V.iadd (q := 27) F dX7_logs_26 rfl ?_
    refine V.dup2 (q := 28) F dX7_logs_27 rfl rfl rfl ?_
    refine V.lald (q := 29) F 1 dX7_logs_28 rfl rfl (by decide) (by omega) ?_
    refine V.aload_n (q := 30) F dX7_logs_29 rfl rfl rfl ?_
    refine V.iload_n (q := 31) F dX7_logs_30 rfl rfl rfl ?_
    refine V.callV (q := 34) F [0, 2] 0 dX7_logs_31 rfl (c_X7_hoursAt l G hm ms mp mq mt mpa msh mo mtu _ _ _ _ _ (by omega) ht (by omega) (by omega)) gX7_logs_X7_hoursAt rfl rfl ydX7_hoursAt ⟨Nat.le_of_ble_eq_true rfl, Nat.le_of_ble_eq_true rfl⟩ (ci := 7) rfl rfl rfl rfl (Nat.le_of_ble_eq_true rfl) rfl rfl ⟨Nat.zero_le _, Nat.zero_le _⟩ (kkf (st' := [_, _, _, _]) (ws' := [_, _, _]) rfl rfl ?_)
    refine V.i2l (q := 35) F dX7_logs_34 rfl (by omega) ?_
    refine V.ladd (q := 36) F dX7_logs_35 rfl ?_
    refine V.last (q := 37) (ws' := [_, _, _]) F 1 dX7_logs_36 rfl rfl (by decide) (by omega) rfl ?_
    refine V.vret F T dX7_logs_37 ⟨_, rfl, rfl, ?_⟩ [hm, ms, mt] rfl rfl
    unfold entA
    rw [if_pos (wdv_c hcm), c1]
    have e9 := hR.put (k := 6336 + rov t n p) (v := a (25360 + rov t n p) + hov t n p) (by omega)
    rw [show 6336 + rov t n p + 19024 = 25360 + rov t n p by omega] at e9
    exact e9

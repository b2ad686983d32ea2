/-! Reader: what a text tells; a place below 0 is -1 minus the place of a fault -/
theorem sgz_lt {t : Int → Int} {n p : Int} (h : 0 ≤ sgz t n p) : p < n := by
  unfold sgz at h
  split at h <;> omega
theorem dgz_rng (t : Int → Int) (n p : Int) : -1 ≤ dgz t n p ∧ dgz t n p ≤ 9 ∧ (0 ≤ dgz t n p → p < n) := by
  have e : dgz t n p = if 48 ≤ sgz t n p ∧ sgz t n p ≤ 57 then sgz t n p - 48 else -1 := rfl
  have := sgz_lt (t := t) (n := n) (p := p)
  refine ⟨by omega, by omega, fun h => this (by omega)⟩
def nez (t : Int → Int) (n p lo hi : Int) : Int := if p < 0 then p else if (dgz t n p < lo ∧ dgz t n p < 1) ∨ hi < dgz t n p then -1 - p else if 0 < dgz t n p ∧ 0 ≤ dgz t n (p + 1) ∧ 10 * dgz t n p + dgz t n (p + 1) ≤ hi then p + 2 else p + 1
def nvz (t : Int → Int) (n p lo hi : Int) : Int := if 0 ≤ nez t n p lo hi then (if nez t n p lo hi = p + 1 then dgz t n p else 10 * dgz t n p + dgz t n (p + 1)) else -1
def bez (t : Int → Int) (n p c : Int) : Int := if p < 0 then p else if sgz t n p = c then p + 1 else -1 - p
def hez (t : Int → Int) (n p : Int) : Int := bez t n (nez t n (bez t n (nez t n p 0 3) 46) 0 3) 58
def wez (t : Int → Int) (n p : Int) : Int := if p < 0 then p else if sgz t n p = 99 then p + 1 else nez t n (bez t n (nez t n p 0 15) 64) 1 99
def hoz (t : Int → Int) (n p : Int) : Int := if 0 ≤ p ∧ sgz t n p = 42 then nez t n (p + 1) 1 99 else p
def iez (t : Int → Int) (n p : Int) : Int := hoz t n (wez t n (hez t n p))
def posz (x : Int) : Int := if 0 ≤ x then x else -1 - x
/-- what is written of an entry -/
def rov (t : Int → Int) (n p : Int) : Int := dgz t n p * 4 + dgz t n (p + 2)
def wdv (t : Int → Int) (n p : Int) : Int := if sgz t n p = 99 then -1 else if 0 ≤ nez t n p 0 15 ∧ sgz t n (nez t n p 0 15) = 64 then nvz t n p 0 15 else -1
def wsv (t : Int → Int) (n p : Int) : Int := if sgz t n p = 99 then 0 else if 0 ≤ nez t n p 0 15 ∧ sgz t n (nez t n p 0 15) = 64 then nvz t n (nez t n p 0 15 + 1) 1 99 else 0
def hvz (t : Int → Int) (n p : Int) : Int := if sgz t n p = 42 then nvz t n (p + 1) 1 99 else 1
def hov (t : Int → Int) (n p : Int) : Int := hvz t n (wez t n (p + 4))
theorem nez_rng (t : Int → Int) (n : Int) {p lo hi : Int} (hp : 0 ≤ p) (hlo : 0 ≤ lo) : (nez t n p lo hi = -1 - p) ∨ (nez t n p lo hi = p + 1 ∧ p + 1 ≤ n ∧ 0 ≤ dgz t n p ∧ (1 ≤ lo → 1 ≤ dgz t n p) ∧ dgz t n p ≤ hi) ∨ (nez t n p lo hi = p + 2 ∧ p + 2 ≤ n ∧ 0 < dgz t n p ∧ 0 ≤ dgz t n (p + 1) ∧ 10 * dgz t n p + dgz t n (p + 1) ≤ hi) := by
  have e : nez t n p lo hi = if p < 0 then p else if (dgz t n p < lo ∧ dgz t n p < 1) ∨ hi < dgz t n p then -1 - p else if 0 < dgz t n p ∧ 0 ≤ dgz t n (p + 1) ∧ 10 * dgz t n p + dgz t n (p + 1) ≤ hi then p + 2 else p + 1 := rfl
  have h1 := dgz_rng t n p
  have h2 := dgz_rng t n (p + 1)
  omega
theorem nvz_rng (t : Int → Int) (n : Int) {p lo hi : Int} (hp : 0 ≤ p) (hlo : 0 ≤ lo) (hh : 0 ≤ hi) : -1 ≤ nvz t n p lo hi ∧ nvz t n p lo hi ≤ hi ∧ (0 ≤ nez t n p lo hi → 0 ≤ nvz t n p lo hi ∧ (1 ≤ lo → 1 ≤ nvz t n p lo hi)) ∧ (nez t n p lo hi < 0 → nvz t n p lo hi = -1) := by
  have e : nvz t n p lo hi = if 0 ≤ nez t n p lo hi then (if nez t n p lo hi = p + 1 then dgz t n p else 10 * dgz t n p + dgz t n (p + 1)) else -1 := rfl
  have h1 := dgz_rng t n p
  have h2 := dgz_rng t n (p + 1)
  have h3 := nez_rng t n (p := p) (lo := lo) (hi := hi) hp hlo
  omega
theorem upz_upz (f : Int → Int) (i v w : Int) : upz (upz f i v) i w = upz f i w := by
  funext j
  unfold upz
  split <;> rfl
/-- the places at which entries begin -/
def plz (t : Int → Int) (n : Int) : Nat → Int
  | 0 => 0
  | k + 1 => iez t n (plz t n k) + 1
def conz (t : Int → Int) (n p : Int) : Prop := 0 ≤ iez t n p ∧ sgz t n (iez t n p) = 59
def Par (t : Int → Int) (n : Int) (K : Nat) : Prop := (∀ k, k < K → conz t n (plz t n k)) ∧ ¬ conz t n (plz t n K)
theorem hez_rng (t : Int → Int) (n : Int) {p : Int} (hp : 0 ≤ p) : (hez t n p < 0 ∧ p ≤ posz (hez t n p)) ∨ (hez t n p = p + 4 ∧ p + 4 ≤ n ∧ nez t n p 0 3 = p + 1 ∧ sgz t n (p + 1) = 46 ∧ nez t n (p + 2) 0 3 = p + 3 ∧ sgz t n (p + 3) = 58 ∧ 0 ≤ dgz t n p ∧ dgz t n p ≤ 3 ∧ 0 ≤ dgz t n (p + 2) ∧ dgz t n (p + 2) ≤ 3) := by
  have d1 := dgz_rng t n p
  have d2 := dgz_rng t n (p + 1)
  have d3 := dgz_rng t n (p + 2)
  have d4 := dgz_rng t n (p + 2 + 1)
  have n1 := nez_rng t n (p := p) (lo := 0) (hi := 3) hp (by omega)
  have n2 := nez_rng t n (p := p + 2) (lo := 0) (hi := 3) (by omega) (by omega)
  have l1 := sgz_lt (t := t) (n := n) (p := p + 3)
  have eP : ∀ x, posz x = if 0 ≤ x then x else -1 - x := fun x => rfl
  rw [eP]
  unfold hez
  rcases n1 with h | h | h
  · left
    have e1 : bez t n (nez t n p 0 3) 46 = -1 - p := by rw [h]; unfold bez; rw [if_pos (by omega)]
    have e2 : nez t n (-1 - p) 0 3 = -1 - p := by unfold nez; rw [if_pos (by omega)]
    have e3 : bez t n (-1 - p) 58 = -1 - p := by unfold bez; rw [if_pos (by omega)]
    rw [e1, e2, e3]
    exact ⟨by omega, by rw [if_neg (by omega)]; omega⟩
  · rw [h.1]
    by_cases hs : sgz t n (p + 1) = 46
    · have e1 : bez t n (p + 1) 46 = p + 2 := by unfold bez; rw [if_neg (by omega), if_pos hs]; omega
      rw [e1]
      rcases n2 with h2 | h2 | h2
      · left
        have e3 : bez t n (-1 - (p + 2)) 58 = -1 - (p + 2) := by unfold bez; rw [if_pos (by omega)]
        rw [h2, e3]
        exact ⟨by omega, by rw [if_neg (by omega)]; omega⟩
      · rw [h2.1]
        by_cases hs2 : sgz t n (p + 2 + 1) = 58
        · right
          have e3 : bez t n (p + 2 + 1) 58 = p + 4 := by unfold bez; rw [if_neg (by omega), if_pos hs2]; omega
          rw [e3]
          rw [show p + 2 + 1 = p + 3 by omega] at hs2
          have l2 := l1 (by omega)
          exact ⟨rfl, by omega, by omega, hs, by omega, hs2, by omega, by omega, by omega, by omega⟩
        · left
          have e3 : bez t n (p + 2 + 1) 58 = -1 - (p + 2 + 1) := by unfold bez; rw [if_neg (by omega), if_neg hs2]
          rw [e3]
          exact ⟨by omega, by rw [if_neg (by omega)]; omega⟩
      · omega
    · left
      have e1 : bez t n (p + 1) 46 = -1 - (p + 1) := by unfold bez; rw [if_neg (by omega), if_neg hs]
      have e2 : nez t n (-1 - (p + 1)) 0 3 = -1 - (p + 1) := by unfold nez; rw [if_pos (by omega)]
      have e3 : bez t n (-1 - (p + 1)) 58 = -1 - (p + 1) := by unfold bez; rw [if_pos (by omega)]
      rw [e1, e2, e3]
      exact ⟨by omega, by rw [if_neg (by omega)]; omega⟩
  · omega
/-- where the wind ends: a fault at or behind p, or an end within the text; what it tells -/
theorem wez_rng (t : Int → Int) (n : Int) {p : Int} (hp : 0 ≤ p) : (wez t n p < 0 ∧ p ≤ posz (wez t n p)) ∨ (p < wez t n p ∧ wez t n p ≤ n ∧ ((sgz t n p = 99 ∧ wez t n p = p + 1 ∧ wdv t n p = -1 ∧ wsv t n p = 0) ∨ (sgz t n p ≠ 99 ∧ 0 ≤ nez t n p 0 15 ∧ sgz t n (nez t n p 0 15) = 64 ∧ wez t n p = nez t n (nez t n p 0 15 + 1) 1 99 ∧ wdv t n p = nvz t n p 0 15 ∧ wsv t n p = nvz t n (nez t n p 0 15 + 1) 1 99 ∧ 0 ≤ wdv t n p ∧ wdv t n p ≤ 15 ∧ 1 ≤ wsv t n p ∧ wsv t n p ≤ 99))) := by
  have eP : ∀ x, posz x = if 0 ≤ x then x else -1 - x := fun x => rfl
  have n1 := nez_rng t n (p := p) (lo := 0) (hi := 15) hp (by omega)
  have v1 := nvz_rng t n (p := p) (lo := 0) (hi := 15) hp (by omega) (by omega)
  rw [eP]
  by_cases hc : sgz t n p = 99
  · right
    have e : wez t n p = p + 1 := by unfold wez; rw [if_neg (by omega), if_pos hc]
    have l := sgz_lt (t := t) (n := n) (p := p) (by omega)
    exact ⟨by omega, by omega, Or.inl ⟨hc, e, by unfold wdv; rw [if_pos hc], by unfold wsv; rw [if_pos hc]⟩⟩
  · have e : wez t n p = nez t n (bez t n (nez t n p 0 15) 64) 1 99 := by unfold wez; rw [if_neg (by omega), if_neg hc]
    by_cases hn : nez t n p 0 15 < 0
    · left
      have e0 : nez t n p 0 15 = -1 - p := by omega
      have e1 : bez t n (-1 - p) 64 = -1 - p := by unfold bez; rw [if_pos (by omega)]
      have e2 : nez t n (-1 - p) 1 99 = -1 - p := by unfold nez; rw [if_pos (by omega)]
      rw [e, e0, e1, e2]
      exact ⟨by omega, by rw [if_neg (by omega)]; omega⟩
    · by_cases hs : sgz t n (nez t n p 0 15) = 64
      · have e1 : bez t n (nez t n p 0 15) 64 = nez t n p 0 15 + 1 := by unfold bez; rw [if_neg hn, if_pos hs]
        have n2 := nez_rng t n (p := nez t n p 0 15 + 1) (lo := 1) (hi := 99) (by omega) (by omega)
        have v2 := nvz_rng t n (p := nez t n p 0 15 + 1) (lo := 1) (hi := 99) (by omega) (by omega) (by omega)
        rw [e1] at e
        rw [e]
        by_cases h2 : nez t n (nez t n p 0 15 + 1) 1 99 < 0
        · left
          exact ⟨h2, by rw [if_neg (by omega)]; omega⟩
        · right
          have w1 : wdv t n p = nvz t n p 0 15 := by unfold wdv; rw [if_neg hc, if_pos ⟨by omega, hs⟩]
          have w2 : wsv t n p = nvz t n (nez t n p 0 15 + 1) 1 99 := by unfold wsv; rw [if_neg hc, if_pos ⟨by omega, hs⟩]
          exact ⟨by omega, by omega, Or.inr ⟨hc, by omega, hs, rfl, w1, w2, by omega, by omega, by omega, by omega⟩⟩
      · left
        have e1 : bez t n (nez t n p 0 15) 64 = -1 - nez t n p 0 15 := by unfold bez; rw [if_neg hn, if_neg hs]
        have e2 : nez t n (-1 - nez t n p 0 15) 1 99 = -1 - nez t n p 0 15 := by unfold nez; rw [if_pos (by omega)]
        rw [e, e1, e2]
        exact ⟨by omega, by rw [if_neg (by omega)]; omega⟩
theorem wez_A {t : Int → Int} {n p : Int} (hp : 0 ≤ p) (hc : ¬ sgz t n p = 99) (h : nez t n p 0 15 < 0) : wez t n p = -1 - p := by
  have n1 := nez_rng t n (p := p) (lo := 0) (hi := 15) hp (by omega)
  have e0 : nez t n p 0 15 = -1 - p := by omega
  have e1 : bez t n (-1 - p) 64 = -1 - p := by unfold bez; rw [if_pos (by omega)]
  have e2 : nez t n (-1 - p) 1 99 = -1 - p := by unfold nez; rw [if_pos (by omega)]
  unfold wez
  rw [if_neg (by omega), if_neg hc, e0, e1, e2]
theorem wez_B {t : Int → Int} {n p : Int} (hp : 0 ≤ p) (hc : ¬ sgz t n p = 99) (h : 0 ≤ nez t n p 0 15) (hs : ¬ sgz t n (nez t n p 0 15) = 64) : wez t n p = -1 - nez t n p 0 15 := by
  have e1 : bez t n (nez t n p 0 15) 64 = -1 - nez t n p 0 15 := by unfold bez; rw [if_neg (by omega), if_neg hs]
  have e2 : nez t n (-1 - nez t n p 0 15) 1 99 = -1 - nez t n p 0 15 := if_pos (by omega)
  unfold wez
  rw [if_neg (by omega), if_neg hc, e1, e2]
theorem hoz_rng (t : Int → Int) (n : Int) {p : Int} (hp : 0 ≤ p) (hn : p ≤ n) : (hoz t n p < 0 ∧ p ≤ posz (hoz t n p)) ∨ (p ≤ hoz t n p ∧ hoz t n p ≤ n ∧ 1 ≤ hvz t n p ∧ hvz t n p ≤ 99) := by
  have eP : ∀ x, posz x = if 0 ≤ x then x else -1 - x := fun x => rfl
  have n2 := nez_rng t n (p := p + 1) (lo := 1) (hi := 99) (by omega) (by omega)
  have v2 := nvz_rng t n (p := p + 1) (lo := 1) (hi := 99) (by omega) (by omega) (by omega)
  have e1 : hoz t n p = if 0 ≤ p ∧ sgz t n p = 42 then nez t n (p + 1) 1 99 else p := rfl
  have e2 : hvz t n p = if sgz t n p = 42 then nvz t n (p + 1) 1 99 else 1 := rfl
  rw [eP]
  by_cases h : sgz t n p = 42
  · rw [if_pos ⟨hp, h⟩] at e1
    rw [if_pos h] at e2
    rw [e1, e2]
    by_cases h2 : nez t n (p + 1) 1 99 < 0
    · left; exact ⟨h2, by rw [if_neg (by omega)]; omega⟩
    · right; omega
  · rw [if_neg (fun z => h z.2)] at e1
    rw [if_neg h] at e2
    omega
theorem iez_rng (t : Int → Int) (n : Int) {p : Int} (hp : 0 ≤ p) (hn : p ≤ n) : (iez t n p < 0 ∧ p ≤ posz (iez t n p)) ∨ (p + 5 ≤ iez t n p ∧ iez t n p ≤ n ∧ hez t n p = p + 4 ∧ 0 ≤ wez t n (p + 4) ∧ iez t n p = hoz t n (wez t n (p + 4)) ∧ 1 ≤ hov t n p ∧ hov t n p ≤ 99 ∧ 0 ≤ rov t n p ∧ rov t n p < 16) := by
  have eP : ∀ x, posz x = if 0 ≤ x then x else -1 - x := fun x => rfl
  have h1 := hez_rng t n hp
  rw [eP] at h1
  rw [eP]
  unfold iez
  by_cases h : hez t n p < 0
  · left
    have e2 : wez t n (hez t n p) = hez t n p := by unfold wez; rw [if_pos h]
    have e3 : hoz t n (hez t n p) = hez t n p := by unfold hoz; rw [if_neg (by omega)]
    rw [e2, e3]
    rcases h1 with g | g
    · exact g
    · omega
  · rcases h1 with g | g
    · omega
    · rw [g.1]
      have h2 := wez_rng t n (p := p + 4) (by omega)
      rw [eP] at h2
      by_cases hw : wez t n (p + 4) < 0
      · left
        have e3 : hoz t n (wez t n (p + 4)) = wez t n (p + 4) := by unfold hoz; rw [if_neg (by omega)]
        rw [e3]
        rcases h2 with q | q
        · exact ⟨q.1, by omega⟩
        · omega
      · have h3 : p + 4 < wez t n (p + 4) ∧ wez t n (p + 4) ≤ n := by
          rcases h2 with q | q
          · omega
          · exact ⟨q.1, q.2.1⟩
        have h4 := hoz_rng t n (p := wez t n (p + 4)) (by omega) h3.2
        rw [eP] at h4
        have h5 : hov t n p = hvz t n (wez t n (p + 4)) := rfl
        have h6 : rov t n p = dgz t n p * 4 + dgz t n (p + 2) := rfl
        rcases h4 with q | q
        · left; exact ⟨q.1, by omega⟩
        · right
          exact ⟨by omega, q.2.1, rfl, by omega, rfl, by omega, by omega, by omega, by omega⟩
theorem plz_rng {t : Int → Int} {n : Int} (hn : 0 ≤ n) {K : Nat} (h : ∀ k, k < K → conz t n (plz t n k)) : ∀ k : Nat, k ≤ K → 0 ≤ plz t n k ∧ plz t n k ≤ n ∧ 6 * (k : Int) ≤ plz t n k
  | 0, _ => ⟨Int.le_refl 0, hn, Int.le_refl 0⟩
  | k + 1, hk => by
    have ih := plz_rng hn h k (by omega)
    have hc := h k (by omega)
    have hr := iez_rng t n ih.1 ih.2.1
    have hl := sgz_lt (t := t) (n := n) (p := iez t n (plz t n k)) (by rw [hc.2]; omega)
    have hc1 := hc.1
    rw [plz]
    omega
theorem par_ex (t : Int → Int) {n : Int} (hn : 0 ≤ n ∧ n ≤ 80) : ∃ K : Nat, K ≤ 13 ∧ Par t n K := by
  have key : ∀ j : Nat, (∃ K : Nat, K ≤ j ∧ Par t n K) ∨ (∀ k, k < j + 1 → conz t n (plz t n k)) := by
    intro j
    induction j with
    | zero =>
      by_cases h : conz t n (plz t n 0)
      · right; intro k hk; rw [show k = 0 by omega]; exact h
      · left; exact ⟨0, Nat.le_refl 0, fun k hk => absurd hk (Nat.not_lt_zero k), h⟩
    | succ j ih =>
      rcases ih with ⟨K, h1, h2⟩ | ih
      · left; exact ⟨K, by omega, h2⟩
      · by_cases h : conz t n (plz t n (j + 1))
        · right
          intro k hk
          by_cases hk2 : k < j + 1
          · exact ih k hk2
          · rw [show k = j + 1 by omega]; exact h
        · left; exact ⟨j + 1, Nat.le_refl _, ih, h⟩
  rcases key 13 with h | h
  · exact h
  · exfalso
    have := plz_rng hn.1 h 14 (Nat.le_refl _)
    omega

abbrev YX3_take (l : Launch) (G : Gx) : Sx := (cX3_take, 2, RX3, wsX3_take, rmD 2, l, G)
theorem ydX3_take : ydOk yX3_take 1 := by decide +kernel
theorem inX3_take_X3 : ∀ w ∈ wsX30, w ∈ wsX3_take := fun _ h => List.mem_cons_of_mem _ (List.mem_append_left _ (List.mem_append_right _ h))
set_option maxHeartbeats 1000000 in
set_option maxRecDepth 20000 in
theorem c_X3_take (l : Launch) (G : Gx) (hrd htx htr hrr hri hrp hrh : Nat) (t : Int → Int) (n E P c : Int) (hn : 0 ≤ n ∧ n ≤ 80) (ht : ∀ j, 0 ≤ t j ∧ t j < 65536) (hP : 0 ≤ P ∧ P ≤ n) (hc : 0 ≤ c ∧ c < 65536) : Ct l G yX3_take wsX3_take (rmD 2) [.ref hrd, .int (zI c)] [(hrd, .inr (3, [.ref htx, .ref hrr, .ref hri, .ref hrp, .ref hrh, .int (zI E), .int (zI P)])), (htx, .inr (5, [.ref htr, .int (zI n)])), (htr, aC G 80 t)] (Fn (some (.int (zI (if sgz t n P = c then 1 else 0)))) [(hrd, .inr (3, [.ref htx, .ref hrr, .ref hri, .ref hrp, .ref hrh, .int (zI E), .int (zI (if sgz t n P = c then P + 1 else P))])), (htx, .inr (5, [.ref htr, .int (zI n)])), (htr, aC G 80 t)]) := by
  refine Ct.intro (cc := cX3_take) (maxL := 2) (ret := (some .boolean)) (lo0 := [some (.ref hrd), some (.int (zI c))]) (by decide +kernel) rfl ⟨rfl, rfl⟩ (Nat.le_of_ble_eq_true rfl) rfl ?_
  intro X F T
  change Fx X (YX3_take l G) at F
  change V X (YX3_take l G) 0 0 0 _ _ _
  refine V.aload_n (q := 1) F dX3_take_0 rfl rfl rfl ?_
  refine V.get (q := 4) F 0 0 dX3_take_1 rfl rfl rfl inX3_take_X3 (by decide) (List.mem_of_getElem? (i := 1) rfl) rfl ?_
  refine V.aload_n (q := 5) F dX3_take_4 rfl rfl rfl ?_
  refine V.get (q := 8) F 0 6 dX3_take_5 rfl rfl rfl inX3_take_X3 (by decide) (List.mem_of_getElem? (i := 2) rfl) rfl ?_
  refine V.iload_n (q := 9) F dX3_take_8 rfl rfl rfl ?_
  refine V.callV (q := 12) F [1, 2] 1 dX3_take_9 rfl (c_X5_isAt l G htx htr _ _ _ _ (by omega) ht (by omega) (by omega)) gX3_take_X5_isAt rfl rfl ydX5_isAt ⟨Nat.le_of_ble_eq_true rfl, Nat.le_of_ble_eq_true rfl⟩ (ci := 5) rfl rfl rfl rfl (Nat.le_of_ble_eq_true rfl) rfl rfl ⟨Nat.zero_le _, Nat.zero_le _⟩ (kkf (st' := [_]) (ws' := [_, _, _]) rfl rfl ?_)
  refine V.if_ne (q := 15) (tgt := 17) F dX3_take_12 rfl (by decide) (by omega) (fun k12 => ?_) (fun k12 => ?_)
  · refine V.aload_n (q := 18) F dX3_take_17 rfl rfl rfl ?_
    refine V.dup (q := 19) F dX3_take_18 rfl rfl ?_
    refine V.get (q := 22) F 0 6 dX3_take_19 rfl rfl rfl inX3_take_X3 (by decide) (List.mem_of_getElem? (i := 2) rfl) rfl ?_
    refine V.iconst (q := 23) F dX3_take_22 rfl ?_
    refine V.iadd (q := 24) F dX3_take_23 rfl ?_
    refine V.put (q := 27) (ws' := [_, _, _]) (fs' := [_, _, _, _, _, _, _]) F 0 6 dX3_take_24 rfl rfl rfl inX3_take_X3 tyX3 tyX3_ok nmX3 (by decide) (List.mem_of_getElem? (i := 2) rfl) rfl rfl rfl rfl (Nat.le_of_ble_eq_true rfl) rfl rfl ?_
    refine V.iconst (q := 28) F dX3_take_27 rfl ?_
    exact V.zret F T (by omega) dX3_take_28 (fnI (by omega) (wcons (objEq (vcons rfl (vcons rfl (vcons rfl (vcons rfl (vcons rfl (vcons rfl (vcons (congrArg (fun z => Value.int (zI z)) (by omega)) rfl)))))))) (wcons rfl (wcons rfl rfl)))) [hrd, htx, htr] rfl rfl
  · refine V.iconst (q := 16) F dX3_take_15 rfl ?_
    exact V.zret F T (by omega) dX3_take_16 (fnI (by omega) (wcons (objEq (vcons rfl (vcons rfl (vcons rfl (vcons rfl (vcons rfl (vcons rfl (vcons (congrArg (fun z => Value.int (zI z)) (by omega)) rfl)))))))) (wcons rfl (wcons rfl rfl)))) [hrd, htx, htr] rfl rfl

abbrev YX3_readNumber (l : Launch) (G : Gx) : Sx := (cX3_readNumber, 5, RX3, wsX3_readNumber, rmD 2, l, G)
theorem ydX3_readNumber : ydOk yX3_readNumber 2 := by decide +kernel
theorem inX3_readNumber_X3 : ∀ w ∈ wsX30, w ∈ wsX3_readNumber := fun _ h => List.mem_cons_of_mem _ (List.mem_append_left _ (List.mem_append_right _ h))
set_option maxHeartbeats 1000000 in
set_option maxRecDepth 20000 in
theorem c_X3_readNumber (l : Launch) (G : Gx) (hrd htx htr hrr hri hrp hrh : Nat) (t : Int → Int) (n E P lo hi : Int) (hn : 0 ≤ n ∧ n ≤ 80) (ht : ∀ j, 0 ≤ t j ∧ t j < 65536) (hP : 0 ≤ P ∧ P ≤ n) (hl : 0 ≤ lo ∧ lo ≤ 1 ∧ 1 ≤ hi ∧ hi ≤ 99) : Ct l G yX3_readNumber wsX3_readNumber (rmD 2) [.ref hrd, .int (zI lo), .int (zI hi)] [(hrd, .inr (3, [.ref htx, .ref hrr, .ref hri, .ref hrp, .ref hrh, .int (zI E), .int (zI P)])), (htx, .inr (5, [.ref htr, .int (zI n)])), (htr, aC G 80 t)] (Fn (some (.int (zI (nvz t n P lo hi)))) [(hrd, .inr (3, [.ref htx, .ref hrr, .ref hri, .ref hrp, .ref hrh, .int (zI E), .int (zI (if 0 ≤ nez t n P lo hi then nez t n P lo hi else P))])), (htx, .inr (5, [.ref htr, .int (zI n)])), (htr, aC G 80 t)]) := by
  refine Ct.intro (cc := cX3_readNumber) (maxL := 5) (ret := (some .int)) (lo0 := [some (.ref hrd), some (.int (zI lo)), some (.int (zI hi)), none, none]) (by decide +kernel) rfl ⟨rfl, rfl⟩ (Nat.le_of_ble_eq_true rfl) rfl ?_
  intro X F T
  change Fx X (YX3_readNumber l G) at F
  change V X (YX3_readNumber l G) 0 0 0 _ _ _
  have d1 := dgz_rng t n P
  have d2 := dgz_rng t n (P + 1)
  have e1 : nez t n P lo hi = if P < 0 then P else if (dgz t n P < lo ∧ dgz t n P < 1) ∨ hi < dgz t n P then -1 - P else if 0 < dgz t n P ∧ 0 ≤ dgz t n (P + 1) ∧ 10 * dgz t n P + dgz t n (P + 1) ≤ hi then P + 2 else P + 1 := rfl
  have e2 : nvz t n P lo hi = if 0 ≤ nez t n P lo hi then (if nez t n P lo hi = P + 1 then dgz t n P else 10 * dgz t n P + dgz t n (P + 1)) else -1 := rfl
  refine V.aload_n (q := 1) F dX3_readNumber_0 rfl rfl rfl ?_
  refine V.get (q := 4) F 0 0 dX3_readNumber_1 rfl rfl rfl inX3_readNumber_X3 (by decide) (List.mem_of_getElem? (i := 1) rfl) rfl ?_
  refine V.aload_n (q := 5) F dX3_readNumber_4 rfl rfl rfl ?_
  refine V.get (q := 8) F 0 6 dX3_readNumber_5 rfl rfl rfl inX3_readNumber_X3 (by decide) (List.mem_of_getElem? (i := 2) rfl) rfl ?_
  refine V.callV (q := 11) F [1, 2] 1 dX3_readNumber_8 rfl (c_X5_digitAt l G htx htr _ _ _ (by omega) ht (by omega)) gX3_readNumber_X5_digitAt rfl rfl ydX5_digitAt ⟨Nat.le_of_ble_eq_true rfl, Nat.le_of_ble_eq_true rfl⟩ (ci := 5) rfl rfl rfl rfl (Nat.le_of_ble_eq_true rfl) rfl rfl ⟨Nat.zero_le _, Nat.zero_le _⟩ (kkf (st' := [_]) (ws' := [_, _, _]) rfl rfl ?_)
  refine V.istore_n (q := 12) (lo' := [_, _, _, _, _]) F dX3_readNumber_11 rfl rfl (Nat.le_of_ble_eq_true rfl) rfl rfl ?_
  refine V.iload_n (q := 13) F dX3_readNumber_12 rfl rfl rfl ?_
  refine V.iload_n (q := 14) F dX3_readNumber_13 rfl rfl rfl ?_
  refine V.iload_n (q := 15) F dX3_readNumber_14 rfl rfl rfl ?_
  refine V.callSN (q := 18) (host := RX6) F [] dX3_readNumber_15 rfl (c_X6_isBetween l G  _ _ _ (by omega) (by omega) (by omega)) gX3_readNumber_X6_isBetween_n81 rfl ydX6_isBetween ⟨Nat.le_of_ble_eq_true rfl, Nat.le_of_ble_eq_true rfl⟩ (fun U h => h.2.1) (List.mem_of_getElem? (i := 11) rfl) (List.mem_of_getElem? (i := 10) rfl) rfl rfl (Nat.le_of_ble_eq_true rfl) rfl rfl ⟨Nat.zero_le _, Nat.zero_le _⟩ (kkf (st' := [_]) (ws' := [_, _, _]) rfl rfl ?_)
  refine V.if_ne (q := 21) (tgt := 23) F dX3_readNumber_18 rfl (by decide) (by omega) (fun k18 => ?_) (fun k18 => ?_)
  · refine V.aload_n (q := 24) F dX3_readNumber_23 rfl rfl rfl ?_
    refine V.dup (q := 25) F dX3_readNumber_24 rfl rfl ?_
    refine V.get (q := 28) F 0 6 dX3_readNumber_25 rfl rfl rfl inX3_readNumber_X3 (by decide) (List.mem_of_getElem? (i := 2) rfl) rfl ?_
    refine V.iconst (q := 29) F dX3_readNumber_28 rfl ?_
    refine V.iadd (q := 30) F dX3_readNumber_29 rfl ?_
    refine V.put (q := 33) (ws' := [_, _, _]) (fs' := [_, _, _, _, _, _, _]) F 0 6 dX3_readNumber_30 rfl rfl rfl inX3_readNumber_X3 tyX3 tyX3_ok nmX3 (by decide) (List.mem_of_getElem? (i := 2) rfl) rfl rfl rfl rfl (Nat.le_of_ble_eq_true rfl) rfl rfl ?_
    refine V.aload_n (q := 34) F dX3_readNumber_33 rfl rfl rfl ?_
    refine V.get (q := 37) F 0 0 dX3_readNumber_34 rfl rfl rfl inX3_readNumber_X3 (by decide) (List.mem_of_getElem? (i := 1) rfl) rfl ?_
    refine V.aload_n (q := 38) F dX3_readNumber_37 rfl rfl rfl ?_
    refine V.get (q := 41) F 0 6 dX3_readNumber_38 rfl rfl rfl inX3_readNumber_X3 (by decide) (List.mem_of_getElem? (i := 2) rfl) rfl ?_
    refine V.callV (q := 44) F [1, 2] 1 dX3_readNumber_41 rfl (c_X5_digitAt l G htx htr _ _ _ (by omega) ht (by omega)) gX3_readNumber_X5_digitAt rfl rfl ydX5_digitAt ⟨Nat.le_of_ble_eq_true rfl, Nat.le_of_ble_eq_true rfl⟩ (ci := 5) rfl rfl rfl rfl (Nat.le_of_ble_eq_true rfl) rfl rfl ⟨Nat.zero_le _, Nat.zero_le _⟩ (kkf (st' := [_]) (ws' := [_, _, _]) rfl rfl ?_)
    refine V.istore (q := 46) (lo' := [_, _, _, _, _]) F dX3_readNumber_44 rfl (Nat.le_of_ble_eq_true rfl) rfl rfl ?_
    have J84 : ∀ (v Q : Int) (hv : v = nvz t n P lo hi) (hQ : Q = if 0 ≤ nez t n P lo hi then nez t n P lo hi else P), V X (YX3_readNumber l G) 0 0 84 [some (.ref hrd), some (.int (zI lo)), some (.int (zI hi)), some (.int (zI v)), none] [] [(hrd, .inr (3, [.ref htx, .ref hrr, .ref hri, .ref hrp, .ref hrh, .int (zI E), .int (zI Q)])), (htx, .inr (5, [.ref htr, .int (zI n)])), (htr, aC G 80 t)] := by
      intro v Q hv hQ
      refine V.iload_n (q := 85) F dX3_readNumber_84 rfl rfl rfl ?_
      exact V.iret F T dX3_readNumber_85 (fnI hv (by rw [hQ])) [hrd, htx, htr] rfl rfl
    refine V.iload_n (q := 47) F dX3_readNumber_46 rfl rfl rfl ?_
    refine V.if_le (q := 50) (tgt := 84) F dX3_readNumber_47 rfl (by decide) (by omega) (fun k47 => ?_) (fun k47 => ?_)
    · refine V.mask [true, true, true, true, false] (lo' := [_, _, _, _, _]) rfl ?_
      exact J84 _ _ (by omega) (by omega)
    · refine V.iload (q := 52) F dX3_readNumber_50 rfl rfl ?_
      refine V.if_lt (q := 55) (tgt := 84) F dX3_readNumber_52 rfl (by decide) (by omega) (fun k52 => ?_) (fun k52 => ?_)
      · refine V.mask [true, true, true, true, false] (lo' := [_, _, _, _, _]) rfl ?_
        exact J84 _ _ (by omega) (by omega)
      · refine V.iload_n (q := 56) F dX3_readNumber_55 rfl rfl rfl ?_
        refine V.bipush (q := 58) F dX3_readNumber_56 rfl (by decide) ?_
        refine V.imul (q := 59) F dX3_readNumber_58 rfl ?_
        refine V.iload (q := 61) F dX3_readNumber_59 rfl rfl ?_
        refine V.iadd (q := 62) F dX3_readNumber_61 rfl ?_
        refine V.iload_n (q := 63) F dX3_readNumber_62 rfl rfl rfl ?_
        refine V.icmp_gt (q := 66) (tgt := 84) F dX3_readNumber_63 rfl (by decide) (by omega) (fun k63 => ?_) (fun k63 => ?_)
        · refine V.mask [true, true, true, true, false] (lo' := [_, _, _, _, _]) rfl ?_
          exact J84 _ _ (by omega) (by omega)
        · refine V.iload_n (q := 67) F dX3_readNumber_66 rfl rfl rfl ?_
          refine V.bipush (q := 69) F dX3_readNumber_67 rfl (by decide) ?_
          refine V.imul (q := 70) F dX3_readNumber_69 rfl ?_
          refine V.iload (q := 72) F dX3_readNumber_70 rfl rfl ?_
          refine V.iadd (q := 73) F dX3_readNumber_72 rfl ?_
          refine V.istore_n (q := 74) (lo' := [_, _, _, _, _]) F dX3_readNumber_73 rfl rfl (Nat.le_of_ble_eq_true rfl) rfl rfl ?_
          refine V.aload_n (q := 75) F dX3_readNumber_74 rfl rfl rfl ?_
          refine V.dup (q := 76) F dX3_readNumber_75 rfl rfl ?_
          refine V.get (q := 79) F 0 6 dX3_readNumber_76 rfl rfl rfl inX3_readNumber_X3 (by decide) (List.mem_of_getElem? (i := 2) rfl) rfl ?_
          refine V.iconst (q := 80) F dX3_readNumber_79 rfl ?_
          refine V.iadd (q := 81) F dX3_readNumber_80 rfl ?_
          refine V.put (q := 84) (ws' := [_, _, _]) (fs' := [_, _, _, _, _, _, _]) F 0 6 dX3_readNumber_81 rfl rfl rfl inX3_readNumber_X3 tyX3 tyX3_ok nmX3 (by decide) (List.mem_of_getElem? (i := 2) rfl) rfl rfl rfl rfl (Nat.le_of_ble_eq_true rfl) rfl rfl ?_
          refine V.mask [true, true, true, true, false] (lo' := [_, _, _, _, _]) rfl ?_
          exact J84 _ _ (by omega) (by omega)
  · refine V.iconst (q := 22) F dX3_readNumber_21 rfl ?_
    exact V.iret F T dX3_readNumber_22 (fnI (by omega) (by rw [if_neg (by omega)])) [hrd, htx, htr] rfl rfl

abbrev YX3_readHours (l : Launch) (G : Gx) : Sx := (cX3_readHours, 2, RX3, wsX3_readHours, rmD 3, l, G)
theorem ydX3_readHours : ydOk yX3_readHours 1 := by decide +kernel
theorem inX3_readHours_X3 : ∀ w ∈ wsX30, w ∈ wsX3_readHours := fun _ h => List.mem_cons_of_mem _ (List.mem_append_left _ (List.mem_append_right _ h))
set_option maxHeartbeats 1000000 in
set_option maxRecDepth 20000 in
theorem c_X3_readHours (l : Launch) (G : Gx) (hrd htx htr hrr hri hrp hrh : Nat) (t hs : Int → Int) (n E P e : Int) (hn : 0 ≤ n ∧ n ≤ 80) (ht : ∀ j, 0 ≤ t j ∧ t j < 65536) (hP : 0 ≤ P ∧ P ≤ n) (he : 0 ≤ e ∧ e < 16) : Ct l G yX3_readHours wsX3_readHours (rmD 3) [.ref hrd, .int (zI e)] [(hrd, .inr (3, [.ref htx, .ref hrr, .ref hri, .ref hrp, .ref hrh, .int (zI E), .int (zI P)])), (htx, .inr (5, [.ref htr, .int (zI n)])), (htr, aC G 80 t), (hrh, aI G 16 hs)] (Fn (some (.int (zI (if 0 ≤ hoz t n P then 1 else 0)))) [(hrd, .inr (3, [.ref htx, .ref hrr, .ref hri, .ref hrp, .ref hrh, .int (zI E), .int (zI (posz (hoz t n P)))])), (htx, .inr (5, [.ref htr, .int (zI n)])), (htr, aC G 80 t), (hrh, aI G 16 (upz hs e (hvz t n P)))]) := by
  refine Ct.intro (cc := cX3_readHours) (maxL := 2) (ret := (some .boolean)) (lo0 := [some (.ref hrd), some (.int (zI e))]) (by decide +kernel) rfl ⟨rfl, rfl⟩ (Nat.le_of_ble_eq_true rfl) rfl ?_
  intro X F T
  change Fx X (YX3_readHours l G) at F
  change V X (YX3_readHours l G) 0 0 0 _ _ _
  have n2 := nez_rng t n (p := P + 1) (lo := 1) (hi := 99) (by omega) (by omega)
  have v2 := nvz_rng t n (p := P + 1) (lo := 1) (hi := 99) (by omega) (by omega) (by omega)
  have e1 : hoz t n P = if 0 ≤ P ∧ sgz t n P = 42 then nez t n (P + 1) 1 99 else P := rfl
  have e2 : hvz t n P = if sgz t n P = 42 then nvz t n (P + 1) 1 99 else 1 := rfl
  have e3 : posz (hoz t n P) = if 0 ≤ hoz t n P then hoz t n P else -1 - hoz t n P := rfl
  have e4 := sgz_lt (t := t) (n := n) (p := P)
  refine V.aload_n (q := 1) F dX3_readHours_0 rfl rfl rfl ?_
  refine V.get (q := 4) F 0 4 dX3_readHours_1 rfl rfl rfl inX3_readHours_X3 (by decide) (List.mem_of_getElem? (i := 1) rfl) rfl ?_
  refine V.iload_n (q := 5) F dX3_readHours_4 rfl rfl rfl ?_
  refine V.iconst (q := 6) F dX3_readHours_5 rfl ?_
  refine V.iast (q := 7) (ws' := [_, _, _, _]) F 3 dX3_readHours_6 rfl rfl (by decide) (by omega) rfl ?_
  refine V.aload_n (q := 8) F dX3_readHours_7 rfl rfl rfl ?_
  refine V.bipush (q := 10) F dX3_readHours_8 rfl (by decide) ?_
  refine V.callV (q := 13) F [0, 1, 2] 0 dX3_readHours_10 rfl (c_X3_take l G hrd htx htr hrr hri hrp hrh _ _ _ _ _ (by omega) ht (by omega) (by omega)) gX3_readHours_X3_take rfl rfl ydX3_take ⟨Nat.le_of_ble_eq_true rfl, Nat.le_of_ble_eq_true rfl⟩ (ci := 3) rfl rfl rfl rfl (Nat.le_of_ble_eq_true rfl) rfl rfl ⟨Nat.zero_le _, Nat.zero_le _⟩ (kkf (st' := [_]) (ws' := [_, _, _, _]) rfl rfl ?_)
  refine V.if_ne (q := 16) (tgt := 18) F dX3_readHours_13 rfl (by decide) (by omega) (fun k13 => ?_) (fun k13 => ?_)
  · have k14 : sgz t n P = 42 := by omega
    rw [if_pos k14]
    have e5 := e4 (by omega)
    rw [if_pos ⟨hP.1, k14⟩] at e1
    rw [if_pos k14] at e2
    refine V.aload_n (q := 19) F dX3_readHours_18 rfl rfl rfl ?_
    refine V.get (q := 22) F 0 4 dX3_readHours_19 rfl rfl rfl inX3_readHours_X3 (by decide) (List.mem_of_getElem? (i := 1) rfl) rfl ?_
    refine V.iload_n (q := 23) F dX3_readHours_22 rfl rfl rfl ?_
    refine V.aload_n (q := 24) F dX3_readHours_23 rfl rfl rfl ?_
    refine V.iconst (q := 25) F dX3_readHours_24 rfl ?_
    refine V.bipush (q := 27) F dX3_readHours_25 rfl (by decide) ?_
    refine V.callV (q := 30) F [0, 1, 2] 0 dX3_readHours_27 rfl (c_X3_readNumber l G hrd htx htr hrr hri hrp hrh _ _ _ _ _ _ (by omega) ht (by omega) (by omega)) gX3_readHours_X3_readNumber rfl rfl ydX3_readNumber ⟨Nat.le_of_ble_eq_true rfl, Nat.le_of_ble_eq_true rfl⟩ (ci := 3) rfl rfl rfl rfl (Nat.le_of_ble_eq_true rfl) rfl rfl ⟨Nat.zero_le _, Nat.zero_le _⟩ (kkf (st' := [_, _, _]) (ws' := [_, _, _, _]) rfl rfl ?_)
    refine V.iast (q := 31) (ws' := [_, _, _, _]) F 3 dX3_readHours_30 rfl rfl (by decide) (by omega) rfl ?_
    refine V.aload_n (q := 32) F dX3_readHours_31 rfl rfl rfl ?_
    refine V.get (q := 35) F 0 4 dX3_readHours_32 rfl rfl rfl inX3_readHours_X3 (by decide) (List.mem_of_getElem? (i := 1) rfl) rfl ?_
    refine V.iload_n (q := 36) F dX3_readHours_35 rfl rfl rfl ?_
    refine V.iald (q := 37) F 3 dX3_readHours_36 rfl rfl (by decide) (by omega) ?_
    rw [upz_eq]
    refine V.if_le (q := 40) (tgt := 44) F dX3_readHours_37 rfl (by decide) (by omega) (fun k37 => ?_) (fun k37 => ?_)
    · refine V.iconst (q := 45) F dX3_readHours_44 rfl ?_
      exact V.zret F T (by omega) dX3_readHours_45 (fnI (by omega) (wcons (objEq (vcons rfl (vcons rfl (vcons rfl (vcons rfl (vcons rfl (vcons rfl (vcons (congrArg (fun z => Value.int (zI z)) (by omega)) rfl)))))))) (wcons rfl (wcons rfl (wcons (arEqI (by rw [upz_upz, ← e2])) rfl))))) [hrd, htx, htr, hrh] rfl rfl
    · refine V.iconst (q := 41) F dX3_readHours_40 rfl ?_
      refine V.goto (tgt := 45) F dX3_readHours_41 (by decide) ?_
      exact V.zret F T (by omega) dX3_readHours_45 (fnI (by omega) (wcons (objEq (vcons rfl (vcons rfl (vcons rfl (vcons rfl (vcons rfl (vcons rfl (vcons (congrArg (fun z => Value.int (zI z)) (by omega)) rfl)))))))) (wcons rfl (wcons rfl (wcons (arEqI (by rw [upz_upz, ← e2])) rfl))))) [hrd, htx, htr, hrh] rfl rfl
  · refine V.iconst (q := 17) F dX3_readHours_16 rfl ?_
    exact V.zret F T (by omega) dX3_readHours_17 (fnI (by omega) (wcons (objEq (vcons rfl (vcons rfl (vcons rfl (vcons rfl (vcons rfl (vcons rfl (vcons (congrArg (fun z => Value.int (zI z)) (by omega)) rfl)))))))) (wcons rfl (wcons rfl (wcons (arEqI (by rw [e2, if_neg (by omega)])) rfl))))) [hrd, htx, htr, hrh] rfl rfl

abbrev YX3_readWind (l : Launch) (G : Gx) : Sx := (cX3_readWind, 3, RX3, wsX3_readWind, rmD 3, l, G)
theorem ydX3_readWind : ydOk yX3_readWind 1 := by decide +kernel
theorem inX3_readWind_X3 : ∀ w ∈ wsX30, w ∈ wsX3_readWind := fun _ h => List.mem_cons_of_mem _ (List.mem_append_left _ (List.mem_append_right _ h))
set_option maxHeartbeats 1000000 in
set_option maxRecDepth 20000 in
theorem c_X3_readWind (l : Launch) (G : Gx) (hrd htx htr hrr hri hrp hrh : Nat) (t ds ss : Int → Int) (n E P e : Int) (hn : 0 ≤ n ∧ n ≤ 80) (ht : ∀ j, 0 ≤ t j ∧ t j < 65536) (hP : 0 ≤ P ∧ P ≤ n) (he : 0 ≤ e ∧ e < 16) : Ct l G yX3_readWind wsX3_readWind (rmD 3) [.ref hrd, .int (zI e)] [(hrd, .inr (3, [.ref htx, .ref hrr, .ref hri, .ref hrp, .ref hrh, .int (zI E), .int (zI P)])), (htx, .inr (5, [.ref htr, .int (zI n)])), (htr, aC G 80 t), (hri, aI G 16 ds), (hrp, aI G 16 ss)] (Fn (some (.int (zI (if 0 ≤ wez t n P then 1 else 0)))) [(hrd, .inr (3, [.ref htx, .ref hrr, .ref hri, .ref hrp, .ref hrh, .int (zI E), .int (zI (posz (wez t n P)))])), (htx, .inr (5, [.ref htr, .int (zI n)])), (htr, aC G 80 t), (hri, aI G 16 (upz ds e (wdv t n P))), (hrp, aI G 16 (upz ss e (wsv t n P)))]) := by
  refine Ct.intro (cc := cX3_readWind) (maxL := 3) (ret := (some .boolean)) (lo0 := [some (.ref hrd), some (.int (zI e)), none]) (by decide +kernel) rfl ⟨rfl, rfl⟩ (Nat.le_of_ble_eq_true rfl) rfl ?_
  intro X F T
  change Fx X (YX3_readWind l G) at F
  change V X (YX3_readWind l G) 0 0 0 _ _ _
  have n1 := nez_rng t n (p := P) (lo := 0) (hi := 15) (by omega) (by omega)
  have v1 := nvz_rng t n (p := P) (lo := 0) (hi := 15) (by omega) (by omega) (by omega)
  have e3 : posz (wez t n P) = if 0 ≤ wez t n P then wez t n P else -1 - wez t n P := rfl
  have e4 := sgz_lt (t := t) (n := n) (p := P)
  have w0 : wez t n P = if P < 0 then P else if sgz t n P = 99 then P + 1 else nez t n (bez t n (nez t n P 0 15) 64) 1 99 := rfl
  have w1 : wdv t n P = if sgz t n P = 99 then -1 else if 0 ≤ nez t n P 0 15 ∧ sgz t n (nez t n P 0 15) = 64 then nvz t n P 0 15 else -1 := rfl
  have w2 : wsv t n P = if sgz t n P = 99 then 0 else if 0 ≤ nez t n P 0 15 ∧ sgz t n (nez t n P 0 15) = 64 then nvz t n (nez t n P 0 15 + 1) 1 99 else 0 := rfl
  refine V.aload_n (q := 1) F dX3_readWind_0 rfl rfl rfl ?_
  refine V.get (q := 4) F 0 2 dX3_readWind_1 rfl rfl rfl inX3_readWind_X3 (by decide) (List.mem_of_getElem? (i := 1) rfl) rfl ?_
  refine V.iload_n (q := 5) F dX3_readWind_4 rfl rfl rfl ?_
  refine V.iconst (q := 6) F dX3_readWind_5 rfl ?_
  refine V.iast (q := 7) (ws' := [_, _, _, _, _]) F 3 dX3_readWind_6 rfl rfl (by decide) (by omega) rfl ?_
  refine V.aload_n (q := 8) F dX3_readWind_7 rfl rfl rfl ?_
  refine V.get (q := 11) F 0 3 dX3_readWind_8 rfl rfl rfl inX3_readWind_X3 (by decide) (List.mem_of_getElem? (i := 2) rfl) rfl ?_
  refine V.iload_n (q := 12) F dX3_readWind_11 rfl rfl rfl ?_
  refine V.iconst (q := 13) F dX3_readWind_12 rfl ?_
  refine V.iast (q := 14) (ws' := [_, _, _, _, _]) F 4 dX3_readWind_13 rfl rfl (by decide) (by omega) rfl ?_
  refine V.aload_n (q := 15) F dX3_readWind_14 rfl rfl rfl ?_
  refine V.bipush (q := 17) F dX3_readWind_15 rfl (by decide) ?_
  refine V.callV (q := 20) F [0, 1, 2] 0 dX3_readWind_17 rfl (c_X3_take l G hrd htx htr hrr hri hrp hrh _ _ _ _ _ (by omega) ht (by omega) (by omega)) gX3_readWind_X3_take rfl rfl ydX3_take ⟨Nat.le_of_ble_eq_true rfl, Nat.le_of_ble_eq_true rfl⟩ (ci := 3) rfl rfl rfl rfl (Nat.le_of_ble_eq_true rfl) rfl rfl ⟨Nat.zero_le _, Nat.zero_le _⟩ (kkf (st' := [_]) (ws' := [_, _, _, _, _]) rfl rfl ?_)
  refine V.if_eq (q := 23) (tgt := 25) F dX3_readWind_20 rfl (by decide) (by omega) (fun k20 => ?_) (fun k20 => ?_)
  · have hc9 : ¬ sgz t n P = 99 := by omega
    rw [if_neg (show ¬ P < 0 by omega), if_neg hc9] at w0
    rw [if_neg hc9] at w1 w2
    rw [if_neg hc9]
    have wA := wez_A (t := t) (n := n) hP.1 hc9
    have wB := wez_B (t := t) (n := n) hP.1 hc9
    refine V.aload_n (q := 26) F dX3_readWind_25 rfl rfl rfl ?_
    refine V.iconst (q := 27) F dX3_readWind_26 rfl ?_
    refine V.bipush (q := 29) F dX3_readWind_27 rfl (by decide) ?_
    refine V.callV (q := 32) F [0, 1, 2] 0 dX3_readWind_29 rfl (c_X3_readNumber l G hrd htx htr hrr hri hrp hrh _ _ _ _ _ _ (by omega) ht (by omega) (by omega)) gX3_readWind_X3_readNumber rfl rfl ydX3_readNumber ⟨Nat.le_of_ble_eq_true rfl, Nat.le_of_ble_eq_true rfl⟩ (ci := 3) rfl rfl rfl rfl (Nat.le_of_ble_eq_true rfl) rfl rfl ⟨Nat.zero_le _, Nat.zero_le _⟩ (kkf (st' := [_]) (ws' := [_, _, _, _, _]) rfl rfl ?_)
    refine V.istore_n (q := 33) (lo' := [_, _, _]) F dX3_readWind_32 rfl rfl (Nat.le_of_ble_eq_true rfl) rfl rfl ?_
    refine V.iload_n (q := 34) F dX3_readWind_33 rfl rfl rfl ?_
    refine V.if_lt (q := 37) (tgt := 46) F dX3_readWind_34 rfl (by decide) (by omega) (fun k34 => ?_) (fun k34 => ?_)
    · refine V.iconst (q := 47) F dX3_readWind_46 rfl ?_
      exact V.zret F T (by omega) dX3_readWind_47 (fnI (by omega) (wcons (objEq (vcons rfl (vcons rfl (vcons rfl (vcons rfl (vcons rfl (vcons rfl (vcons (congrArg (fun z => Value.int (zI z)) (by omega)) rfl)))))))) (wcons rfl (wcons rfl (wcons (arEqI (by rw [w1, if_neg (by omega)])) (wcons (arEqI (by rw [w2, if_neg (by omega)])) rfl)))))) [hrd, htx, htr, hri, hrp] rfl rfl
    · have hx9 : 0 ≤ nez t n P 0 15 := by omega
      rw [if_pos hx9]
      refine V.aload_n (q := 38) F dX3_readWind_37 rfl rfl rfl ?_
      refine V.bipush (q := 40) F dX3_readWind_38 rfl (by decide) ?_
      refine V.callV (q := 43) F [0, 1, 2] 0 dX3_readWind_40 rfl (c_X3_take l G hrd htx htr hrr hri hrp hrh _ _ _ _ _ (by omega) ht (by omega) (by omega)) gX3_readWind_X3_take rfl rfl ydX3_take ⟨Nat.le_of_ble_eq_true rfl, Nat.le_of_ble_eq_true rfl⟩ (ci := 3) rfl rfl rfl rfl (Nat.le_of_ble_eq_true rfl) rfl rfl ⟨Nat.zero_le _, Nat.zero_le _⟩ (kkf (st' := [_]) (ws' := [_, _, _, _, _]) rfl rfl ?_)
      refine V.if_ne (q := 46) (tgt := 48) F dX3_readWind_43 rfl (by decide) (by omega) (fun k43 => ?_) (fun k43 => ?_)
      · have hs9 : sgz t n (nez t n P 0 15) = 64 := by omega
        rw [if_pos hs9]
        rw [if_pos ⟨hx9, hs9⟩] at w1 w2
        have l9 := sgz_lt (t := t) (n := n) (p := nez t n P 0 15) (by omega)
        have n2 := nez_rng t n (p := nez t n P 0 15 + 1) (lo := 1) (hi := 99) (by omega) (by omega)
        have v2 := nvz_rng t n (p := nez t n P 0 15 + 1) (lo := 1) (hi := 99) (by omega) (by omega) (by omega)
        rw [show bez t n (nez t n P 0 15) 64 = nez t n P 0 15 + 1 by unfold bez; rw [if_neg (by omega), if_pos hs9]] at w0
        refine V.aload_n (q := 49) F dX3_readWind_48 rfl rfl rfl ?_
        refine V.get (q := 52) F 0 2 dX3_readWind_49 rfl rfl rfl inX3_readWind_X3 (by decide) (List.mem_of_getElem? (i := 1) rfl) rfl ?_
        refine V.iload_n (q := 53) F dX3_readWind_52 rfl rfl rfl ?_
        refine V.iload_n (q := 54) F dX3_readWind_53 rfl rfl rfl ?_
        refine V.iast (q := 55) (ws' := [_, _, _, _, _]) F 3 dX3_readWind_54 rfl rfl (by decide) (by omega) rfl ?_
        refine V.aload_n (q := 56) F dX3_readWind_55 rfl rfl rfl ?_
        refine V.get (q := 59) F 0 3 dX3_readWind_56 rfl rfl rfl inX3_readWind_X3 (by decide) (List.mem_of_getElem? (i := 2) rfl) rfl ?_
        refine V.iload_n (q := 60) F dX3_readWind_59 rfl rfl rfl ?_
        refine V.aload_n (q := 61) F dX3_readWind_60 rfl rfl rfl ?_
        refine V.iconst (q := 62) F dX3_readWind_61 rfl ?_
        refine V.bipush (q := 64) F dX3_readWind_62 rfl (by decide) ?_
        refine V.callV (q := 67) F [0, 1, 2] 0 dX3_readWind_64 rfl (c_X3_readNumber l G hrd htx htr hrr hri hrp hrh _ _ _ _ _ _ (by omega) ht (by omega) (by omega)) gX3_readWind_X3_readNumber rfl rfl ydX3_readNumber ⟨Nat.le_of_ble_eq_true rfl, Nat.le_of_ble_eq_true rfl⟩ (ci := 3) rfl rfl rfl rfl (Nat.le_of_ble_eq_true rfl) rfl rfl ⟨Nat.zero_le _, Nat.zero_le _⟩ (kkf (st' := [_, _, _]) (ws' := [_, _, _, _, _]) rfl rfl ?_)
        refine V.iast (q := 68) (ws' := [_, _, _, _, _]) F 4 dX3_readWind_67 rfl rfl (by decide) (by omega) rfl ?_
        refine V.aload_n (q := 69) F dX3_readWind_68 rfl rfl rfl ?_
        refine V.get (q := 72) F 0 3 dX3_readWind_69 rfl rfl rfl inX3_readWind_X3 (by decide) (List.mem_of_getElem? (i := 2) rfl) rfl ?_
        refine V.iload_n (q := 73) F dX3_readWind_72 rfl rfl rfl ?_
        skip
        refine V.iald (q := 74) F 4 dX3_readWind_73 rfl rfl (by decide) (by omega) ?_
        rw [upz_eq]
        refine V.if_le (q := 77) (tgt := 81) F dX3_readWind_74 rfl (by decide) (by omega) (fun k74 => ?_) (fun k74 => ?_)
        · refine V.iconst (q := 82) F dX3_readWind_81 rfl ?_
          exact V.zret F T (by omega) dX3_readWind_82 (fnI (by omega) (wcons (objEq (vcons rfl (vcons rfl (vcons rfl (vcons rfl (vcons rfl (vcons rfl (vcons (congrArg (fun z => Value.int (zI z)) (by omega)) rfl)))))))) (wcons rfl (wcons rfl (wcons (arEqI (by rw [upz_upz, w1])) (wcons (arEqI (by rw [upz_upz, w2])) rfl)))))) [hrd, htx, htr, hri, hrp] rfl rfl
        · refine V.iconst (q := 78) F dX3_readWind_77 rfl ?_
          refine V.goto (tgt := 82) F dX3_readWind_78 (by decide) ?_
          exact V.zret F T (by omega) dX3_readWind_82 (fnI (by omega) (wcons (objEq (vcons rfl (vcons rfl (vcons rfl (vcons rfl (vcons rfl (vcons rfl (vcons (congrArg (fun z => Value.int (zI z)) (by omega)) rfl)))))))) (wcons rfl (wcons rfl (wcons (arEqI (by rw [upz_upz, w1])) (wcons (arEqI (by rw [upz_upz, w2])) rfl)))))) [hrd, htx, htr, hri, hrp] rfl rfl
      · refine V.iconst (q := 47) F dX3_readWind_46 rfl ?_
        exact V.zret F T (by omega) dX3_readWind_47 (fnI (by omega) (wcons (objEq (vcons rfl (vcons rfl (vcons rfl (vcons rfl (vcons rfl (vcons rfl (vcons (congrArg (fun z => Value.int (zI z)) (by omega)) rfl)))))))) (wcons rfl (wcons rfl (wcons (arEqI (by rw [w1, if_neg (by omega)])) (wcons (arEqI (by rw [w2, if_neg (by omega)])) rfl)))))) [hrd, htx, htr, hri, hrp] rfl rfl
  · refine V.iconst (q := 24) F dX3_readWind_23 rfl ?_
    exact V.zret F T (by omega) dX3_readWind_24 (fnI (by omega) (wcons (objEq (vcons rfl (vcons rfl (vcons rfl (vcons rfl (vcons rfl (vcons rfl (vcons (congrArg (fun z => Value.int (zI z)) (by omega)) rfl)))))))) (wcons rfl (wcons rfl (wcons (arEqI (by rw [w1, if_pos (by omega)])) (wcons (arEqI (by rw [w2, if_pos (by omega)])) rfl)))))) [hrd, htx, htr, hri, hrp] rfl rfl

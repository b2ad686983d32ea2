/-! what every module needs: rooms, ends, sums -/
def rmD (d : Nat) : Room := { frames := d, cells := 0, slots := 0, locals := 40 * d }
theorem fnI {v e : Int} {ws wc : va_W} (h : v = e) (hw : ws = wc) : Fn (some (.int (zI e))) wc (some (.int (zI v))) ws := ⟨by rw [h], hw⟩
def mkMask : List Bool → List (Option Value) → List (Option Value)
  | true :: b, x :: l => x :: mkMask b l
  | false :: b, _ :: l => none :: mkMask b l
  | _, _ => []
theorem mkMask_get : ∀ (b : List Bool) (l : List (Option Value)) (i : Nat) (v : Value), (mkMask b l)[i]? = some (some v) → l[i]? = some (some v)
  | true :: b, x :: l, 0, v, h => h
  | true :: b, x :: l, i + 1, v, h => mkMask_get b l i v (by simpa [mkMask] using h)
  | false :: b, x :: l, 0, v, h => by simp [mkMask] at h
  | false :: b, x :: l, i + 1, v, h => by simpa using mkMask_get b l i v (by simpa [mkMask] using h)
  | true :: b, [], i, v, h => by simp [mkMask] at h
  | false :: b, [], i, v, h => by simp [mkMask] at h
  | [], l, i, v, h => by cases l <;> simp [mkMask] at h
theorem V.mask {X : Cx} {Y : Sx} {k n pc : Nat} {lo lo' : List (Option Value)} {st : List Value} {ws : va_W} (b : List Bool) (h : mkMask b lo = lo') (kk : V X Y k n pc lo' st ws) : V X Y k n pc lo st ws := by
  subst h
  obtain ⟨p, e, s, m, args, below, meth, c, Q, A⟩ := X
  obtain ⟨cc, nL, own, Ts, R, l, G⟩ := Y
  intro H locs ls hls hP hD hS
  refine kk H locs ls ⟨hls.1, hls.2.1, fun q hq => hls.2.2 q ?_⟩ hP hD hS
  obtain ⟨k, h1, h2⟩ := (lvl_mem _ 0 q).mp hq
  exact (lvl_mem _ 0 q).mpr ⟨k, mkMask_get b lo k _ h1, h2⟩
/-- the sum of f from a to before b -/
def sm (f : Int → Int) (a : Int) : Nat → Int
  | 0 => 0
  | n + 1 => sm f a n + f (a + (n : Int))
def sz (f : Int → Int) (a b : Int) : Int := sm f a (b - a).toNat
theorem sz_nil (f : Int → Int) {a b : Int} (h : b ≤ a) : sz f a b = 0 := by
  unfold sz
  rw [show (b - a).toNat = 0 by omega]
  rfl
theorem sz_self (f : Int → Int) (a : Int) : sz f a a = 0 := sz_nil f (Int.le_refl a)
theorem sz_succ (f : Int → Int) {a b : Int} (h : a ≤ b) : sz f a (b + 1) = sz f a b + f b := by
  unfold sz
  rw [show (b + 1 - a).toNat = (b - a).toNat + 1 by omega, sm]
  congr 2
  omega
theorem sm_congr {f g : Int → Int} {a : Int} : ∀ (n : Nat), (∀ j : Int, a ≤ j → j < a + n → f j = g j) → sm f a n = sm g a n
  | 0, _ => rfl
  | n + 1, h => by rw [sm, sm, sm_congr n (fun j h1 h2 => h j h1 (by omega)), h (a + n) (by omega) (by omega)]
theorem sz_congr {f g : Int → Int} {a b : Int} (h : ∀ j : Int, a ≤ j → j < b → f j = g j) : sz f a b = sz g a b := by
  by_cases hab : a ≤ b
  · exact sm_congr _ (fun j h1 h2 => h j h1 (by omega))
  · rw [sz_nil f (by omega), sz_nil g (by omega)]
theorem sm_nonneg {f : Int → Int} {a : Int} : ∀ (n : Nat), (∀ j : Int, a ≤ j → j < a + n → 0 ≤ f j) → 0 ≤ sm f a n
  | 0, _ => Int.le_refl 0
  | n + 1, h => by
    have h1 := sm_nonneg n (fun j h1 h2 => h j h1 (by omega))
    have h2 := h (a + n) (by omega) (by omega)
    rw [sm]; omega
theorem sz_nonneg {f : Int → Int} {a b : Int} (h : ∀ j : Int, a ≤ j → j < b → 0 ≤ f j) : 0 ≤ sz f a b := by
  by_cases hab : a ≤ b
  · exact sm_nonneg _ (fun j h1 h2 => h j h1 (by omega))
  · rw [sz_nil f (by omega)]; exact Int.le_refl 0
theorem sz_split (f : Int → Int) {a b c : Int} (h1 : a ≤ b) (h2 : b ≤ c) : sz f a c = sz f a b + sz f b c := by
  have key : ∀ n : Nat, sz f a (b + n) = sz f a b + sz f b (b + n) := by
    intro n
    induction n with
    | zero => simp [sz_self]
    | succ n ih =>
      have e : b + ((n + 1 : Nat) : Int) = (b + n) + 1 := by omega
      rw [e, sz_succ f (by omega), sz_succ f (by omega), ih]; omega
  have := key (c - b).toNat
  rw [show b + ((c - b).toNat : Int) = c by omega] at this
  exact this
theorem sz_one (f : Int → Int) (a : Int) : sz f a (a + 1) = f a := by rw [sz_succ f (Int.le_refl a), sz_self]; omega
theorem sz_add (f g : Int → Int) (a b : Int) : sz (fun j => f j + g j) a b = sz f a b + sz g a b := by
  by_cases hab : a ≤ b
  · have key : ∀ n : Nat, sz (fun j => f j + g j) a (a + n) = sz f a (a + n) + sz g a (a + n) := by
      intro n
      induction n with
      | zero => simp [sz_self]
      | succ n ih =>
        have e : a + ((n + 1 : Nat) : Int) = (a + n) + 1 := by omega
        rw [e, sz_succ _ (by omega), sz_succ _ (by omega), sz_succ _ (by omega), ih]; omega
    have := key (b - a).toNat
    rw [show a + ((b - a).toNat : Int) = b by omega] at this
    exact this
  · rw [sz_nil _ (by omega), sz_nil _ (by omega), sz_nil _ (by omega)]; rfl
theorem sz_upz_out (f : Int → Int) {i v a b : Int} (h : i < a ∨ b ≤ i) : sz (upz f i v) a b = sz f a b := sz_congr (fun j h1 h2 => upz_ne f i v (by omega))
theorem sz_upz_in (f : Int → Int) {i v a b : Int} (h1 : a ≤ i) (h2 : i < b) : sz (upz f i v) a b = sz f a b + v - f i := by
  rw [sz_split _ h1 (by omega : i ≤ b), sz_split _ (by omega : i ≤ i + 1) (by omega : i + 1 ≤ b), sz_one, upz_eq, sz_upz_out f (Or.inr (Int.le_refl i)), sz_upz_out f (Or.inl (by omega)),
    sz_split f h1 (by omega : i ≤ b), sz_split f (by omega : i ≤ i + 1) (by omega : i + 1 ≤ b), sz_one]
  omega
/-- one summand is at most the sum, where all are at least 0 -/
theorem sz_mem {f : Int → Int} {a b i : Int} (h : ∀ j : Int, a ≤ j → j < b → 0 ≤ f j) (h1 : a ≤ i) (h2 : i < b) : f i ≤ sz f a b := by
  rw [sz_split f h1 (by omega : i ≤ b), sz_split f (by omega : i ≤ i + 1) (by omega : i + 1 ≤ b), sz_one]
  have := sz_nonneg (f := f) (a := a) (b := i) (fun j h3 h4 => h j h3 (by omega))
  have := sz_nonneg (f := f) (a := i + 1) (b := b) (fun j h3 h4 => h j (by omega) h4)
  omega
theorem sz_mono {f : Int → Int} {a b c e : Int} (h : ∀ j : Int, a ≤ j → j < e → 0 ≤ f j) (h1 : a ≤ b) (h2 : b ≤ c) (h3 : c ≤ e) : sz f b c ≤ sz f a e := by
  rw [sz_split f h1 (by omega : b ≤ e), sz_split f h2 h3]
  have := sz_nonneg (f := f) (a := a) (b := b) (fun j h4 h5 => h j h4 (by omega))
  have := sz_nonneg (f := f) (a := c) (b := e) (fun j h4 h5 => h j (by omega) h5)
  omega
theorem wcons {a a' : Nat × va_E} {l l' : va_W} (h : a = a') (k : l = l') : a :: l = a' :: l' := by rw [h, k]
theorem vcons {a a' : Value} {l l' : List Value} (h : a = a') (k : l = l') : a :: l = a' :: l' := by rw [h, k]
theorem objEq {a ci : Nat} {fs fs' : List Value} (h : fs = fs') : ((a, .inr (ci, fs)) : Nat × va_E) = (a, .inr (ci, fs')) := by rw [h]
theorem arEqI {a N : Nat} {G : Gx} {g g' : Int → Int} (h : g = g') : ((a, aI G N g) : Nat × va_E) = (a, aI G N g') := by rw [h]
theorem arEqJ {a N : Nat} {G : Gx} {g g' : Int → Int} (h : g = g') : ((a, aJ G N g) : Nat × va_E) = (a, aJ G N g') := by rw [h]
theorem arEqZ {a N : Nat} {G : Gx} {g g' : Int → Int} (h : g = g') : ((a, aZ G N g) : Nat × va_E) = (a, aZ G N g') := by rw [h]
theorem arEqC {a N : Nat} {G : Gx} {g g' : Int → Int} (h : g = g') : ((a, aC G N g) : Nat × va_E) = (a, aC G N g') := by rw [h]

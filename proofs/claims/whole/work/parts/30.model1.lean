/-! THE MODEL: s is the desk's row packed, four hours to a number -/
theorem zL_sm14 : ((zI 14).toInt64 &&& 63) = zL 14 ∧ ((zI 0).toInt64 &&& 63) = zL 0 ∧ ((zI 28).toInt64 &&& 63) = zL 28 ∧ ((zI 42).toInt64 &&& 63) = zL 42 := by decide +kernel
theorem zL_shrk {S : Int} (hS : 0 ≤ S ∧ S < 9223372036854775808) (D : Int64) (k : Nat) (hD : (D.toBitVec.smod 64).toNat = k) : zL S >>> D = zL (S / 2 ^ k) := by
  apply Int64.toInt_inj.mp
  have h1 : (zL S >>> D).toInt = (zL S).toInt >>> k := by
    show ((zL S).toBitVec.sshiftRight (D.toBitVec.smod 64).toNat).toInt = _
    rw [hD, BitVec.toInt_sshiftRight]
    rfl
  have h2 : 0 ≤ S / 2 ^ k := Int.ediv_nonneg hS.1 (Int.pow_nonneg (by omega))
  have h3 : S / 2 ^ k ≤ S := Int.ediv_le_self _ hS.1
  rw [h1, zL_toInt (by omega) hS.2, zL_toInt (by omega) (by omega), Int.shiftRight_eq_div_pow]
  norm_cast
theorem zL_shr {S : Int} (hS : 0 ≤ S ∧ S < 9223372036854775808) {i : Int} (hi : 0 ≤ i ∧ i < 4) : zL S >>> ((zI (14 * i)).toInt64 &&& 63) = zL (if i = 0 then S else if i = 1 then S / 16384 else if i = 2 then S / 268435456 else S / 4398046511104) := by
  rcases (show i = 0 ∨ i = 1 ∨ i = 2 ∨ i = 3 by omega) with rfl | rfl | rfl | rfl
  · rw [show (14 * 0 : Int) = 0 from rfl, zL_sm14.2.1, zL_shrk hS (zL 0) 0 (by decide +kernel)]; simp
  · rw [show (14 * 1 : Int) = 14 from rfl, zL_sm14.1, zL_shrk hS (zL 14) 14 (by decide +kernel)]; rfl
  · rw [show (14 * 2 : Int) = 28 from rfl, zL_sm14.2.2.1, zL_shrk hS (zL 28) 28 (by decide +kernel)]; rfl
  · rw [show (14 * 3 : Int) = 42 from rfl, zL_sm14.2.2.2, zL_shrk hS (zL 42) 42 (by decide +kernel)]; rfl
theorem zL_shlk (h : Int) (D : Int64) (k : Nat) (m : Int) (hD : (D.toBitVec.smod 64).toNat = k) (hm : BitVec.twoPow 64 k = BitVec.ofInt 64 m) : zL h <<< D = zL (h * m) := by
  apply Int64.toBitVec_inj.mp
  show (zL h).toBitVec <<< (D.toBitVec.smod 64).toNat = _
  rw [hD, BitVec.shiftLeft_eq_mul_twoPow, hm]
  show BitVec.ofInt 64 h * BitVec.ofInt 64 m = BitVec.ofInt 64 (h * m)
  rw [BitVec.ofInt_mul]
def p14 (i : Int) : Int := if i = 0 then 1 else if i = 1 then 16384 else if i = 2 then 268435456 else 4398046511104
theorem zL_shl (h : Int) {i : Int} (hi : 0 ≤ i ∧ i < 4) : zL h <<< ((zI (14 * i)).toInt64 &&& 63) = zL (h * p14 i) := by
  rcases (show i = 0 ∨ i = 1 ∨ i = 2 ∨ i = 3 by omega) with rfl | rfl | rfl | rfl
  · rw [show (14 * 0 : Int) = 0 from rfl, zL_sm14.2.1, zL_shlk h (zL 0) 0 1 (by decide +kernel) (by decide +kernel)]; rfl
  · rw [show (14 * 1 : Int) = 14 from rfl, zL_sm14.1, zL_shlk h (zL 14) 14 16384 (by decide +kernel) (by decide +kernel)]; rfl
  · rw [show (14 * 2 : Int) = 28 from rfl, zL_sm14.2.2.1, zL_shlk h (zL 28) 28 268435456 (by decide +kernel) (by decide +kernel)]; rfl
  · rw [show (14 * 3 : Int) = 42 from rfl, zL_sm14.2.2.2, zL_shlk h (zL 42) 42 4398046511104 (by decide +kernel) (by decide +kernel)]; rfl
theorem zL_and {x : Int} (hx : 0 ≤ x) : zL x &&& zL 16383 = zL (x % 16384) := by
  apply Int64.toBitVec_inj.mp
  rw [Int64.toBitVec_and]
  show BitVec.ofInt 64 x &&& BitVec.ofInt 64 16383 = BitVec.ofInt 64 (x % 16384)
  obtain ⟨n, rfl⟩ : ∃ n : Nat, x = n := ⟨x.toNat, by omega⟩
  rw [show ((n : Int) % 16384) = ((n % 16384 : Nat) : Int) by omega, show (16383 : Int) = ((16383 : Nat) : Int) from rfl, BitVec.ofInt_natCast, BitVec.ofInt_natCast, BitVec.ofInt_natCast]
  apply BitVec.eq_of_toNat_eq
  rw [BitVec.toNat_and, BitVec.toNat_ofNat, BitVec.toNat_ofNat, BitVec.toNat_ofNat, show 16383 % 2 ^ 64 = 2 ^ 14 - 1 by decide, Nat.and_two_pow_sub_one_eq_mod]
  omega
/-- four hours in one number; what stands behind the log is shifted -/
def pkd (a : Int → Int) (q : Int) : Int := if q < 6336 then a (4 * q) + 16384 * a (4 * q + 1) + 268435456 * a (4 * q + 2) + 4398046511104 * a (4 * q + 3) else a (q + 19024)
def Rel (a sv : Int → Int) : Prop := ∀ q : Int, 0 ≤ q → q < 7157 → sv q = pkd a q
/-- the bounds that a desk's row has: hours below 16384 -/
def Bnd (a : Int → Int) : Prop := ∀ j : Int, 0 ≤ j → j < 25344 → 0 ≤ a j ∧ a j < 16384
theorem Inv.bnd {a : Int → Int} (h : Inv a) : Bnd a := by
  intro j h1 h2
  have h3 := h.2.1 (j / 1584) (by omega) (by omega)
  have h4 : a j ≤ sz a (j / 1584 * 1584) (j / 1584 * 1584 + 1584) := sz_mem (fun q _ _ => h.1 q) (by omega) (by omega)
  have h5 := h.1 (25360 + j / 1584)
  exact ⟨h.1 j, by omega⟩
theorem pkd_rng {a : Int → Int} (h : Bnd a) {q : Int} (hq : 0 ≤ q ∧ q < 6336) : 0 ≤ pkd a q ∧ pkd a q < 9223372036854775808 := by
  have h0 := h (4 * q) (by omega) (by omega)
  have h1 := h (4 * q + 1) (by omega) (by omega)
  have h2 := h (4 * q + 2) (by omega) (by omega)
  have h3 := h (4 * q + 3) (by omega) (by omega)
  unfold pkd
  rw [if_pos hq.2]
  omega
theorem pkd_get {a : Int → Int} (h : Bnd a) {c : Int} (hc : 0 ≤ c ∧ c < 25344) : (if c % 4 = 0 then pkd a (c / 4) else if c % 4 = 1 then pkd a (c / 4) / 16384 else if c % 4 = 2 then pkd a (c / 4) / 268435456 else pkd a (c / 4) / 4398046511104) % 16384 = a c := by
  have h0 := h (4 * (c / 4)) (by omega) (by omega)
  have h1 := h (4 * (c / 4) + 1) (by omega) (by omega)
  have h2 := h (4 * (c / 4) + 2) (by omega) (by omega)
  have h3 := h (4 * (c / 4) + 3) (by omega) (by omega)
  have e : pkd a (c / 4) = a (4 * (c / 4)) + 16384 * a (4 * (c / 4) + 1) + 268435456 * a (4 * (c / 4) + 2) + 4398046511104 * a (4 * (c / 4) + 3) := if_pos (by omega)
  rw [e]
  rcases (show c % 4 = 0 ∨ c % 4 = 1 ∨ c % 4 = 2 ∨ c % 4 = 3 by omega) with g | g | g | g
  · rw [if_pos g, show a c = a (4 * (c / 4)) from congrArg a (by omega)]; omega
  · rw [if_neg (by omega), if_pos g, show a c = a (4 * (c / 4) + 1) from congrArg a (by omega)]; omega
  · rw [if_neg (by omega), if_neg (by omega), if_pos g, show a c = a (4 * (c / 4) + 2) from congrArg a (by omega)]; omega
  · rw [if_neg (by omega), if_neg (by omega), if_neg (by omega), show a c = a (4 * (c / 4) + 3) from congrArg a (by omega)]; omega
theorem upz_4 (a : Int → Int) {c v k : Int} (hk : 0 ≤ k ∧ k < 4) : upz a c v (4 * (c / 4) + k) = if c % 4 = k then v else a (4 * (c / 4) + k) := by
  unfold upz
  by_cases h : c % 4 = k
  · rw [if_pos h, if_pos (by omega)]
  · rw [if_neg h, if_neg (by omega)]
theorem pkd_put {a sv : Int → Int} (hR : Rel a sv) {c v : Int} (hc : 0 ≤ c ∧ c < 25344) : Rel (upz a c v) (upz sv (c / 4) (sv (c / 4) + (v - a c) * p14 (c % 4))) := by
  intro q h1 h2
  by_cases hq : q = c / 4
  · subst hq
    have e1 : pkd a (c / 4) = a (4 * (c / 4)) + 16384 * a (4 * (c / 4) + 1) + 268435456 * a (4 * (c / 4) + 2) + 4398046511104 * a (4 * (c / 4) + 3) := if_pos (by omega)
    have e2 : pkd (upz a c v) (c / 4) = upz a c v (4 * (c / 4)) + 16384 * upz a c v (4 * (c / 4) + 1) + 268435456 * upz a c v (4 * (c / 4) + 2) + 4398046511104 * upz a c v (4 * (c / 4) + 3) := if_pos (by omega)
    have e3 : upz a c v (4 * (c / 4)) = if c % 4 = 0 then v else a (4 * (c / 4)) := by
      have := upz_4 a (c := c) (v := v) (k := 0) (by omega)
      rw [Int.add_zero] at this
      exact this
    have ac : ∀ k, c % 4 = k → a c = a (4 * (c / 4) + k) := fun k h => congrArg a (by omega)
    rw [upz_eq, hR _ h1 h2, e1, e2, e3, upz_4 a (by omega), upz_4 a (by omega), upz_4 a (by omega)]
    rcases (show c % 4 = 0 ∨ c % 4 = 1 ∨ c % 4 = 2 ∨ c % 4 = 3 by omega) with g | g | g | g
    · have := ac 0 g
      rw [Int.add_zero] at this
      rw [this, g, show p14 0 = 1 from rfl]; omega
    · rw [ac 1 g, g, show p14 1 = 16384 from rfl]; omega
    · rw [ac 2 g, g, show p14 2 = 268435456 from rfl]; omega
    · rw [ac 3 g, g, show p14 3 = 4398046511104 from rfl]; omega
  · rw [upz_ne _ _ _ hq, hR q h1 h2]
    unfold pkd
    by_cases h3 : q < 6336
    · rw [if_pos h3, if_pos h3, upz_ne _ _ _ (by omega), upz_ne _ _ _ (by omega), upz_ne _ _ _ (by omega), upz_ne _ _ _ (by omega)]
    · rw [if_neg h3, if_neg h3, upz_ne _ _ _ (by omega)]
theorem shr_pos {S i : Int} (hS : 0 ≤ S) : 0 ≤ (if i = 0 then S else if i = 1 then S / 16384 else if i = 2 then S / 268435456 else S / 4398046511104) := by
  split
  · exact hS
  · split
    · omega
    · split <;> omega
theorem fil_congr {h h' f : Int → Int} {i : Int} (e : ∀ j, 0 ≤ j → j < i → h j = h' j) : fil h f i = fil h' f i := by
  funext j
  simp only [fil]
  by_cases h2 : 0 ≤ j ∧ j < i
  · rw [if_pos h2, if_pos h2, e j h2.1 h2.2]
  · rw [if_neg h2, if_neg h2]
theorem Rel.put {a sv : Int → Int} (hR : Rel a sv) {k v : Int} (hk : 6336 ≤ k ∧ k < 7157) : Rel (upz a (k + 19024) v) (upz sv k v) := by
  intro q h1 h2
  by_cases hq : q = k
  · subst hq
    rw [upz_eq]
    unfold pkd
    rw [if_neg (by omega), upz_eq]
  · rw [upz_ne _ _ _ hq, hR q h1 h2]
    unfold pkd
    by_cases h3 : q < 6336
    · rw [if_pos h3, if_pos h3, upz_ne _ _ _ (by omega), upz_ne _ _ _ (by omega), upz_ne _ _ _ (by omega), upz_ne _ _ _ (by omega)]
    · rw [if_neg h3, if_neg h3, upz_ne _ _ _ (by omega)]
theorem Rel.at {a sv : Int → Int} (hR : Rel a sv) {k : Int} (hk : 6336 ≤ k ∧ k < 7157) : sv k = a (k + 19024) := by
  rw [hR k (by omega) hk.2]
  exact if_neg (by omega)
theorem Bnd.put {a : Int → Int} (h : Bnd a) {c v : Int} (hv : 0 ≤ v ∧ v < 16384) : Bnd (upz a c v) := by
  intro j h1 h2
  unfold upz
  split
  · exact hv
  · exact h j h1 h2
def knd (a : Int → Int) (v : Int) : Int := if v < a 26176 then 0 else if v < a 26177 then 1 else 2
/-- the hours of a part among the first k cells of a log -/
def qkz (a : Int → Int) (r k p : Int) : Int := sz (fun c => if c / 99 * 3 + knd a (c % 99 + 1) = p then a (r * 1584 + c) else 0) 0 k
theorem knd_rng (a : Int → Int) (v : Int) : 0 ≤ knd a v ∧ knd a v ≤ 2 := by
  unfold knd
  split
  · omega
  · split <;> omega
theorem qkz_s (a f : Int → Int) {r k : Int} (hk : 0 ≤ k ∧ k < 1584) : upz (fil (qkz a r k) f 48) (3 * (k / 99) + knd a (k % 99 + 1)) (fil (qkz a r k) f 48 (3 * (k / 99) + knd a (k % 99 + 1)) + a (r * 1584 + k)) = fil (qkz a r (k + 1)) f 48 := by
  have hn := knd_rng a (k % 99 + 1)
  funext j
  have hs : ∀ p, qkz a r (k + 1) p = qkz a r k p + (if k / 99 * 3 + knd a (k % 99 + 1) = p then a (r * 1584 + k) else 0) := fun p => sz_succ _ hk.1
  by_cases hj : j = 3 * (k / 99) + knd a (k % 99 + 1)
  · subst hj
    rw [upz_eq, fil_in _ _ (by omega) (by omega), fil_in _ _ (by omega) (by omega), hs, if_pos (by omega)]
  · rw [upz_ne _ _ _ hj]
    simp only [fil]
    by_cases h2 : 0 ≤ j ∧ j < 48
    · rw [if_pos h2, if_pos h2, hs, if_neg (by omega), Int.add_zero]
    · rw [if_neg h2, if_neg h2]
theorem sz_zero {f : Int → Int} {a b : Int} (h : ∀ j, a ≤ j → j < b → f j = 0) : sz f a b = 0 := by
  rw [sz_congr (g := fun _ => 0) h]
  by_cases hab : a ≤ b
  · have key : ∀ n : Nat, sz (fun _ => 0) a (a + n) = 0 := by
      intro n
      induction n with
      | zero => simp [sz_self]
      | succ n ih =>
        rw [show a + ((n + 1 : Nat) : Int) = (a + n) + 1 by omega, sz_succ _ (by omega), ih]; rfl
    have := key (b - a).toNat
    rw [show a + ((b - a).toNat : Int) = b by omega] at this
    exact this
  · exact sz_nil _ (by omega)
theorem qkz_all {a : Int → Int} (hI : Inv a) {r p : Int} (hp : 0 ≤ p ∧ p < 48) : qkz a r 1584 p = pthz a r p := by
  have hs := hI.s
  unfold qkz
  rw [sz_split _ (show 0 ≤ p / 3 * 99 by omega) (show p / 3 * 99 ≤ 1584 by omega), sz_split _ (show p / 3 * 99 ≤ p / 3 * 99 + 99 by omega) (show p / 3 * 99 + 99 ≤ 1584 by omega)]
  rw [sz_zero (a := 0) (b := p / 3 * 99) (fun j h1 h2 => by have := knd_rng a (j % 99 + 1); rw [if_neg (by omega)]),
    sz_zero (a := p / 3 * 99 + 99) (b := 1584) (fun j h1 h2 => by have := knd_rng a (j % 99 + 1); rw [if_neg (by omega)])]
  have e1 : sz (fun c => if c / 99 * 3 + knd a (c % 99 + 1) = p then a (r * 1584 + c) else 0) (p / 3 * 99) (p / 3 * 99 + 99) = sz (fun v => if knd a v = p % 3 then a (r * 1584 + p / 3 * 99 + v - 1) else 0) 1 100 := by
    have e2 := sz_shift (fun c => if c / 99 * 3 + knd a (c % 99 + 1) = p then a (r * 1584 + c) else 0) (p / 3 * 99 - 1) 1 100
    rw [show p / 3 * 99 - 1 + 1 = p / 3 * 99 by omega, show p / 3 * 99 - 1 + 100 = p / 3 * 99 + 99 by omega] at e2
    rw [← e2]
    refine sz_congr (fun j h1 h2 => ?_)
    have e3 : (p / 3 * 99 - 1 + j) / 99 = p / 3 := by omega
    have e4 : (p / 3 * 99 - 1 + j) % 99 + 1 = j := by omega
    rw [e3, e4]
    by_cases hk : knd a j = p % 3
    · rw [if_pos (by omega), if_pos hk]; exact congrArg a (by omega)
    · rw [if_neg (by omega), if_neg hk]
  rw [e1]
  unfold pthz phz hbz
  have ek : ∀ v, knd a v = if v < a 26176 then 0 else if v < a 26177 then 1 else 2 := fun v => rfl
  rcases (show p % 3 = 0 ∨ p % 3 = 1 ∨ p % 3 = 2 by omega) with g | g | g
  · rw [g]
    simp only [if_true]
    rw [if_neg (by omega), show (26176 + 0 : Int) = 26176 from rfl, sz_split _ (show 1 ≤ a 26176 by omega) (show a 26176 ≤ 100 by omega), sz_zero (a := a 26176) (b := 100) (fun j h1 h2 => by rw [if_neg (by rw [ek]; omega)])]
    rw [sz_congr (g := fun v => a (r * 1584 + p / 3 * 99 + v - 1)) (fun j h1 h2 => by rw [if_pos (by rw [ek]; omega)])]
    omega
  · rw [g]
    rw [if_neg (by omega), if_neg (by omega), show (26176 + (1 - 1) : Int) = 26176 from rfl, show (26176 + 1 : Int) = 26177 from rfl, sz_split _ (show 1 ≤ a 26176 by omega) (show a 26176 ≤ 100 by omega), sz_split _ (show a 26176 ≤ a 26177 by omega) (show a 26177 ≤ 100 by omega), sz_zero (a := 1) (b := a 26176) (fun j h1 h2 => by rw [if_neg (by rw [ek]; omega)]), sz_zero (a := a 26177) (b := 100) (fun j h1 h2 => by rw [if_neg (by rw [ek]; omega)])]
    rw [sz_congr (g := fun v => a (r * 1584 + p / 3 * 99 + v - 1)) (fun j h1 h2 => by rw [if_pos (by rw [ek]; omega)])]
    omega
  · rw [g]
    rw [if_neg (by omega), if_pos rfl, show (26176 + (2 - 1) : Int) = 26177 from rfl, sz_split _ (show 1 ≤ a 26177 by omega) (show a 26177 ≤ 100 by omega), sz_zero (a := 1) (b := a 26177) (fun j h1 h2 => by rw [if_neg (by rw [ek]; omega)])]
    rw [sz_congr (g := fun v => a (r * 1584 + p / 3 * 99 + v - 1)) (fun j h1 h2 => by rw [if_pos (by rw [ek]; omega)])]
    omega
theorem wnd_all {a : Int → Int} (hI : Inv a) {r : Int} (hr : 0 ≤ r ∧ r < 16) : sz (fun c => a (r * 1584 + c)) 0 1584 = a (25344 + r) := by
  rw [sz_shift, (hI.2.1 r hr.1 hr.2).1, Int.add_zero]

abbrev YX7_in (l : Launch) (G : Gx) : Sx := (cX7_in, 3, RX7, wsX7_in, rmD 0, l, G)
theorem ydX7_in : ydOk yX7_in 3 := by decide +kernel
set_option maxHeartbeats 1000000 in
set_option maxRecDepth 20000 in
theorem c_X7_in (l : Launch) (G : Gx)  (v lo hi : Int) (h1 : -2147483648 ≤ v ∧ v < 2147483648) (h2 : -2147483648 ≤ lo ∧ lo < 2147483648) (h3 : -2147483648 ≤ hi ∧ hi < 2147483648) : Ct l G yX7_in wsX7_in (rmD 0) [.int (zI v), .int (zI lo), .int (zI hi)] [] (Fn (some (.int (zI (if lo ≤ v ∧ v ≤ hi then 1 else 0)))) []) := by
  refine Ct.intro (cc := cX7_in) (maxL := 3) (ret := (some .boolean)) (lo0 := [some (.int (zI v)), some (.int (zI lo)), some (.int (zI hi))]) (by decide +kernel) rfl ⟨rfl, rfl⟩ (Nat.le_of_ble_eq_true rfl) rfl ?_
  intro X F T
  change Fx X (YX7_in l G) at F
  change V X (YX7_in l G) 0 0 0 _ _ _
  refine V.iload_n (q := 1) F dX7_in_0 rfl rfl rfl ?_
  refine V.iload_n (q := 2) F dX7_in_1 rfl rfl rfl ?_
  refine V.icmp_lt (q := 5) (tgt := 14) F dX7_in_2 rfl (by decide) (by omega) (fun k2 => ?_) (fun k2 => ?_)
  · refine V.iconst (q := 15) F dX7_in_14 rfl ?_
    exact V.zret F T (by omega) dX7_in_15 (fnI (by omega) rfl) [] rfl rfl
  · refine V.iload_n (q := 6) F dX7_in_5 rfl rfl rfl ?_
    refine V.iload_n (q := 7) F dX7_in_6 rfl rfl rfl ?_
    refine V.icmp_gt (q := 10) (tgt := 14) F dX7_in_7 rfl (by decide) (by omega) (fun k7 => ?_) (fun k7 => ?_)
    · refine V.iconst (q := 15) F dX7_in_14 rfl ?_
      exact V.zret F T (by omega) dX7_in_15 (fnI (by omega) rfl) [] rfl rfl
    · refine V.iconst (q := 11) F dX7_in_10 rfl ?_
      refine V.goto (tgt := 15) F dX7_in_11 (by decide) ?_
      exact V.zret F T (by omega) dX7_in_15 (fnI (by omega) rfl) [] rfl rfl

abbrev YX7_isFour (l : Launch) (G : Gx) : Sx := (cX7_isFour, 1, RX7, wsX7_isFour, rmD 1, l, G)
theorem ydX7_isFour : ydOk yX7_isFour 1 := by decide +kernel
set_option maxHeartbeats 1000000 in
set_option maxRecDepth 20000 in
theorem c_X7_isFour (l : Launch) (G : Gx)  (v : Int) (h1 : -2147483648 ≤ v ∧ v < 2147483648) : Ct l G yX7_isFour wsX7_isFour (rmD 1) [.int (zI v)] [] (Fn (some (.int (zI (if 0 ≤ v ∧ v ≤ 3 then 1 else 0)))) []) := by
  refine Ct.intro (cc := cX7_isFour) (maxL := 1) (ret := (some .boolean)) (lo0 := [some (.int (zI v))]) (by decide +kernel) rfl ⟨rfl, rfl⟩ (Nat.le_of_ble_eq_true rfl) rfl ?_
  intro X F T
  change Fx X (YX7_isFour l G) at F
  change V X (YX7_isFour l G) 0 0 0 _ _ _
  refine V.iload_n (q := 1) F dX7_isFour_0 rfl rfl rfl ?_
  refine V.iconst (q := 2) F dX7_isFour_1 rfl ?_
  refine V.iconst (q := 3) F dX7_isFour_2 rfl ?_
  refine V.callS (q := 6) F [] dX7_isFour_3 rfl (c_X7_in l G  _ _ _ (by omega) (by omega) (by omega)) gX7_isFour_X7_in rfl ydX7_in ⟨Nat.le_of_ble_eq_true rfl, Nat.le_of_ble_eq_true rfl⟩ rfl rfl (Nat.le_of_ble_eq_true rfl) rfl rfl ⟨Nat.zero_le _, Nat.zero_le _⟩ (kkf (st' := [_]) (ws' := []) rfl rfl ?_)
  exact V.zret F T (by omega) dX7_isFour_6 (fnI rfl rfl) [] rfl rfl

abbrev YX7_isDirection (l : Launch) (G : Gx) : Sx := (cX7_isDirection, 1, RX7, wsX7_isDirection, rmD 1, l, G)
theorem ydX7_isDirection : ydOk yX7_isDirection 1 := by decide +kernel
set_option maxHeartbeats 1000000 in
set_option maxRecDepth 20000 in
theorem c_X7_isDirection (l : Launch) (G : Gx)  (v : Int) (h1 : -2147483648 ≤ v ∧ v < 2147483648) : Ct l G yX7_isDirection wsX7_isDirection (rmD 1) [.int (zI v)] [] (Fn (some (.int (zI (if 0 ≤ v ∧ v ≤ 15 then 1 else 0)))) []) := by
  refine Ct.intro (cc := cX7_isDirection) (maxL := 1) (ret := (some .boolean)) (lo0 := [some (.int (zI v))]) (by decide +kernel) rfl ⟨rfl, rfl⟩ (Nat.le_of_ble_eq_true rfl) rfl ?_
  intro X F T
  change Fx X (YX7_isDirection l G) at F
  change V X (YX7_isDirection l G) 0 0 0 _ _ _
  refine V.iload_n (q := 1) F dX7_isDirection_0 rfl rfl rfl ?_
  refine V.iconst (q := 2) F dX7_isDirection_1 rfl ?_
  refine V.bipush (q := 4) F dX7_isDirection_2 rfl (by decide) ?_
  refine V.callS (q := 7) F [] dX7_isDirection_4 rfl (c_X7_in l G  _ _ _ (by omega) (by omega) (by omega)) gX7_isDirection_X7_in rfl ydX7_in ⟨Nat.le_of_ble_eq_true rfl, Nat.le_of_ble_eq_true rfl⟩ rfl rfl (Nat.le_of_ble_eq_true rfl) rfl rfl ⟨Nat.zero_le _, Nat.zero_le _⟩ (kkf (st' := [_]) (ws' := []) rfl rfl ?_)
  exact V.zret F T (by omega) dX7_isDirection_7 (fnI rfl rfl) [] rfl rfl

abbrev YX7_isPart (l : Launch) (G : Gx) : Sx := (cX7_isPart, 2, RX7, wsX7_isPart, rmD 2, l, G)
theorem ydX7_isPart : ydOk yX7_isPart 2 := by decide +kernel
set_option maxHeartbeats 1000000 in
set_option maxRecDepth 20000 in
theorem c_X7_isPart (l : Launch) (G : Gx)  (d k : Int) (h1 : -2147483648 ≤ d ∧ d < 2147483648) (h2 : -2147483648 ≤ k ∧ k < 2147483648) : Ct l G yX7_isPart wsX7_isPart (rmD 2) [.int (zI d), .int (zI k)] [] (Fn (some (.int (zI (if (0 ≤ d ∧ d ≤ 15) ∧ (0 ≤ k ∧ k ≤ 2) then 1 else 0)))) []) := by
  refine Ct.intro (cc := cX7_isPart) (maxL := 2) (ret := (some .boolean)) (lo0 := [some (.int (zI d)), some (.int (zI k))]) (by decide +kernel) rfl ⟨rfl, rfl⟩ (Nat.le_of_ble_eq_true rfl) rfl ?_
  intro X F T
  change Fx X (YX7_isPart l G) at F
  change V X (YX7_isPart l G) 0 0 0 _ _ _
  refine V.iload_n (q := 1) F dX7_isPart_0 rfl rfl rfl ?_
  refine V.callS (q := 4) F [] dX7_isPart_1 rfl (c_X7_isDirection l G  _ (by omega)) gX7_isPart_X7_isDirection rfl ydX7_isDirection ⟨Nat.le_of_ble_eq_true rfl, Nat.le_of_ble_eq_true rfl⟩ rfl rfl (Nat.le_of_ble_eq_true rfl) rfl rfl ⟨Nat.zero_le _, Nat.zero_le _⟩ (kkf (st' := [_]) (ws' := []) rfl rfl ?_)
  refine V.if_eq (q := 7) (tgt := 20) F dX7_isPart_4 rfl (by decide) (by omega) (fun k4 => ?_) (fun k4 => ?_)
  · refine V.iconst (q := 21) F dX7_isPart_20 rfl ?_
    exact V.zret F T (by omega) dX7_isPart_21 (fnI (by omega) rfl) [] rfl rfl
  · refine V.iload_n (q := 8) F dX7_isPart_7 rfl rfl rfl ?_
    refine V.iconst (q := 9) F dX7_isPart_8 rfl ?_
    refine V.iconst (q := 10) F dX7_isPart_9 rfl ?_
    refine V.callS (q := 13) F [] dX7_isPart_10 rfl (c_X7_in l G  _ _ _ (by omega) (by omega) (by omega)) gX7_isPart_X7_in rfl ydX7_in ⟨Nat.le_of_ble_eq_true rfl, Nat.le_of_ble_eq_true rfl⟩ rfl rfl (Nat.le_of_ble_eq_true rfl) rfl rfl ⟨Nat.zero_le _, Nat.zero_le _⟩ (kkf (st' := [_]) (ws' := []) rfl rfl ?_)
    refine V.if_eq (q := 16) (tgt := 20) F dX7_isPart_13 rfl (by decide) (by omega) (fun k13 => ?_) (fun k13 => ?_)
    · refine V.iconst (q := 21) F dX7_isPart_20 rfl ?_
      exact V.zret F T (by omega) dX7_isPart_21 (fnI (by omega) rfl) [] rfl rfl
    · refine V.iconst (q := 17) F dX7_isPart_16 rfl ?_
      refine V.goto (tgt := 21) F dX7_isPart_17 (by decide) ?_
      exact V.zret F T (by omega) dX7_isPart_21 (fnI (by omega) rfl) [] rfl rfl

abbrev YX7_roseOf (l : Launch) (G : Gx) : Sx := (cX7_roseOf, 2, RX7, wsX7_roseOf, rmD 2, l, G)
theorem ydX7_roseOf : ydOk yX7_roseOf 2 := by decide +kernel
set_option maxHeartbeats 1000000 in
set_option maxRecDepth 20000 in
theorem c_X7_roseOf (l : Launch) (G : Gx)  (p s : Int) (h1 : -2147483648 ≤ p ∧ p < 2147483648) (h2 : -2147483648 ≤ s ∧ s < 2147483648) : Ct l G yX7_roseOf wsX7_roseOf (rmD 2) [.int (zI p), .int (zI s)] [] (Fn (some (.int (zI (if (0 ≤ p ∧ p ≤ 3) ∧ (0 ≤ s ∧ s ≤ 3) then 4 * p + s else -1)))) []) := by
  refine Ct.intro (cc := cX7_roseOf) (maxL := 2) (ret := (some .int)) (lo0 := [some (.int (zI p)), some (.int (zI s))]) (by decide +kernel) rfl ⟨rfl, rfl⟩ (Nat.le_of_ble_eq_true rfl) rfl ?_
  intro X F T
  change Fx X (YX7_roseOf l G) at F
  change V X (YX7_roseOf l G) 0 0 0 _ _ _
  refine V.iload_n (q := 1) F dX7_roseOf_0 rfl rfl rfl ?_
  refine V.callS (q := 4) F [] dX7_roseOf_1 rfl (c_X7_isFour l G  _ (by omega)) gX7_roseOf_X7_isFour rfl ydX7_isFour ⟨Nat.le_of_ble_eq_true rfl, Nat.le_of_ble_eq_true rfl⟩ rfl rfl (Nat.le_of_ble_eq_true rfl) rfl rfl ⟨Nat.zero_le _, Nat.zero_le _⟩ (kkf (st' := [_]) (ws' := []) rfl rfl ?_)
  refine V.if_eq (q := 7) (tgt := 22) F dX7_roseOf_4 rfl (by decide) (by omega) (fun k4 => ?_) (fun k4 => ?_)
  · refine V.iconst (q := 23) F dX7_roseOf_22 rfl ?_
    exact V.iret F T dX7_roseOf_23 (fnI (by omega) rfl) [] rfl rfl
  · refine V.iload_n (q := 8) F dX7_roseOf_7 rfl rfl rfl ?_
    refine V.callS (q := 11) F [] dX7_roseOf_8 rfl (c_X7_isFour l G  _ (by omega)) gX7_roseOf_X7_isFour rfl ydX7_isFour ⟨Nat.le_of_ble_eq_true rfl, Nat.le_of_ble_eq_true rfl⟩ rfl rfl (Nat.le_of_ble_eq_true rfl) rfl rfl ⟨Nat.zero_le _, Nat.zero_le _⟩ (kkf (st' := [_]) (ws' := []) rfl rfl ?_)
    refine V.if_eq (q := 14) (tgt := 22) F dX7_roseOf_11 rfl (by decide) (by omega) (fun k11 => ?_) (fun k11 => ?_)
    · refine V.iconst (q := 23) F dX7_roseOf_22 rfl ?_
      exact V.iret F T dX7_roseOf_23 (fnI (by omega) rfl) [] rfl rfl
    · refine V.iconst (q := 15) F dX7_roseOf_14 rfl ?_
      refine V.iload_n (q := 16) F dX7_roseOf_15 rfl rfl rfl ?_
      refine V.imul (q := 17) F dX7_roseOf_16 rfl ?_
      refine V.iload_n (q := 18) F dX7_roseOf_17 rfl rfl rfl ?_
      refine V.iadd (q := 19) F dX7_roseOf_18 rfl ?_
      refine V.goto (tgt := 23) F dX7_roseOf_19 (by decide) ?_
      exact V.iret F T dX7_roseOf_23 (fnI (by omega) rfl) [] rfl rfl

abbrev YX7_cellOf (l : Launch) (G : Gx) : Sx := (cX7_cellOf, 3, RX7, wsX7_cellOf, rmD 0, l, G)
theorem ydX7_cellOf : ydOk yX7_cellOf 3 := by decide +kernel
set_option maxHeartbeats 1000000 in
set_option maxRecDepth 20000 in
theorem c_X7_cellOf (l : Launch) (G : Gx)  (r d v : Int)  : Ct l G yX7_cellOf wsX7_cellOf (rmD 0) [.int (zI r), .int (zI d), .int (zI v)] [] (Fn (some (.int (zI (1584 * r + 99 * d + v - 1)))) []) := by
  refine Ct.intro (cc := cX7_cellOf) (maxL := 3) (ret := (some .int)) (lo0 := [some (.int (zI r)), some (.int (zI d)), some (.int (zI v))]) (by decide +kernel) rfl ⟨rfl, rfl⟩ (Nat.le_of_ble_eq_true rfl) rfl ?_
  intro X F T
  change Fx X (YX7_cellOf l G) at F
  change V X (YX7_cellOf l G) 0 0 0 _ _ _
  refine V.sipush (q := 3) F dX7_cellOf_0 rfl (by decide) ?_
  refine V.iload_n (q := 4) F dX7_cellOf_3 rfl rfl rfl ?_
  refine V.imul (q := 5) F dX7_cellOf_4 rfl ?_
  refine V.bipush (q := 7) F dX7_cellOf_5 rfl (by decide) ?_
  refine V.iload_n (q := 8) F dX7_cellOf_7 rfl rfl rfl ?_
  refine V.imul (q := 9) F dX7_cellOf_8 rfl ?_
  refine V.iadd (q := 10) F dX7_cellOf_9 rfl ?_
  refine V.iload_n (q := 11) F dX7_cellOf_10 rfl rfl rfl ?_
  refine V.iadd (q := 12) F dX7_cellOf_11 rfl ?_
  refine V.iconst (q := 13) F dX7_cellOf_12 rfl ?_
  refine V.isub (q := 14) F dX7_cellOf_13 rfl ?_
  exact V.iret F T dX7_cellOf_14 (fnI rfl rfl) [] rfl rfl

abbrev YX7_num (l : Launch) (G : Gx) : Sx := (cX7_num, 2, RX7, wsX7_num, rmD 0, l, G)
theorem ydX7_num : ydOk yX7_num 1 := by decide +kernel
theorem inX7_num_X7 : ∀ w ∈ wsX70, w ∈ wsX7_num := fun _ h => List.mem_cons_of_mem _ (List.mem_append_right _ h)
set_option maxHeartbeats 1000000 in
set_option maxRecDepth 20000 in
theorem c_X7_num (l : Launch) (G : Gx) (hm ms mp mq mt mpa msh mo mtu : Nat) (sv : Int → Int) (kn kp ln k : Int) (h1 : 0 ≤ k ∧ k < 7157) : Ct l G yX7_num wsX7_num (rmD 0) [.ref hm, .int (zI k)] [(hm, .inr (7, [.ref ms, .ref mp, .int (zI kn), .ref mq, .int (zI kp), .ref mt, .int (zI ln), .ref mpa, .ref msh, .ref mo, .ref mtu])), (ms, aJ G 7157 sv)] (Fn (some (.int (zI (sv k)))) [(hm, .inr (7, [.ref ms, .ref mp, .int (zI kn), .ref mq, .int (zI kp), .ref mt, .int (zI ln), .ref mpa, .ref msh, .ref mo, .ref mtu])), (ms, aJ G 7157 sv)]) := by
  refine Ct.intro (cc := cX7_num) (maxL := 2) (ret := (some .int)) (lo0 := [some (.ref hm), some (.int (zI k))]) (by decide +kernel) rfl ⟨rfl, rfl⟩ (Nat.le_of_ble_eq_true rfl) rfl ?_
  intro X F T
  change Fx X (YX7_num l G) at F
  change V X (YX7_num l G) 0 0 0 _ _ _
  refine V.aload_n (q := 1) F dX7_num_0 rfl rfl rfl ?_
  refine V.get (q := 4) F 0 0 dX7_num_1 rfl rfl rfl inX7_num_X7 (by decide) (List.mem_of_getElem? (i := 1) rfl) rfl ?_
  refine V.iload_n (q := 5) F dX7_num_4 rfl rfl rfl ?_
  refine V.lald (q := 6) F 1 dX7_num_5 rfl rfl (by decide) (by omega) ?_
  refine V.l2i (q := 7) F dX7_num_6 rfl ?_
  exact V.iret F T dX7_num_7 (fnI rfl rfl) [hm, ms] rfl rfl

abbrev YX7_at (l : Launch) (G : Gx) : Sx := (cX7_at, 5, RX7, wsX7_at, rmD 1, l, G)
theorem ydX7_at : ydOk yX7_at 3 := by decide +kernel
theorem inX7_at_X7 : ∀ w ∈ wsX70, w ∈ wsX7_at := fun _ h => List.mem_cons_of_mem _ (List.mem_append_right _ h)
set_option maxHeartbeats 1000000 in
set_option maxRecDepth 20000 in
theorem c_X7_at (l : Launch) (G : Gx) (hm ms mp mq mt mpa msh mo mtu : Nat) (a sv : Int → Int) (kn kp ln r d v : Int) (hR : Rel a sv) (hB : Bnd a) (h1 : 0 ≤ r ∧ r < 16) (h2 : 0 ≤ d ∧ d < 16) (h3 : 1 ≤ v ∧ v ≤ 99) : Ct l G yX7_at wsX7_at (rmD 1) [.ref hm, .int (zI r), .int (zI d), .int (zI v)] [(hm, .inr (7, [.ref ms, .ref mp, .int (zI kn), .ref mq, .int (zI kp), .ref mt, .int (zI ln), .ref mpa, .ref msh, .ref mo, .ref mtu])), (ms, aJ G 7157 sv)] (Fn (some (.int (zI (a (r * 1584 + d * 99 + v - 1))))) [(hm, .inr (7, [.ref ms, .ref mp, .int (zI kn), .ref mq, .int (zI kp), .ref mt, .int (zI ln), .ref mpa, .ref msh, .ref mo, .ref mtu])), (ms, aJ G 7157 sv)]) := by
  refine Ct.intro (cc := cX7_at) (maxL := 5) (ret := (some .int)) (lo0 := [some (.ref hm), some (.int (zI r)), some (.int (zI d)), some (.int (zI v)), none]) (by decide +kernel) rfl ⟨rfl, rfl⟩ (Nat.le_of_ble_eq_true rfl) rfl ?_
  intro X F T
  change Fx X (YX7_at l G) at F
  change V X (YX7_at l G) 0 0 0 _ _ _
  have hc : 0 ≤ 1584 * r + 99 * d + v - 1 ∧ 1584 * r + 99 * d + v - 1 < 25344 := by omega
  have hpr := pkd_rng hB (q := (1584 * r + 99 * d + v - 1) / 4) (by omega)
  have hpg := pkd_get hB hc
  refine V.iload_n (q := 1) F dX7_at_0 rfl rfl rfl ?_
  refine V.iload_n (q := 2) F dX7_at_1 rfl rfl rfl ?_
  refine V.iload_n (q := 3) F dX7_at_2 rfl rfl rfl ?_
  refine V.callS (q := 6) F [] dX7_at_3 rfl (c_X7_cellOf l G  _ _ _ ) gX7_at_X7_cellOf rfl ydX7_cellOf ⟨Nat.le_of_ble_eq_true rfl, Nat.le_of_ble_eq_true rfl⟩ rfl rfl (Nat.le_of_ble_eq_true rfl) rfl rfl ⟨Nat.zero_le _, Nat.zero_le _⟩ (kkf (st' := [_]) (ws' := [_, _]) rfl rfl ?_)
  refine V.istore (q := 8) (lo' := [_, _, _, _, _]) F dX7_at_6 rfl (Nat.le_of_ble_eq_true rfl) rfl rfl ?_
  refine V.aload_n (q := 9) F dX7_at_8 rfl rfl rfl ?_
  refine V.get (q := 12) F 0 0 dX7_at_9 rfl rfl rfl inX7_at_X7 (by decide) (List.mem_of_getElem? (i := 1) rfl) rfl ?_
  refine V.iconst (q := 13) F dX7_at_12 rfl ?_
  refine V.iload (q := 15) F dX7_at_13 rfl rfl ?_
  refine V.iconst (q := 16) F dX7_at_15 rfl ?_
  refine V.idiv (q := 17) F dX7_at_16 rfl (by omega) ?_
  refine V.iadd (q := 18) F dX7_at_17 rfl ?_
  refine V.lald (q := 19) F 1 dX7_at_18 rfl rfl (by decide) (by omega) ?_
  refine V.bipush (q := 21) F dX7_at_19 rfl (by decide) ?_
  refine V.iload (q := 23) F dX7_at_21 rfl rfl ?_
  refine V.iconst (q := 24) F dX7_at_23 rfl ?_
  refine V.irem (q := 25) F dX7_at_24 rfl (by omega) ?_
  refine V.imul (q := 26) F dX7_at_25 rfl ?_
  rw [Int.zero_add, hR _ (by omega) (by omega)]
  refine V.lshrR (q := 27) F dX7_at_26 rfl (zL_shr hpr (by omega)) ?_
  refine V.ldc2 (q := 30) (v := 16383) (z := 16383) F dX7_at_27 rfl (List.mem_of_getElem? (i := 2) rfl) (by decide +kernel) ?_
  refine V.landR (q := 31) F dX7_at_30 rfl (zL_and (shr_pos hpr.1)) ?_
  rw [hpg]
  refine V.l2i (q := 32) F dX7_at_31 rfl ?_
  exact V.iret F T dX7_at_32 (fnI (congrArg a (by omega)) rfl) [hm, ms] rfl rfl

def PUp (G : Gx) (hm ms mp mq mt mpa msh mo mtu : Nat) (a : Int → Int) (kn kp ln : Int) : Option Value → va_W → Prop := fun q w => ∃ sv : Int → Int, q = none ∧ w = [(hm, .inr (7, [.ref ms, .ref mp, .int (zI kn), .ref mq, .int (zI kp), .ref mt, .int (zI ln), .ref mpa, .ref msh, .ref mo, .ref mtu])), (ms, aJ G 7157 sv)] ∧ Rel a sv

abbrev YX7_puts (l : Launch) (G : Gx) : Sx := (cX7_puts, 8, RX7, wsX7_puts, rmD 2, l, G)
theorem ydX7_puts : ydOk yX7_puts 4 := by decide +kernel
theorem inX7_puts_X7 : ∀ w ∈ wsX70, w ∈ wsX7_puts := fun _ h => List.mem_cons_of_mem _ (List.mem_append_right _ h)
set_option maxHeartbeats 1000000 in
set_option maxRecDepth 20000 in
theorem c_X7_puts (l : Launch) (G : Gx) (hm ms mp mq mt mpa msh mo mtu : Nat) (a sv : Int → Int) (kn kp ln r d v h : Int) (hR : Rel a sv) (hB : Bnd a) (h1 : 0 ≤ r ∧ r < 16) (h2 : 0 ≤ d ∧ d < 16) (h3 : 1 ≤ v ∧ v ≤ 99) (hh : 0 ≤ h ∧ h < 16384) : Ct l G yX7_puts wsX7_puts (rmD 2) [.ref hm, .int (zI r), .int (zI d), .int (zI v), .int (zI h)] [(hm, .inr (7, [.ref ms, .ref mp, .int (zI kn), .ref mq, .int (zI kp), .ref mt, .int (zI ln), .ref mpa, .ref msh, .ref mo, .ref mtu])), (ms, aJ G 7157 sv)] (PUp G hm ms mp mq mt mpa msh mo mtu (upz a (r * 1584 + d * 99 + v - 1) h) kn kp ln) := by
  refine Ct.intro (cc := cX7_puts) (maxL := 8) (ret := none) (lo0 := [some (.ref hm), some (.int (zI r)), some (.int (zI d)), some (.int (zI v)), some (.int (zI h)), none, none, none]) (by decide +kernel) rfl ⟨rfl, rfl⟩ (Nat.le_of_ble_eq_true rfl) rfl ?_
  intro X F T
  change Fx X (YX7_puts l G) at F
  change V X (YX7_puts l G) 0 0 0 _ _ _
  have hc : 0 ≤ 1584 * r + 99 * d + v - 1 ∧ 1584 * r + 99 * d + v - 1 < 25344 := by omega
  have hb9 := hB (r * 1584 + d * 99 + v - 1) (by omega) (by omega)
  refine V.iload_n (q := 1) F dX7_puts_0 rfl rfl rfl ?_
  refine V.iload_n (q := 2) F dX7_puts_1 rfl rfl rfl ?_
  refine V.iload_n (q := 3) F dX7_puts_2 rfl rfl rfl ?_
  refine V.callS (q := 6) F [] dX7_puts_3 rfl (c_X7_cellOf l G  _ _ _ ) gX7_puts_X7_cellOf rfl ydX7_cellOf ⟨Nat.le_of_ble_eq_true rfl, Nat.le_of_ble_eq_true rfl⟩ rfl rfl (Nat.le_of_ble_eq_true rfl) rfl rfl ⟨Nat.zero_le _, Nat.zero_le _⟩ (kkf (st' := [_]) (ws' := [_, _]) rfl rfl ?_)
  refine V.istore (q := 8) (lo' := [_, _, _, _, _, _, _, _]) F dX7_puts_6 rfl (Nat.le_of_ble_eq_true rfl) rfl rfl ?_
  refine V.iload (q := 10) F dX7_puts_8 rfl rfl ?_
  refine V.aload_n (q := 11) F dX7_puts_10 rfl rfl rfl ?_
  refine V.iload_n (q := 12) F dX7_puts_11 rfl rfl rfl ?_
  refine V.iload_n (q := 13) F dX7_puts_12 rfl rfl rfl ?_
  refine V.iload_n (q := 14) F dX7_puts_13 rfl rfl rfl ?_
  refine V.callV (q := 17) F [0, 1] 0 dX7_puts_14 rfl (c_X7_at l G hm ms mp mq mt mpa msh mo mtu _ _ _ _ _ _ _ _ hR hB (by omega) (by omega) (by omega)) gX7_puts_X7_at rfl rfl ydX7_at ⟨Nat.le_of_ble_eq_true rfl, Nat.le_of_ble_eq_true rfl⟩ (ci := 7) rfl rfl rfl rfl (Nat.le_of_ble_eq_true rfl) rfl rfl ⟨Nat.zero_le _, Nat.zero_le _⟩ (kkf (st' := [_, _]) (ws' := [_, _]) rfl rfl ?_)
  refine V.isub (q := 18) F dX7_puts_17 rfl ?_
  refine V.i2l (q := 19) F dX7_puts_18 rfl (by omega) ?_
  refine V.bipush (q := 21) F dX7_puts_19 rfl (by decide) ?_
  refine V.iload (q := 23) F dX7_puts_21 rfl rfl ?_
  refine V.iconst (q := 24) F dX7_puts_23 rfl ?_
  refine V.irem (q := 25) F dX7_puts_24 rfl (by omega) ?_
  refine V.imul (q := 26) F dX7_puts_25 rfl ?_
  refine V.lshlR (q := 27) F dX7_puts_26 rfl (zL_shl _ (by omega)) ?_
  refine V.lstore (q := 29) (lo' := [_, _, _, _, _, _, _, _]) F dX7_puts_27 rfl (Nat.le_of_ble_eq_true rfl) rfl rfl ?_
  refine V.aload_n (q := 30) F dX7_puts_29 rfl rfl rfl ?_
  refine V.get (q := 33) F 0 0 dX7_puts_30 rfl rfl rfl inX7_puts_X7 (by decide) (List.mem_of_getElem? (i := 1) rfl) rfl ?_
  refine V.iconst (q := 34) F dX7_puts_33 rfl ?_
  refine V.iload (q := 36) F dX7_puts_34 rfl rfl ?_
  refine V.iconst (q := 37) F dX7_puts_36 rfl ?_
  refine V.idiv (q := 38) F dX7_puts_37 rfl (by omega) ?_
  skip
  refine V.iadd (q := 39) F dX7_puts_38 rfl ?_
  refine V.dup2 (q := 40) F dX7_puts_39 rfl rfl rfl ?_
  refine V.lald (q := 41) F 1 dX7_puts_40 rfl rfl (by decide) (by omega) ?_
  refine V.lload (q := 43) F dX7_puts_41 rfl rfl ?_
  refine V.ladd (q := 44) F dX7_puts_43 rfl ?_
  refine V.last (q := 45) (ws' := [_, _]) F 1 dX7_puts_44 rfl rfl (by decide) (by omega) rfl ?_
  refine V.vret F T dX7_puts_45 ⟨_, rfl, rfl, ?_⟩ [hm, ms] rfl rfl
  rw [show (0 + (1584 * r + 99 * d + v - 1) / 4) = (1584 * r + 99 * d + v - 1) / 4 by omega, show r * 1584 + d * 99 + v - 1 = 1584 * r + 99 * d + v - 1 by omega]
  exact pkd_put hR hc

abbrev YX7_kindOf (l : Launch) (G : Gx) : Sx := (cX7_kindOf, 2, RX7, wsX7_kindOf, rmD 0, l, G)
theorem ydX7_kindOf : ydOk yX7_kindOf 1 := by decide +kernel
theorem inX7_kindOf_X7 : ∀ w ∈ wsX70, w ∈ wsX7_kindOf := fun _ h => List.mem_cons_of_mem _ (List.mem_append_right _ h)
set_option maxHeartbeats 1000000 in
set_option maxRecDepth 20000 in
theorem c_X7_kindOf (l : Launch) (G : Gx) (hm ms mp mq mt mpa msh mo mtu : Nat) (a sv : Int → Int) (kn kp ln v : Int) (hR : Rel a sv) (hset : 1 ≤ a 26176 ∧ a 26176 < a 26177 ∧ a 26177 ≤ 99) (h3 : 1 ≤ v ∧ v ≤ 99) : Ct l G yX7_kindOf wsX7_kindOf (rmD 0) [.ref hm, .int (zI v)] [(hm, .inr (7, [.ref ms, .ref mp, .int (zI kn), .ref mq, .int (zI kp), .ref mt, .int (zI ln), .ref mpa, .ref msh, .ref mo, .ref mtu])), (ms, aJ G 7157 sv)] (Fn (some (.int (zI (knd a v)))) [(hm, .inr (7, [.ref ms, .ref mp, .int (zI kn), .ref mq, .int (zI kp), .ref mt, .int (zI ln), .ref mpa, .ref msh, .ref mo, .ref mtu])), (ms, aJ G 7157 sv)]) := by
  refine Ct.intro (cc := cX7_kindOf) (maxL := 2) (ret := (some .int)) (lo0 := [some (.ref hm), some (.int (zI v))]) (by decide +kernel) rfl ⟨rfl, rfl⟩ (Nat.le_of_ble_eq_true rfl) rfl ?_
  intro X F T
  change Fx X (YX7_kindOf l G) at F
  change V X (YX7_kindOf l G) 0 0 0 _ _ _
  have g1 : sv 7152 = a 26176 := hR.at (by omega)
  have g2 : sv 7153 = a 26177 := hR.at (by omega)
  refine V.iload_n (q := 1) F dX7_kindOf_0 rfl rfl rfl ?_
  refine V.i2l (q := 2) F dX7_kindOf_1 rfl (by omega) ?_
  refine V.aload_n (q := 3) F dX7_kindOf_2 rfl rfl rfl ?_
  refine V.get (q := 6) F 0 0 dX7_kindOf_3 rfl rfl rfl inX7_kindOf_X7 (by decide) (List.mem_of_getElem? (i := 1) rfl) rfl ?_
  refine V.sipush (q := 9) F dX7_kindOf_6 rfl (by decide) ?_
  refine V.lald (q := 10) F 1 dX7_kindOf_9 rfl rfl (by decide) (by omega) ?_
  refine V.lcmp (q := 11) F dX7_kindOf_10 rfl (by omega) (fun c10 c10a c10b c10c c10d => ?_)
  refine V.if_ge (q := 14) (tgt := 18) F dX7_kindOf_11 rfl (by decide) (by omega) (fun k11 => ?_) (fun k11 => ?_)
  · refine V.iload_n (q := 19) F dX7_kindOf_18 rfl rfl rfl ?_
    refine V.i2l (q := 20) F dX7_kindOf_19 rfl (by omega) ?_
    refine V.aload_n (q := 21) F dX7_kindOf_20 rfl rfl rfl ?_
    refine V.get (q := 24) F 0 0 dX7_kindOf_21 rfl rfl rfl inX7_kindOf_X7 (by decide) (List.mem_of_getElem? (i := 1) rfl) rfl ?_
    refine V.sipush (q := 27) F dX7_kindOf_24 rfl (by decide) ?_
    refine V.lald (q := 28) F 1 dX7_kindOf_27 rfl rfl (by decide) (by omega) ?_
    refine V.lcmp (q := 29) F dX7_kindOf_28 rfl (by omega) (fun c28 c28a c28b c28c c28d => ?_)
    refine V.if_ge (q := 32) (tgt := 36) F dX7_kindOf_29 rfl (by decide) (by omega) (fun k29 => ?_) (fun k29 => ?_)
    · refine V.iconst (q := 37) F dX7_kindOf_36 rfl ?_
      exact V.iret F T dX7_kindOf_37 (fnI (by unfold knd; omega) rfl) [hm, ms] rfl rfl
    · refine V.iconst (q := 33) F dX7_kindOf_32 rfl ?_
      refine V.goto (tgt := 37) F dX7_kindOf_33 (by decide) ?_
      exact V.iret F T dX7_kindOf_37 (fnI (by unfold knd; omega) rfl) [hm, ms] rfl rfl
  · refine V.iconst (q := 15) F dX7_kindOf_14 rfl ?_
    refine V.goto (tgt := 37) F dX7_kindOf_15 (by decide) ?_
    exact V.iret F T dX7_kindOf_37 (fnI (by unfold knd; omega) rfl) [hm, ms] rfl rfl

abbrev YX7_looks (l : Launch) (G : Gx) : Sx := (cX7_looks, 6, RX7, wsX7_looks, rmD 2, l, G)
theorem ydX7_looks : ydOk yX7_looks 1 := by decide +kernel
theorem inX7_looks_X7 : ∀ w ∈ wsX70, w ∈ wsX7_looks := fun _ h => List.mem_cons_of_mem _ (List.mem_append_right _ h)
set_option maxHeartbeats 1000000 in
set_option maxRecDepth 20000 in
theorem c_X7_looks (l : Launch) (G : Gx) (hm ms mp mq mt mpa msh mo mtu : Nat) (a sv pa : Int → Int) (kn kp ln r : Int) (hR : Rel a sv) (hI : Inv a) (h1 : 0 ≤ r ∧ r < 16) : Ct l G yX7_looks wsX7_looks (rmD 2) [.ref hm, .int (zI r)] [(hm, .inr (7, [.ref ms, .ref mp, .int (zI kn), .ref mq, .int (zI kp), .ref mt, .int (zI ln), .ref mpa, .ref msh, .ref mo, .ref mtu])), (ms, aJ G 7157 sv), (mpa, aI G 48 pa)] (Fn (some (.int (zI (a (25344 + r))))) [(hm, .inr (7, [.ref ms, .ref mp, .int (zI kn), .ref mq, .int (zI kp), .ref mt, .int (zI ln), .ref mpa, .ref msh, .ref mo, .ref mtu])), (ms, aJ G 7157 sv), (mpa, aI G 48 (fil (pthz a r) pa 48))]) := by
  refine Ct.intro (cc := cX7_looks) (maxL := 6) (ret := (some .int)) (lo0 := [some (.ref hm), some (.int (zI r)), none, none, none, none]) (by decide +kernel) rfl ⟨rfl, rfl⟩ (Nat.le_of_ble_eq_true rfl) rfl ?_
  intro X F T
  change Fx X (YX7_looks l G) at F
  change V X (YX7_looks l G) 0 0 0 _ _ _
  have hB := hI.bnd
  have hset := hI.s
  refine V.iconst (q := 1) F dX7_looks_0 rfl ?_
  refine V.istore_n (q := 2) (lo' := [_, _, _, _, _, _]) F dX7_looks_1 rfl rfl (Nat.le_of_ble_eq_true rfl) rfl rfl ?_
  refine V.iconst (q := 3) F dX7_looks_2 rfl ?_
  refine V.istore_n (q := 4) (lo' := [_, _, _, _, _, _]) F dX7_looks_3 rfl rfl (Nat.le_of_ble_eq_true rfl) rfl rfl ?_
  have L4 : ∀ (nq : Nat) (i : Int) (hi : 0 ≤ i ∧ i ≤ 48), (48 - i).toNat < nq → V X (YX7_looks l G) 0 0 4 [some (.ref hm), some (.int (zI r)), some (.int (zI 0)), some (.int (zI i)), none, none] [] [(hm, .inr (7, [.ref ms, .ref mp, .int (zI kn), .ref mq, .int (zI kp), .ref mt, .int (zI ln), .ref mpa, .ref msh, .ref mo, .ref mtu])), (ms, aJ G 7157 sv), (mpa, aI G 48 (fil (fun _ => 0) pa i))] := by
    intro n4
    induction n4 with
    | zero => intro i hi hm4; exact absurd hm4 (Nat.not_lt_zero _)
    | succ n4 ih4 =>
      intro i hi hm4
      refine V.iload_n (q := 5) F dX7_looks_4 rfl rfl rfl ?_
      refine V.bipush (q := 7) F dX7_looks_5 rfl (by decide) ?_
      refine V.icmp_ge (q := 10) (tgt := 23) F dX7_looks_7 rfl (by decide) (by omega) (fun k7 => ?_) (fun k7 => ?_)
      · have he : i = 48 := by omega
        subst he
        refine V.iconst (q := 24) F dX7_looks_23 rfl ?_
        refine V.istore_n (q := 25) (lo' := [_, _, _, _, _, _]) F dX7_looks_24 rfl rfl (Nat.le_of_ble_eq_true rfl) rfl rfl ?_
        have L25 : ∀ (nq : Nat) (k S : Int) (hk : 0 ≤ k ∧ k ≤ 1584) (hS : S = sz (fun c => a (r * 1584 + c)) 0 k), (1584 - k).toNat < nq → V X (YX7_looks l G) 0 0 25 [some (.ref hm), some (.int (zI r)), some (.int (zI S)), some (.int (zI k)), none, none] [] [(hm, .inr (7, [.ref ms, .ref mp, .int (zI kn), .ref mq, .int (zI kp), .ref mt, .int (zI ln), .ref mpa, .ref msh, .ref mo, .ref mtu])), (ms, aJ G 7157 sv), (mpa, aI G 48 (fil (qkz a r k) pa 48))] := by
          intro n25
          induction n25 with
          | zero => intro k S hk hS hm25; exact absurd hm25 (Nat.not_lt_zero _)
          | succ n25 ih25 =>
            intro k S hk hS hm25
            have hkn := knd_rng a (k % 99 + 1)
            refine V.iload_n (q := 26) F dX7_looks_25 rfl rfl rfl ?_
            refine V.sipush (q := 29) F dX7_looks_26 rfl (by decide) ?_
            refine V.icmp_ge (q := 32) (tgt := 87) F dX7_looks_29 rfl (by decide) (by omega) (fun k29 => ?_) (fun k29 => ?_)
            · have he : k = 1584 := by omega
              subst he
              refine V.iload_n (q := 88) F dX7_looks_87 rfl rfl rfl ?_
              exact V.iret F T dX7_looks_88 (fnI (by rw [hS]; exact wnd_all hI h1) (wcons rfl (wcons rfl (wcons (arEqI (fil_congr (fun j h8 h9 => qkz_all hI ⟨h8, h9⟩))) rfl)))) [hm, ms, mpa] rfl rfl
            · refine V.iload_n (q := 33) F dX7_looks_32 rfl rfl rfl ?_
              refine V.bipush (q := 35) F dX7_looks_33 rfl (by decide) ?_
              refine V.irem (q := 36) F dX7_looks_35 rfl (by omega) ?_
              refine V.iconst (q := 37) F dX7_looks_36 rfl ?_
              refine V.iadd (q := 38) F dX7_looks_37 rfl ?_
              refine V.istore (q := 40) (lo' := [_, _, _, _, _, _]) F dX7_looks_38 rfl (Nat.le_of_ble_eq_true rfl) rfl rfl ?_
              refine V.aload_n (q := 41) F dX7_looks_40 rfl rfl rfl ?_
              refine V.iload_n (q := 42) F dX7_looks_41 rfl rfl rfl ?_
              refine V.iload_n (q := 43) F dX7_looks_42 rfl rfl rfl ?_
              refine V.bipush (q := 45) F dX7_looks_43 rfl (by decide) ?_
              refine V.idiv (q := 46) F dX7_looks_45 rfl (by omega) ?_
              refine V.iload (q := 48) F dX7_looks_46 rfl rfl ?_
              refine V.callV (q := 51) F [0, 1] 0 dX7_looks_48 rfl (c_X7_at l G hm ms mp mq mt mpa msh mo mtu _ _ _ _ _ _ _ _ hR hB (by omega) (by omega) (by omega)) gX7_looks_X7_at rfl rfl ydX7_at ⟨Nat.le_of_ble_eq_true rfl, Nat.le_of_ble_eq_true rfl⟩ (ci := 7) rfl rfl rfl rfl (Nat.le_of_ble_eq_true rfl) rfl rfl ⟨Nat.zero_le _, Nat.zero_le _⟩ (kkf (st' := [_]) (ws' := [_, _, _]) rfl rfl ?_)
              rw [show r * 1584 + k / 99 * 99 + (k % 99 + 1) - 1 = r * 1584 + k by omega]
              refine V.istore (q := 53) (lo' := [_, _, _, _, _, _]) F dX7_looks_51 rfl (Nat.le_of_ble_eq_true rfl) rfl rfl ?_
              refine V.aload_n (q := 54) F dX7_looks_53 rfl rfl rfl ?_
              refine V.get (q := 57) F 0 7 dX7_looks_54 rfl rfl rfl inX7_looks_X7 (by decide) (List.mem_of_getElem? (i := 1) rfl) rfl ?_
              refine V.iconst (q := 58) F dX7_looks_57 rfl ?_
              refine V.iload_n (q := 59) F dX7_looks_58 rfl rfl rfl ?_
              refine V.bipush (q := 61) F dX7_looks_59 rfl (by decide) ?_
              refine V.idiv (q := 62) F dX7_looks_61 rfl (by omega) ?_
              refine V.imul (q := 63) F dX7_looks_62 rfl ?_
              refine V.aload_n (q := 64) F dX7_looks_63 rfl rfl rfl ?_
              refine V.iload (q := 66) F dX7_looks_64 rfl rfl ?_
              refine V.callV (q := 69) F [0, 1] 0 dX7_looks_66 rfl (c_X7_kindOf l G hm ms mp mq mt mpa msh mo mtu _ _ _ _ _ _ hR hset (by omega)) gX7_looks_X7_kindOf rfl rfl ydX7_kindOf ⟨Nat.le_of_ble_eq_true rfl, Nat.le_of_ble_eq_true rfl⟩ (ci := 7) rfl rfl rfl rfl (Nat.le_of_ble_eq_true rfl) rfl rfl ⟨Nat.zero_le _, Nat.zero_le _⟩ (kkf (st' := [_, _, _]) (ws' := [_, _, _]) rfl rfl ?_)
              refine V.iadd (q := 70) F dX7_looks_69 rfl ?_
              refine V.dup2 (q := 71) F dX7_looks_70 rfl rfl rfl ?_
              refine V.iald (q := 72) F 2 dX7_looks_71 rfl rfl (by decide) (by omega) ?_
              refine V.iload (q := 74) F dX7_looks_72 rfl rfl ?_
              refine V.iadd (q := 75) F dX7_looks_74 rfl ?_
              refine V.iast (q := 76) (ws' := [_, _, _]) F 2 dX7_looks_75 rfl rfl (by decide) (by omega) rfl ?_
              rw [qkz_s a pa (by omega)]
              refine V.iload_n (q := 77) F dX7_looks_76 rfl rfl rfl ?_
              refine V.iload (q := 79) F dX7_looks_77 rfl rfl ?_
              refine V.iadd (q := 80) F dX7_looks_79 rfl ?_
              refine V.istore_n (q := 81) (lo' := [_, _, _, _, _, _]) F dX7_looks_80 rfl rfl (Nat.le_of_ble_eq_true rfl) rfl rfl ?_
              refine V.iinc (q := 84) (lo' := [_, _, _, _, _, _]) F dX7_looks_81 rfl rfl (Nat.le_of_ble_eq_true rfl) rfl rfl ?_
              refine V.goto (tgt := 25) F dX7_looks_84 (by decide) ?_
              refine V.mask [true, true, true, true, false, false] (lo' := [_, _, _, _, _, _]) rfl ?_
              exact ih25 (k + 1) _ (by omega) (by rw [hS]; exact (sz_succ _ hk.1).symm) (by omega)
        refine V.eq (pc' := 25) (lo' := [_, _, _, _, _, _]) (st' := []) (ws' := [_, _, (mpa, aI G 48 (fil (qkz a r 0) pa 48))]) rfl rfl rfl (by rw [show qkz a r 0 = fun _ => 0 from funext (fun p => sz_self _ _)]) ?_
        refine V.mask [true, true, true, true, false, false] (lo' := [_, _, _, _, _, _]) rfl ?_
        exact L25 _ 0 0 (by omega) (sz_self _ _).symm (Nat.lt_succ_self _)
      · refine V.aload_n (q := 11) F dX7_looks_10 rfl rfl rfl ?_
        refine V.get (q := 14) F 0 7 dX7_looks_11 rfl rfl rfl inX7_looks_X7 (by decide) (List.mem_of_getElem? (i := 1) rfl) rfl ?_
        refine V.iload_n (q := 15) F dX7_looks_14 rfl rfl rfl ?_
        refine V.iconst (q := 16) F dX7_looks_15 rfl ?_
        refine V.iast (q := 17) (ws' := [_, _, _]) F 2 dX7_looks_16 rfl rfl (by decide) (by omega) rfl ?_
        rw [fil_s _ _ hi.1 rfl]
        refine V.iinc (q := 20) (lo' := [_, _, _, _, _, _]) F dX7_looks_17 rfl rfl (Nat.le_of_ble_eq_true rfl) rfl rfl ?_
        refine V.goto (tgt := 4) F dX7_looks_20 (by decide) ?_
        exact ih4 (i + 1) (by omega) (by omega)
  refine V.eq (pc' := 4) (lo' := [_, _, _, _, _, _]) (st' := []) (ws' := [_, _, (mpa, aI G 48 (fil (fun _ => 0) pa 0))]) rfl rfl rfl (by rw [fil_0]) ?_
  exact L4 _ 0 (by omega) (Nat.lt_succ_self _)

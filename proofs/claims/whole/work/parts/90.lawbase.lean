/-! THE CLAIM OUT OF ONE WALK OF THE LAW'S BODY. Your part is whole_start (and what it stands on); all else here is the same for every law, but numbers. -/
def R_law : String := "WindRosesLaw"
def lw_P (b : Addr) (xs : List Int32) (args : Array Value) (s : State) : Prop := args = #[.ref b] ∧ s.IntsAt b xs ∧ xs.length ≤ 3072 ∧ (Jvm.Cond.and given_1 narrow_1).before args s = true
def lw_Q (_ : Array Value) (s : State) (o : Outcome) (t : State) : Prop := o = .returned (some (.int 1)) ∧ Framed s o t [] 600000 7302250
def lw_Z (below : List Frame) (a : Array Value) (s : State) : State → Prop := fun t => ∃ o, t.status = .running ∧ Ended t below o ∧ lw_Q a s o t
/-- the law's own end, with 1 on the stack, nothing written that was there before, its room as the claim has it -/
theorem lw_ret {p : Program} {l : Launch} {e : Env} {s : State} {m : MethodId} {below : List Frame} {meth : Method} {c : Code} {b : Nat} (hx : p.tables.exec = Jvm.exec) (hb : c.code = code) (hr : meth.sig.returnType = ret) (hlocks : meth.locks = false) {pc : Nat} {H : Heap} {ls : Array Slot} (hdg : decode code pc = .ok (.ireturn, 1)) : W p l e room_1 s m #[Value.ref b] below meth c H [] 600000 7302250 (lw_Z below #[Value.ref b] s) (F0 m pc ls [.int 1]) := by
  intro T hT X
  obtain ⟨fs, hret, hrun, hended, hW, hframe⟩ := X.leave (v := some (.int 1)) (hlocks := hlocks) (fun h => by rw [hr] at h; cases h)
  have hmeth' : T.vm.method? m = some meth := X.method'
  refine ⟨T.setFrames fs, ?_, .returned (some (.int 1)), hrun, hended, rfl, ⟨_, rfl⟩, hW, hframe⟩
  jvm_step X.here [X.here.top, hx, hb, hdg, hmeth', hr, ret, narrow_b1]
  (try refine ⟨rfl, ?_⟩); (try refine ⟨rfl, ?_⟩)
  first | (intro acts; rw [hret _ acts rfl rfl rfl]) | rw [hret _ _ rfl rfl rfl]
  exact Steps.refl _
/-- what holds at the law's entry: the machine, the code, the tables' words (any of lw_tbl by 'hts w (by decide +kernel)'), the script of L ints xs at the cell b, what the Statement gives of the start (any of its parts by flat_of_before) -/
def lw_At (p : Program) (s : State) (m : MethodId) (meth : Method) (c : Code) (b L : Nat) (xs : Nat → Int32) : Prop :=
  p.tables.exec = Jvm.exec ∧ c.code = code ∧ meth.sig.returnType = ret ∧ c.maxLocals = 4 ∧ s.vm.findClass R_law = some m.cls ∧ (∀ w ∈ lw_tbl, w.before #[Value.ref b] s = true) ∧ va_X b L xs s s.heap ∧ b < s.heap.size ∧ meth.locks = false ∧ (Jvm.Cond.and given_1 narrow_1).before #[Value.ref b] s = true
/-! ### the law: the two run side by side -/
def HRel (o s : Int) (R past : Int → Int) : Prop := ∀ i, 0 ≤ i → i < s → Inv (fun j => R ((o + i) % 4 * 26181 + j)) ∧ Rel (fun j => R ((o + i) % 4 * 26181 + j)) (fun q => past (7157 * i + q))
/-- what holds of both whenever the law looks at its script -/
def LI (a : Int → Int) (o s : Int) (R : Int → Int) (bb : Int) (sn t : Int → Int) (n : Int) (sv past sq : Int → Int) : Prop :=
  Inv a ∧ Rel a sv ∧ (0 ≤ o ∧ o < 4) ∧ (0 ≤ s ∧ s ≤ 4) ∧ (0 ≤ bb ∧ bb ≤ 1) ∧ (∀ j, 0 ≤ sn j) ∧ (bb = 1 → Inv sn ∧ Rel sn sq) ∧ (0 ≤ n ∧ n ≤ 80) ∧ (∀ j, 0 ≤ t j ∧ t j < 65536) ∧ (∀ j, 0 ≤ R j) ∧ HRel o s R past
section LIS
variable {a R sn t sv past sq : Int → Int} {o s bb n : Int}
theorem LI.rem (h : LI a o s R bb sn t n sv past sq) {a' sv' : Int → Int} (hI : Inv a') (hR : Rel a' sv') : LI a' (oN o s) (sN s) (RN a o s R) bb sn t n sv' (PN sv s past) sq := by
  obtain ⟨h1, h2, h3, h4, h5, h6, h7, h8, h9, h10, h11⟩ := h
  have ho : 0 ≤ oN o s ∧ oN o s < 4 := by unfold oN; omega
  have hs : 0 ≤ sN s ∧ sN s ≤ 4 := by unfold sN; omega
  have hRn : ∀ j, 0 ≤ RN a o s R j := cpz_nonneg h1.1 h10 _ _ _
  refine ⟨hI, hR, ho, hs, h5, h6, h7, h8, h9, hRn, fun i hi1 hi2 => ?_⟩
  have em : (if s = 4 then 3 else s) = sN s - 1 := by unfold sN; omega
  have eo : (if s = 4 then (o + 1) % 4 else o) = oN o s := rfl
  have eR : ∀ j, RN a o s R j = if (oN o s + (sN s - 1)) % 4 * 26181 ≤ j ∧ j < (oN o s + (sN s - 1)) % 4 * 26181 + 26181 then a (j - (oN o s + (sN s - 1)) % 4 * 26181) else R j := by
    intro j
    unfold RN cpz
    rw [em, eo, Int.zero_add]
  have eP : ∀ j, PN sv s past j = if 7157 * (sN s - 1) ≤ j ∧ j < 7157 * (sN s - 1) + 7157 then sv (j - 7157 * (sN s - 1)) else (if s = 4 then fil (fun j => past (7157 + j)) past 21471 else past) j := by
    intro j
    unfold PN cpz
    rw [em, Int.zero_add]
  by_cases hm : i = sN s - 1
  · subst hm
    have e1 : ∀ j, 0 ≤ j → j < 26181 → RN a o s R ((oN o s + (sN s - 1)) % 4 * 26181 + j) = a j := by
      intro j hj1 hj2
      rw [eR, if_pos (by omega)]
      exact congrArg a (by omega)
    refine ⟨h1.congr (b := fun j => RN a o s R ((oN o s + (sN s - 1)) % 4 * 26181 + j)) e1 (fun j => hRn _), ?_⟩
    refine (h2.congr (b := fun j => RN a o s R ((oN o s + (sN s - 1)) % 4 * 26181 + j)) (fun j hj1 hj2 _ => e1 j hj1 hj2)).svc (fun q hq1 hq2 => ?_)
    show PN sv s past (7157 * (sN s - 1) + q) = sv q
    rw [eP, if_pos (by omega)]
    exact congrArg sv (by omega)
  · have hlt : i < sN s - 1 := by omega
    have hne : (oN o s + i) % 4 ≠ (oN o s + (sN s - 1)) % 4 := by omega
    have e1 : ∀ j, 0 ≤ j → j < 26181 → RN a o s R ((oN o s + i) % 4 * 26181 + j) = R ((oN o s + i) % 4 * 26181 + j) := by
      intro j hj1 hj2
      rw [eR, if_neg (by omega)]
    by_cases h4s : s = 4
    · have hold := h11 (i + 1) (by omega) (by unfold sN at hlt; omega)
      have e3 : (oN o s + i) % 4 = (o + (i + 1)) % 4 := by unfold oN; rw [if_pos h4s]; omega
      rw [← e3] at hold
      refine ⟨hold.1.congr (b := fun j => RN a o s R ((oN o s + i) % 4 * 26181 + j)) e1 (fun j => hRn _), ?_⟩
      refine (hold.2.congr (b := fun j => RN a o s R ((oN o s + i) % 4 * 26181 + j)) (fun j hj1 hj2 _ => e1 j hj1 hj2)).svc (fun q hq1 hq2 => ?_)
      show PN sv s past (7157 * i + q) = past (7157 * (i + 1) + q)
      have hs4 : sN s = 4 := by unfold sN; omega
      rw [eP, if_neg (by omega), if_pos h4s, fil_in _ _ (by omega) (by omega)]
      exact congrArg past (by omega)
    · have hs1 : sN s - 1 = s := by unfold sN; omega
      have hold := h11 i hi1 (by omega)
      have e3 : oN o s = o := if_neg h4s
      rw [e3] at e1 ⊢
      refine ⟨hold.1.congr (b := fun j => RN a o s R ((o + i) % 4 * 26181 + j)) e1 (fun j => hRn _), ?_⟩
      refine (hold.2.congr (b := fun j => RN a o s R ((o + i) % 4 * 26181 + j)) (fun j hj1 hj2 _ => e1 j hj1 hj2)).svc (fun q hq1 hq2 => ?_)
      show PN sv s past (7157 * i + q) = past (7157 * i + q)
      rw [eP, if_neg (by omega), if_neg h4s]
theorem LI.undo (h : LI a o s R bb sn t n sv past sq) (h0 : 0 ≤ rUndo s) {sv' : Int → Int} (hsv : sv' = cpz past sv (7157 * (s - 1)) 0 7157) : LI (cpz R a ((o + (s - 1)) % 4 * 26181) 0 26181) o (s - 1) R bb sn t n sv' past sq := by
  obtain ⟨h1, h2, h3, h4, h5, h6, h7, h8, h9, h10, h11⟩ := h
  subst hsv
  have hs : 1 ≤ s := by unfold rUndo at h0; omega
  have hold := h11 (s - 1) (by omega) (by omega)
  have e1 : ∀ j, 0 ≤ j → j < 26181 → cpz R a ((o + (s - 1)) % 4 * 26181) 0 26181 j = R ((o + (s - 1)) % 4 * 26181 + j) := by
    intro j hj1 hj2
    unfold cpz
    rw [if_pos (by omega)]
    exact congrArg R (by omega)
  refine ⟨hold.1.congr e1 (cpz_nonneg h10 h1.1 _ _ _), ?_, h3, by omega, h5, h6, h7, h8, h9, h10, fun i hi1 hi2 => h11 i hi1 (by omega)⟩
  refine (hold.2.congr (fun j hj1 hj2 _ => e1 j hj1 hj2)).svc (fun q hq1 hq2 => ?_)
  unfold cpz
  rw [if_pos (by omega)]
  exact congrArg past (by omega)
theorem LI.keep (h : LI a o s R bb sn t n sv past sq) : LI a o s R 1 (cpz a sn 0 0 26181) t n sv past (cpz sv sq 0 0 7157) := by
  obtain ⟨h1, h2, h3, h4, h5, h6, h7, h8, h9, h10, h11⟩ := h
  have e1 : ∀ j, 0 ≤ j → j < 26181 → cpz a sn 0 0 26181 j = a j := by
    intro j hj1 hj2
    unfold cpz
    rw [if_pos (by omega)]
    exact congrArg a (by omega)
  refine ⟨h1, h2, h3, h4, by omega, cpz_nonneg h1.1 h6 _ _ _, fun _ => ⟨h1.congr e1 (cpz_nonneg h1.1 h6 _ _ _), (h2.congr (fun j hj1 hj2 _ => e1 j hj1 hj2)).svc (fun q hq1 hq2 => ?_)⟩, h8, h9, h10, h11⟩
  unfold cpz
  rw [if_pos (by omega)]
  exact congrArg sv (by omega)
theorem LI.an (h : LI a o s R bb sn t n sv past sq) (hb : bb = 1) : Rel (cpz sn a 0 0 26181) sq ∧ Inv (cpz sn a 0 0 26181) := by
  obtain ⟨h1, h2, h3, h4, h5, h6, h7, h8, h9, h10, h11⟩ := h
  have e1 : ∀ j, 0 ≤ j → j < 26181 → cpz sn a 0 0 26181 j = sn j := by
    intro j hj1 hj2
    unfold cpz
    rw [if_pos (by omega)]
    exact congrArg sn (by omega)
  exact ⟨(h7 hb).2.congr (fun j hj1 hj2 _ => e1 j hj1 hj2), (h7 hb).1.congr e1 (cpz_nonneg h6 h1.1 _ _ _)⟩
theorem LI.type (h : LI a o s R bb sn t n sv past sq) {c : Int} (hc : 0 ≤ c ∧ c < 65536) (h0 : 0 ≤ rType n) : LI a o s R bb sn (upz t n c) (n + 1) sv past sq := by
  obtain ⟨h1, h2, h3, h4, h5, h6, h7, h8, h9, h10, h11⟩ := h
  refine ⟨h1, h2, h3, h4, h5, h6, h7, by unfold rType at h0; omega, fun j => ?_, h10, h11⟩
  have := h9 j
  unfold upz
  split <;> omega
theorem LI.clear (h : LI a o s R bb sn t n sv past sq) : LI a o s R bb sn t 0 sv past sq := by
  obtain ⟨h1, h2, h3, h4, h5, h6, h7, h8, h9, h10, h11⟩ := h
  exact ⟨h1, h2, h3, h4, h5, h6, h7, by omega, h9, h10, h11⟩
theorem inv_log (hI : Inv a) {p q d v h : Int} (h0 : 0 ≤ rLog a p q d v h) : Inv (addW a (p * 4 + q) d v h) := by
  have e : rLog a p q d v h = if ¬ (((0 ≤ p ∧ p ≤ 3) ∧ (0 ≤ q ∧ q ≤ 3)) ∧ (0 ≤ d ∧ d ≤ 15)) then -1 else if ¬ ((1 ≤ v ∧ v ≤ 99) ∧ (1 ≤ h ∧ h ≤ 99)) then -2 else if 9999 < a (25344 + (p * 4 + q)) + a (25360 + (p * 4 + q)) + h then -3 else a (25344 + (p * 4 + q)) + a (25360 + (p * 4 + q)) + h := rfl
  have hz := hI.1 ((p * 4 + q) * 1584 + d * 99 + v - 1)
  exact hI.aW (by omega) (by omega) (by omega) (by omega) (by omega)
theorem inv_calm (hI : Inv a) {p q h : Int} (h0 : 0 ≤ rCalm a p q h) : Inv (upz a (25360 + (p * 4 + q)) (a (25360 + (p * 4 + q)) + h)) := by
  have e : rCalm a p q h = if ¬ ((0 ≤ p ∧ p ≤ 3) ∧ (0 ≤ q ∧ q ≤ 3)) then -1 else if ¬ (1 ≤ h ∧ h ≤ 99) then -2 else if 9999 < a (25344 + (p * 4 + q)) + a (25360 + (p * 4 + q)) + h then -3 else a (25344 + (p * 4 + q)) + a (25360 + (p * 4 + q)) + h := rfl
  exact hI.calm (by omega) (by omega) (by omega)
theorem inv_strike (hI : Inv a) {p q d v : Int} (h0 : 0 ≤ rStrike a p q d v) : Inv (addW a (p * 4 + q) d v (-(a ((p * 4 + q) * 1584 + d * 99 + v - 1)))) := by
  have e : rStrike a p q d v = if ¬ (((0 ≤ p ∧ p ≤ 3) ∧ (0 ≤ q ∧ q ≤ 3)) ∧ (0 ≤ d ∧ d ≤ 15)) then -1 else if ¬ (1 ≤ v ∧ v ≤ 99) then -2 else if a ((p * 4 + q) * 1584 + d * 99 + v - 1) = 0 then -5 else a ((p * 4 + q) * 1584 + d * 99 + v - 1) := rfl
  have hr : 0 ≤ p * 4 + q ∧ p * 4 + q < 16 := by omega
  have hw := hI.w hr
  have hz := hI.1 ((p * 4 + q) * 1584 + d * 99 + v - 1)
  exact hI.aW hr (by omega) (by omega) (by omega) (by omega)
theorem inv_turn (hI : Inv a) {p q b : Int} (h0 : 0 ≤ rTurn a p q b) : Inv (turnI a (p * 4 + q) b 16) := by
  have e : rTurn a p q b = if ¬ ((0 ≤ p ∧ p ≤ 3) ∧ (0 ≤ q ∧ q ≤ 3)) then -1 else if ¬ (1 ≤ b ∧ b ≤ 15) then -2 else if a (25344 + (p * 4 + q)) = 0 then -5 else a (25344 + (p * 4 + q)) := rfl
  exact hI.turn (by omega) (by omega)
theorem inv_ren (hI : Inv a) {p q : Int} (h0 : 0 ≤ rRen a p q) : Inv (newA a (p * 4 + q)) := by
  have e : rRen a p q = if ¬ ((0 ≤ p ∧ p ≤ 3) ∧ (0 ≤ q ∧ q ≤ 3)) then -1 else if cutz a (p * 4 + q) = 0 ∧ a (26144 + (p * 4 + q)) = 0 ∧ a (26160 + (p * 4 + q)) = 0 then -5 else a (26160 + (p * 4 + q)) := rfl
  exact hI.new (by omega)
theorem inv_all (hI : Inv a) {K : Nat} (hn : 0 ≤ n ∧ n ≤ 80) (hK : Par t n K) (hK13 : K ≤ 13) (h0 : 0 ≤ rLA a t n K) : Inv (foA t n a (K + 1)) := by
  have e : rLA a t n K = if ¬ (0 ≤ iez t n (plz t n K) ∧ iez t n (plz t n K) = n) then -100 - posz (iez t n (plz t n K)) else if 0 < ovz a t n K 16 then -3 else hsz t n ((K : Int) + 1) := rfl
  have eP : posz (iez t n (plz t n K)) = if 0 ≤ iez t n (plz t n K) then iez t n (plz t n K) else -1 - iez t n (plz t n K) := rfl
  have hz : 0 ≤ iez t n (plz t n K) := by omega
  have hov : ¬ 0 < ovz a t n K 16 := by omega
  refine (foA_inv hI (ent_ok hn hK hz) (fun r h1 h2 => ?_) (K + 1) (Nat.le_refl _)).1
  rcases Int.lt_or_le 9999 (a (25344 + r) + a (25360 + r) + tsz t n K r) with g | g
  · exact absurd (ovz_pos (a := a) (t := t) (n := n) (K := K) (i := r) ⟨h1, h2⟩ g) hov
  · exact g
end LIS
def a0z : Int → Int := upz (upz (upz (fun _ => 0) 26176 12) 26177 30) 26178 5
def sv0z : Int → Int := upz (upz (upz (fun _ => 0) 7152 12) 7153 30) 7154 5
theorem a0z_at (j : Int) : a0z j = if j = 26178 then 5 else if j = 26177 then 30 else if j = 26176 then 12 else 0 := by
  simp only [a0z, upz]
theorem sv0z_at (j : Int) : sv0z j = if j = 7154 then 5 else if j = 7153 then 30 else if j = 7152 then 12 else 0 := by
  simp only [sv0z, upz]
theorem LI.start : LI a0z 0 0 (fun _ => 0) 0 (fun _ => 0) (fun _ => 0) 0 sv0z (fun _ => 0) (fun _ => 0) := by
  refine ⟨⟨fun j => ?_, fun r h1 h2 => ⟨?_, ?_⟩, ?_, fun j h1 h2 => ?_⟩, fun q h1 h2 => ?_, by omega, by omega, by omega, fun _ => Int.le_refl 0, fun h => absurd h (by omega), by omega, fun _ => ⟨Int.le_refl 0, by show (0 : Int) < 65536; omega⟩, fun _ => Int.le_refl 0, fun i h1 h2 => absurd h2 (by omega)⟩
  · rw [a0z_at]; omega
  · rw [sz_zero (fun j h3 h4 => by rw [a0z_at]; omega), a0z_at]; omega
  · rw [a0z_at, a0z_at]; omega
  · rw [a0z_at, a0z_at, a0z_at]; omega
  · rw [a0z_at]; omega
  · rw [sv0z_at]
    unfold pkd
    simp only [a0z_at]
    by_cases h3 : q < 6336
    · rw [if_pos h3]; omega
    · rw [if_neg h3]; omega
/-! ### the law's own rules -/
def scz (xs : Nat → Int32) (i : Int) : Int := (xs i.toNat).toInt
theorem scz_rng (xs : Nat → Int32) (i : Int) : -2147483648 ≤ scz xs i ∧ scz xs i < 2147483648 := zI_rng _
theorem zI_and31 (a : Int) : zI a &&& zI 31 = zI (a % 32) := by
  apply Int32.toBitVec_inj.mp
  rw [Int32.toBitVec_and]
  show BitVec.ofInt 32 a &&& BitVec.ofInt 32 31 = BitVec.ofInt 32 (a % 32)
  apply BitVec.eq_of_toNat_eq
  rw [BitVec.toNat_and, show (BitVec.ofInt 32 31).toNat = 2 ^ 5 - 1 by decide, Nat.and_two_pow_sub_one_eq_mod, BitVec.toNat_ofInt, BitVec.toNat_ofInt]
  omega
theorem zI_char (a : Int) : ((zI a).toUInt32 % 65536).toInt32 = zI (a % 65536) := by
  apply Int32.toBitVec_inj.mp
  show (BitVec.ofInt 32 a) % (65536 : BitVec 32) = BitVec.ofInt 32 (a % 65536)
  apply BitVec.eq_of_toNat_eq
  rw [BitVec.toNat_umod, BitVec.toNat_ofInt, BitVec.toNat_ofInt]
  show ((a % 4294967296).toNat) % 65536 = (a % 65536 % 4294967296).toNat
  omega
def SX (X : Cx) (b L : Nat) (xs : Nat → Int32) : Prop := match X with
  | (p, _, s, m, args, below, meth, c, Q, A) => va_X b L xs s s.heap ∧ b < s.heap.size ∧ ¬ A b ∧ args = #[Value.ref b] ∧ meth.sig.returnType = ret ∧ meth.locks = false ∧ Q = lw_Z below #[Value.ref b] s ∧ (∀ q, A q → s.heap.size ≤ q)
section VLW
variable {X : Cx} {Y : Sx} {k n pc q : Nat} {lo lo' : List (Option Value)} {st : List Value} {ws ws' : va_W}
theorem V.sld {b L : Nat} {xs : Nat → Int32} (F : Fx X Y) (S : SX X b L xs) {i : Int} (d : decode Y.1 pc = .ok (.iaload, 1)) (hq : pc + 1 = q) (hL : L ≤ 3072) (rg : 0 ≤ i ∧ i < (L : Int)) (kk : V X Y k n q lo (.int (zI (scz xs i)) :: st) ws) : V X Y k n pc lo (.int (zI i) :: .ref b :: st) ws := by
  subst hq
  obtain ⟨p, e, s, m, args, below, meth, c, Q, A⟩ := X
  obtain ⟨cc, nL, own, Ts, R, l, G⟩ := Y
  obtain ⟨hx, hb, hml, hown, hts, hK, hN, hA⟩ := F
  obtain ⟨s1, s2, s3, -⟩ := S
  intro H locs ls hls hP hD hS
  refine va_sld hx hb s1 s2 s3 hS (zI_in (by omega) rg) d ?_
  rw [zI_clamp rg.1 (by omega), zI_of (xs i.toNat)]
  exact kk H locs ls hls hP hD hS
theorem V.slen {b L : Nat} {xs : Nat → Int32} (F : Fx X Y) (S : SX X b L xs) (d : decode Y.1 pc = .ok (.arraylength, 1)) (hq : pc + 1 = q) (kk : V X Y k n q lo (.int (zI (L : Int)) :: st) ws) : V X Y k n pc lo (.ref b :: st) ws := by
  subst hq
  obtain ⟨p, e, s, m, args, below, meth, c, Q, A⟩ := X
  obtain ⟨cc, nL, own, Ts, R, l, G⟩ := Y
  obtain ⟨hx, hb, hml, hown, hts, hK, hN, hA⟩ := F
  obtain ⟨s1, s2, s3, -⟩ := S
  intro H locs ls hls hP hD hS
  refine va_slen hx hb s1 s2 s3 hS d ?_
  rw [show Int32.ofNat L = zI (L : Int) from (Int32.ofInt_eq_ofNat (n := L)).symm]
  exact kk H locs ls hls hP hD hS
theorem V.lend {b L : Nat} {xs : Nat → Int32} {l : Launch} {G : Gx} (F : Fx X (cL_law, 4, RL, wsL_law, room_1, l, G)) (S : SX X b L xs) (d : decode cL_law pc = .ok (.ireturn, 1)) (hk : k ≤ 600000) (hn : n ≤ 7302250) : V X (cL_law, 4, RL, wsL_law, room_1, l, G) k n pc lo [.int (zI 1)] ws := by
  obtain ⟨p, e, s, m, args, below, meth, c, Q, A⟩ := X
  obtain ⟨hx, hb, hml, hown, hts, hK, hN, hA⟩ := F
  obtain ⟨s1, s2, s3, s4, s5, s6, s7, s8⟩ := S
  subst s4; subst s7
  intro H locs ls hls hP hD hS
  refine va_forget (fun q hq => s8 _ (hS.2.2 q hq)) ?_
  refine W.widen hk hn ?_
  exact lw_ret hx hb s5 s6 d
theorem V.isame (F : Fx X Y) {x : Int32} {off : Int} {tgt : Nat} (d : decode Y.1 pc = .ok (.if_icmp .eq off, 3)) (ht : (pc : Int) + off = (tgt : Int)) (kt : V X Y k n tgt lo st ws) : V X Y k n pc lo (.int x :: .int x :: st) ws := by
  obtain ⟨p, e, s, m, args, below, meth, c, Q, A⟩ := X
  obtain ⟨cc, nL, own, Ts, R, l, G⟩ := Y
  obtain ⟨hx, hb, hml, hown, hts, hK, hN, hA⟩ := F
  intro H locs ls hls hP hD hS
  exact lv_icmp_eq hx hb d ht (fun h => kt H locs ls hls hP hD hS) (fun h => absurd rfl h)
end VLW

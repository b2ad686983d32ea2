def tsz (t : Int → Int) (n : Int) (K : Nat) (r : Int) : Int := sz (fun j => if rov t n (plz t n j.toNat) = r then hov t n (plz t n j.toNat) else 0) 0 ((K : Int) + 1)
def hsz (t : Int → Int) (n i : Int) : Int := sz (fun j => hov t n (plz t n j.toNat)) 0 i
def foA (t : Int → Int) (n : Int) (a : Int → Int) : Nat → Int → Int
  | 0 => a
  | k + 1 => entA (foA t n a k) (rov t n (plz t n k)) (wdv t n (plz t n k + 4)) (wsv t n (plz t n k + 4)) (hov t n (plz t n k))
def ovz (a t : Int → Int) (n : Int) (K : Nat) (i : Int) : Int := sz (fun r => if 9999 < a (25344 + r) + a (25360 + r) + tsz t n K r then 1 else 0) 0 i
def rLA (a t : Int → Int) (n : Int) (K : Nat) : Int := if ¬ (0 ≤ iez t n (plz t n K) ∧ iez t n (plz t n K) = n) then -100 - posz (iez t n (plz t n K)) else if 0 < ovz a t n K 16 then -3 else hsz t n ((K : Int) + 1)
theorem ent_ok {t : Int → Int} {n : Int} (hn : 0 ≤ n ∧ n ≤ 80) {K : Nat} (hK : Par t n K) (h : 0 ≤ iez t n (plz t n K)) : ∀ k : Nat, k ≤ K → (0 ≤ rov t n (plz t n k) ∧ rov t n (plz t n k) < 16) ∧ (1 ≤ hov t n (plz t n k) ∧ hov t n (plz t n k) ≤ 99) ∧ (wdv t n (plz t n k + 4) = -1 ∨ (0 ≤ wdv t n (plz t n k + 4) ∧ wdv t n (plz t n k + 4) < 16 ∧ 1 ≤ wsv t n (plz t n k + 4) ∧ wsv t n (plz t n k + 4) ≤ 99)) := by
  intro k hk
  have hp := plz_rng hn.1 hK.1 k hk
  have h0 : 0 ≤ iez t n (plz t n k) := by
    rcases Nat.lt_or_ge k K with h1 | h1
    · exact (hK.1 k h1).1
    · rw [show k = K by omega]; exact h
  have h1 := iez_rng t n hp.1 hp.2.1
  have h2 := wez_rng t n (p := plz t n k + 4) (by omega)
  rcases h1 with h1 | h1
  · omega
  · refine ⟨by omega, by omega, ?_⟩
    rcases h2 with h2 | h2
    · omega
    · rcases h2.2.2 with h3 | h3
      · exact Or.inl h3.2.2.1
      · right; omega
theorem tsz_rng {t : Int → Int} {n : Int} (hn : 0 ≤ n ∧ n ≤ 80) {K : Nat} (hK : Par t n K) (hK13 : K ≤ 13) (h : 0 ≤ iez t n (plz t n K)) (r : Int) : 0 ≤ tsz t n K r ∧ tsz t n K r ≤ 1400 := by
  have := sz_le (f := fun j => if rov t n (plz t n j.toNat) = r then hov t n (plz t n j.toNat) else 0) (a := 0) (b := (K : Int) + 1) (c := 99) (by omega) (by omega) (fun j h1 h2 => by
    have h3 := ent_ok hn hK h j.toNat (by omega)
    split <;> omega)
  unfold tsz
  omega
theorem hsz_rng {t : Int → Int} {n : Int} (hn : 0 ≤ n ∧ n ≤ 80) {K : Nat} (hK : Par t n K) (h : 0 ≤ iez t n (plz t n K)) {i : Int} (hi : 0 ≤ i ∧ i ≤ (K : Int) + 1) : 0 ≤ hsz t n i := sz_nonneg (fun j h1 h2 => by
    have h3 := ent_ok hn hK h j.toNat (by omega)
    omega)
theorem ovz_rng (a t : Int → Int) (n : Int) (K : Nat) {i : Int} (hi : 0 ≤ i) : 0 ≤ ovz a t n K i := sz_nonneg (fun j _ _ => by split <;> omega)
theorem ovz_pos {a t : Int → Int} {n : Int} {K : Nat} {i : Int} (hi : 0 ≤ i ∧ i < 16) (h : 9999 < a (25344 + i) + a (25360 + i) + tsz t n K i) : 0 < ovz a t n K 16 := by
  have h1 := sz_mem (f := fun r => if 9999 < a (25344 + r) + a (25360 + r) + tsz t n K r then 1 else 0) (a := 0) (b := 16) (i := i) (fun j _ _ => by split <;> omega) hi.1 hi.2
  rw [if_pos h] at h1
  unfold ovz
  omega

abbrev YX6_logAll (l : Launch) (G : Gx) : Sx := (cX6_logAll, 3, RX6, wsX6_logAll, rmD 6, l, G)
theorem ydX6_logAll : ydOk yX6_logAll 0 := by decide +kernel
theorem inX6_logAll_X3 : ∀ w ∈ wsX30, w ∈ wsX6_logAll := fun _ h => List.mem_cons_of_mem _ (List.mem_append_left _ (List.mem_append_left _ (List.mem_append_left _ (List.mem_append_right _ h))))
theorem inX6_logAll_X6 : ∀ w ∈ wsX60, w ∈ wsX6_logAll := fun _ h => List.mem_cons_of_mem _ (List.mem_append_left _ (List.mem_append_left _ (List.mem_append_left _ (List.mem_append_left _ (List.mem_append_right _ h)))))
set_option maxHeartbeats 1000000 in
set_option maxRecDepth 20000 in
theorem c_X6_logAll (l : Launch) (G : Gx) (A : Nat → Nat) (a tt R sn t rs ds ss hs f1 m1 g1 f2 m2 g2 f3 m3 g3 : Int → Int) (o s bb n E P mi1 mi2 mi3 df dq sc : Int) (K : Nat) (hI : Inv a) (ho : 0 ≤ o ∧ o < 4) (hq : 0 ≤ s ∧ s ≤ 4) (hbb : 0 ≤ bb ∧ bb ≤ 1) (hn : 0 ≤ n ∧ n ≤ 80) (ht : ∀ j, 0 ≤ t j ∧ t j < 65536) (hK : Par t n K) (hK13 : K ≤ 13) : Ct l G yX6_logAll wsX6_logAll (rmD 6) [.ref (A 0)] [((A 0), .inr (6, [.ref (A 1), .ref (A 4), .ref (A 6), .int (zI bb), .ref (A 9), .ref (A 7), .ref (A 14), .ref (A 18), .ref (A 22)])), ((A 1), .inr (0, [.ref (A 2), .ref (A 3)])), ((A 2), aI G 26181 a), ((A 3), aI G 1584 tt), ((A 4), .inr (2, [.ref (A 5), .int (zI o), .int (zI s)])), ((A 5), aI G 104724 R), ((A 6), aI G 26181 sn), ((A 7), .inr (5, [.ref (A 8), .int (zI n)])), ((A 8), aC G 80 t), ((A 9), .inr (3, [.ref (A 7), .ref (A 10), .ref (A 11), .ref (A 12), .ref (A 13), .int (zI E), .int (zI P)])), ((A 10), aI G 16 rs), ((A 11), aI G 16 ds), ((A 12), aI G 16 ss), ((A 13), aI G 16 hs), ((A 14), .inr (4, [.ref (A 15), .ref (A 16), .ref (A 17), .int (zI mi1)])), ((A 15), aI G 48 f1), ((A 16), aI G 48 m1), ((A 17), aZ G 48 g1), ((A 18), .inr (4, [.ref (A 19), .ref (A 20), .ref (A 21), .int (zI mi2)])), ((A 19), aI G 48 f2), ((A 20), aI G 48 m2), ((A 21), aZ G 48 g2), ((A 22), .inr (1, [.ref (A 23), .int (zI df), .int (zI dq), .int (zI sc)])), ((A 23), .inr (4, [.ref (A 24), .ref (A 25), .ref (A 26), .int (zI mi3)])), ((A 24), aI G 48 f3), ((A 25), aI G 48 m3), ((A 26), aZ G 48 g3)] (AcX A G a o s R bb sn t n (foA t n a (K + 1)) (oN o s) (sN s) (RN a o s R) bb sn t n (rLA a t n K)) := by
  refine Ct.intro (cc := cX6_logAll) (maxL := 3) (ret := (some .int)) (lo0 := [some (.ref (A 0)), none, none]) (by decide +kernel) rfl ⟨rfl, rfl⟩ (Nat.le_of_ble_eq_true rfl) rfl ?_
  intro X F T
  change Fx X (YX6_logAll l G) at F
  change V X (YX6_logAll l G) 0 0 0 _ _ _
  have eP : posz (iez t n (plz t n K)) = if 0 ≤ iez t n (plz t n K) then iez t n (plz t n K) else -1 - iez t n (plz t n K) := rfl
  refine V.aload_n (q := 1) F dX6_logAll_0 rfl rfl rfl ?_
  refine V.get (q := 4) F 0 4 dX6_logAll_1 rfl rfl rfl inX6_logAll_X6 (by decide) (List.mem_of_getElem? (i := 1) rfl) rfl ?_
  refine V.callV (q := 7) F [9, 7, 8, 10, 11, 12, 13] 9 dX6_logAll_4 rfl (c_X3_readAll l G (A 9) (A 7) (A 8) (A 10) (A 11) (A 12) (A 13) _ _ _ _ _ _ _ _ _ (by omega) ht hK (by omega)) gX6_logAll_X3_readAll rfl rfl ydX3_readAll ⟨Nat.le_of_ble_eq_true rfl, Nat.le_of_ble_eq_true rfl⟩ (ci := 3) rfl rfl rfl rfl (Nat.le_of_ble_eq_true rfl) rfl rfl ⟨Nat.zero_le _, Nat.zero_le _⟩ (fun r9 w9 h9 _ => ?_)
  obtain ⟨rs, ds, ss, hs, E, rfl, rfl, hok⟩ := h9
  refine V.eq (pc' := 7) (st' := [_]) (ws' := [_, _, _, _, _, _, _, _, _, _, _, _, _, _, _, _, _, _, _, _, _, _, _, _, _, _, _]) rfl rfl rfl rfl ?_
  refine V.if_ne (q := 10) (tgt := 21) F dX6_logAll_7 rfl (by decide) (by omega) (fun k7 => ?_) (fun k7 => ?_)
  · have hz0 : 0 ≤ iez t n (plz t n K) := by omega
    obtain ⟨hE, hH⟩ := hok hz0
    subst hE
    have hent := ent_ok hn hK hz0
    have hts := tsz_rng hn hK hK13 hz0
    have hhs := hsz_rng hn hK hz0 (i := (K : Int) + 1) (by omega)
    refine V.iconst (q := 22) F dX6_logAll_21 rfl ?_
    refine V.istore_n (q := 23) (lo' := [_, _, _]) F dX6_logAll_22 rfl rfl (Nat.le_of_ble_eq_true rfl) rfl rfl ?_
    have L23 : ∀ (nq : Nat) (i : Int) (hi : 0 ≤ i ∧ i ≤ 16) (hov : ovz a t n K i = 0), (16 - i).toNat < nq → V X (YX6_logAll l G) 0 0 23 [some (.ref (A 0)), some (.int (zI i)), none] [] [((A 0), .inr (6, [.ref (A 1), .ref (A 4), .ref (A 6), .int (zI bb), .ref (A 9), .ref (A 7), .ref (A 14), .ref (A 18), .ref (A 22)])), ((A 1), .inr (0, [.ref (A 2), .ref (A 3)])), ((A 2), aI G 26181 a), ((A 3), aI G 1584 tt), ((A 4), .inr (2, [.ref (A 5), .int (zI o), .int (zI s)])), ((A 5), aI G 104724 R), ((A 6), aI G 26181 sn), ((A 7), .inr (5, [.ref (A 8), .int (zI n)])), ((A 8), aC G 80 t), ((A 9), .inr (3, [.ref (A 7), .ref (A 10), .ref (A 11), .ref (A 12), .ref (A 13), .int (zI ((K : Int) + 1)), .int (zI (posz (iez t n (plz t n K))))])), ((A 10), aI G 16 rs), ((A 11), aI G 16 ds), ((A 12), aI G 16 ss), ((A 13), aI G 16 hs), ((A 14), .inr (4, [.ref (A 15), .ref (A 16), .ref (A 17), .int (zI mi1)])), ((A 15), aI G 48 f1), ((A 16), aI G 48 m1), ((A 17), aZ G 48 g1), ((A 18), .inr (4, [.ref (A 19), .ref (A 20), .ref (A 21), .int (zI mi2)])), ((A 19), aI G 48 f2), ((A 20), aI G 48 m2), ((A 21), aZ G 48 g2), ((A 22), .inr (1, [.ref (A 23), .int (zI df), .int (zI dq), .int (zI sc)])), ((A 23), .inr (4, [.ref (A 24), .ref (A 25), .ref (A 26), .int (zI mi3)])), ((A 24), aI G 48 f3), ((A 25), aI G 48 m3), ((A 26), aZ G 48 g3)] := by
      intro n23
      induction n23 with
      | zero => intro i hi hov hm23; exact absurd hm23 (Nat.not_lt_zero _)
      | succ n23 ih23 =>
        intro i hi hov hm23
        have hw := fun h : i < 16 => hI.w (r := i) ⟨hi.1, h⟩
        have hti := hts i
        refine V.iload_n (q := 24) F dX6_logAll_23 rfl rfl rfl ?_
        refine V.bipush (q := 26) F dX6_logAll_24 rfl (by decide) ?_
        refine V.icmp_ge (q := 29) (tgt := 57) F dX6_logAll_26 rfl (by decide) (by omega) (fun k26 => ?_) (fun k26 => ?_)
        · have he : i = 16 := by omega
          subst he
          refine V.aload_n (q := 58) F dX6_logAll_57 rfl rfl rfl ?_
          refine V.get (q := 61) F 0 1 dX6_logAll_58 rfl rfl rfl inX6_logAll_X6 (by decide) (List.mem_of_getElem? (i := 4) rfl) rfl ?_
          refine V.aload_n (q := 62) F dX6_logAll_61 rfl rfl rfl ?_
          refine V.get (q := 65) F 0 0 dX6_logAll_62 rfl rfl rfl inX6_logAll_X6 (by decide) (List.mem_of_getElem? (i := 3) rfl) rfl ?_
          refine V.callV (q := 68) F [4, 5, 1, 2] 4 dX6_logAll_65 rfl (c_X2_remember l G (A 4) (A 5) (A 1) (A 2) (A 3) _ _ _ _ (by omega) (by omega)) gX6_logAll_X2_remember rfl rfl ydX2_remember ⟨Nat.le_of_ble_eq_true rfl, Nat.le_of_ble_eq_true rfl⟩ (ci := 2) rfl rfl rfl rfl (Nat.le_of_ble_eq_true rfl) rfl rfl ⟨Nat.zero_le _, Nat.zero_le _⟩ (kkf (st' := []) (ws' := [_, _, _, _, _, _, _, _, _, _, _, _, _, _, _, _, _, _, _, _, _, _, _, _, _, _, _]) rfl rfl ?_)
          refine V.iconst (q := 69) F dX6_logAll_68 rfl ?_
          refine V.istore_n (q := 70) (lo' := [_, _, _]) F dX6_logAll_69 rfl rfl (Nat.le_of_ble_eq_true rfl) rfl rfl ?_
          refine V.iconst (q := 71) F dX6_logAll_70 rfl ?_
          refine V.istore_n (q := 72) (lo' := [_, _, _]) F dX6_logAll_71 rfl rfl (Nat.le_of_ble_eq_true rfl) rfl rfl ?_
          have L72 : ∀ (nq : Nat) (i S : Int) (hi2 : 0 ≤ i ∧ i ≤ (K : Int) + 1) (hS : S = hsz t n i), ((K : Int) + 1 - i).toNat < nq → V X (YX6_logAll l G) 0 0 72 [some (.ref (A 0)), some (.int (zI S)), some (.int (zI i))] [] [((A 0), .inr (6, [.ref (A 1), .ref (A 4), .ref (A 6), .int (zI bb), .ref (A 9), .ref (A 7), .ref (A 14), .ref (A 18), .ref (A 22)])), ((A 1), .inr (0, [.ref (A 2), .ref (A 3)])), ((A 2), aI G 26181 (foA t n a i.toNat)), ((A 3), aI G 1584 tt), ((A 4), .inr (2, [.ref (A 5), .int (zI (oN o s)), .int (zI (sN s))])), ((A 5), aI G 104724 (RN a o s R)), ((A 6), aI G 26181 sn), ((A 7), .inr (5, [.ref (A 8), .int (zI n)])), ((A 8), aC G 80 t), ((A 9), .inr (3, [.ref (A 7), .ref (A 10), .ref (A 11), .ref (A 12), .ref (A 13), .int (zI ((K : Int) + 1)), .int (zI (posz (iez t n (plz t n K))))])), ((A 10), aI G 16 rs), ((A 11), aI G 16 ds), ((A 12), aI G 16 ss), ((A 13), aI G 16 hs), ((A 14), .inr (4, [.ref (A 15), .ref (A 16), .ref (A 17), .int (zI mi1)])), ((A 15), aI G 48 f1), ((A 16), aI G 48 m1), ((A 17), aZ G 48 g1), ((A 18), .inr (4, [.ref (A 19), .ref (A 20), .ref (A 21), .int (zI mi2)])), ((A 19), aI G 48 f2), ((A 20), aI G 48 m2), ((A 21), aZ G 48 g2), ((A 22), .inr (1, [.ref (A 23), .int (zI df), .int (zI dq), .int (zI sc)])), ((A 23), .inr (4, [.ref (A 24), .ref (A 25), .ref (A 26), .int (zI mi3)])), ((A 24), aI G 48 f3), ((A 25), aI G 48 m3), ((A 26), aZ G 48 g3)] := by
            intro n72
            induction n72 with
            | zero => intro i S hi2 hS hm72; exact absurd hm72 (Nat.not_lt_zero _)
            | succ n72 ih72 =>
              intro i S hi2 hS hm72
              have hnt := fun h : i < (K : Int) + 1 => hent i.toNat (by omega)
              refine V.iload_n (q := 73) F dX6_logAll_72 rfl rfl rfl ?_
              refine V.aload_n (q := 74) F dX6_logAll_73 rfl rfl rfl ?_
              refine V.get (q := 77) F 0 4 dX6_logAll_74 rfl rfl rfl inX6_logAll_X6 (by decide) (List.mem_of_getElem? (i := 1) rfl) rfl ?_
              refine V.get (q := 80) F 9 5 dX6_logAll_77 rfl rfl rfl inX6_logAll_X3 (by decide) (List.mem_of_getElem? (i := 5) rfl) rfl ?_
              refine V.icmp_ge (q := 83) (tgt := 113) F dX6_logAll_80 rfl (by decide) (by omega) (fun k80 => ?_) (fun k80 => ?_)
              · refine V.iload_n (q := 114) F dX6_logAll_113 rfl rfl rfl ?_
                have hiE : i = (K : Int) + 1 := by omega
                subst hiE
                exact V.iret F T dX6_logAll_114 ⟨⟨(_, _, _, _, _), (_, _, _), (_, _, _), (_, _, _), (_, _, _, _, _, _, _, _)⟩, (iEq (by unfold rLA; rw [if_neg (by omega), if_neg (by omega)]; exact hS)), fun h9 => absurd h9 (by unfold rLA; omega), fun _ => rfl⟩ [(A 0), (A 1), (A 2), (A 3), (A 4), (A 5), (A 6), (A 7), (A 8), (A 9), (A 10), (A 11), (A 12), (A 13), (A 14), (A 15), (A 16), (A 17), (A 18), (A 19), (A 20), (A 21), (A 22), (A 23), (A 24), (A 25), (A 26)] rfl rfl
              · refine V.aload_n (q := 84) F dX6_logAll_83 rfl rfl rfl ?_
                refine V.get (q := 87) F 0 4 dX6_logAll_84 rfl rfl rfl inX6_logAll_X6 (by decide) (List.mem_of_getElem? (i := 1) rfl) rfl ?_
                refine V.aload_n (q := 88) F dX6_logAll_87 rfl rfl rfl ?_
                refine V.get (q := 91) F 0 0 dX6_logAll_88 rfl rfl rfl inX6_logAll_X6 (by decide) (List.mem_of_getElem? (i := 3) rfl) rfl ?_
                refine V.iload_n (q := 92) F dX6_logAll_91 rfl rfl rfl ?_
                refine V.callV (q := 95) F [9, 10, 11, 12, 13, 1, 2] 9 dX6_logAll_92 rfl (c_X3_addEntry l G (A 9) (A 7) 0 (A 10) (A 11) (A 12) (A 13) (A 1) (A 2) (A 3) _ _ _ _ _ _ _ _ (by omega) (by have h3 := hnt (by omega); rw [(hH i hi2.1 (by omega)).1, (hH i hi2.1 (by omega)).2.1, (hH i hi2.1 (by omega)).2.2.1]; exact ⟨h3.1, h3.2.2⟩)) gX6_logAll_X3_addEntry rfl rfl ydX3_addEntry ⟨Nat.le_of_ble_eq_true rfl, Nat.le_of_ble_eq_true rfl⟩ (ci := 3) rfl rfl rfl rfl (Nat.le_of_ble_eq_true rfl) rfl rfl ⟨Nat.zero_le _, Nat.zero_le _⟩ (kkf (st' := []) (ws' := [_, _, _, _, _, _, _, _, _, _, _, _, _, _, _, _, _, _, _, _, _, _, _, _, _, _, _]) rfl rfl ?_)
                rw [show entA (foA t n a i.toNat) (rs i) (ds i) (ss i) (hs i) = foA t n a (i + 1).toNat by rw [show (i + 1).toNat = i.toNat + 1 by omega, foA, (hH i hi2.1 (by omega)).1, (hH i hi2.1 (by omega)).2.1, (hH i hi2.1 (by omega)).2.2.1, (hH i hi2.1 (by omega)).2.2.2]]
                refine V.iload_n (q := 96) F dX6_logAll_95 rfl rfl rfl ?_
                refine V.aload_n (q := 97) F dX6_logAll_96 rfl rfl rfl ?_
                refine V.get (q := 100) F 0 4 dX6_logAll_97 rfl rfl rfl inX6_logAll_X6 (by decide) (List.mem_of_getElem? (i := 1) rfl) rfl ?_
                refine V.get (q := 103) F 9 4 dX6_logAll_100 rfl rfl rfl inX6_logAll_X3 (by decide) (List.mem_of_getElem? (i := 6) rfl) rfl ?_
                refine V.iload_n (q := 104) F dX6_logAll_103 rfl rfl rfl ?_
                refine V.iald (q := 105) F 13 dX6_logAll_104 rfl rfl (by decide) (by omega) ?_
                refine V.iadd (q := 106) F dX6_logAll_105 rfl ?_
                refine V.istore_n (q := 107) (lo' := [_, _, _]) F dX6_logAll_106 rfl rfl (Nat.le_of_ble_eq_true rfl) rfl rfl ?_
                refine V.iinc (q := 110) (lo' := [_, _, _]) F dX6_logAll_107 rfl rfl (Nat.le_of_ble_eq_true rfl) rfl rfl ?_
                refine V.goto (tgt := 72) F dX6_logAll_110 (by decide) ?_
                exact ih72 (i + 1) _ (by omega) (by unfold hsz; rw [sz_succ _ hi2.1]; show S + hs i = hsz t n i + _; rw [← hS, (hH i hi2.1 (by omega)).2.2.2]) (by omega)
          exact L72 _ 0 0 (by omega) (sz_self _ _).symm (Nat.lt_succ_self _)
        · refine V.aload_n (q := 30) F dX6_logAll_29 rfl rfl rfl ?_
          refine V.get (q := 33) F 0 0 dX6_logAll_30 rfl rfl rfl inX6_logAll_X6 (by decide) (List.mem_of_getElem? (i := 3) rfl) rfl ?_
          refine V.iload_n (q := 34) F dX6_logAll_33 rfl rfl rfl ?_
          refine V.aload_n (q := 35) F dX6_logAll_34 rfl rfl rfl ?_
          refine V.get (q := 38) F 0 4 dX6_logAll_35 rfl rfl rfl inX6_logAll_X6 (by decide) (List.mem_of_getElem? (i := 1) rfl) rfl ?_
          refine V.iload_n (q := 39) F dX6_logAll_38 rfl rfl rfl ?_
          refine V.callV (q := 42) F [9, 10, 13] 9 dX6_logAll_39 rfl (c_X3_hoursOf l G (A 9) (A 7) 0 (A 10) (A 11) (A 12) (A 13) _ _ _ _ _ (by omega) (by omega) (fun j h1 h2 => by rw [(hH j h1 h2).1]; have := hent j.toNat (by omega); omega)) gX6_logAll_X3_hoursOf rfl rfl ydX3_hoursOf ⟨Nat.le_of_ble_eq_true rfl, Nat.le_of_ble_eq_true rfl⟩ (ci := 3) rfl rfl rfl rfl (Nat.le_of_ble_eq_true rfl) rfl rfl ⟨Nat.zero_le _, Nat.zero_le _⟩ (kkf (st' := [_, _, _]) (ws' := [_, _, _, _, _, _, _, _, _, _, _, _, _, _, _, _, _, _, _, _, _, _, _, _, _, _, _]) rfl rfl ?_)
          rw [show sz (fun j => if rs j = i then hs j else 0) 0 ((K : Int) + 1) = tsz t n K i from sz_congr (fun j h1 h2 => by rw [(hH j h1 h2).1, (hH j h1 h2).2.2.2])]
          refine V.callV (q := 45) F [1, 2] 1 dX6_logAll_42 rfl (c_X0_hasRoom l G (A 1) (A 2) (A 3) _ _ _ (by omega) (hw (by omega)) (by omega)) gX6_logAll_X0_hasRoom rfl rfl ydX0_hasRoom ⟨Nat.le_of_ble_eq_true rfl, Nat.le_of_ble_eq_true rfl⟩ (ci := 0) rfl rfl rfl rfl (Nat.le_of_ble_eq_true rfl) rfl rfl ⟨Nat.zero_le _, Nat.zero_le _⟩ (kkf (st' := [_]) (ws' := [_, _, _, _, _, _, _, _, _, _, _, _, _, _, _, _, _, _, _, _, _, _, _, _, _, _, _]) rfl rfl ?_)
          refine V.if_ne (q := 48) (tgt := 51) F dX6_logAll_45 rfl (by decide) (by omega) (fun k45 => ?_) (fun k45 => ?_)
          · refine V.iinc (q := 54) (lo' := [_, _, _]) F dX6_logAll_51 rfl rfl (Nat.le_of_ble_eq_true rfl) rfl rfl ?_
            refine V.goto (tgt := 23) F dX6_logAll_54 (by decide) ?_
            exact ih23 (i + 1) (by omega) (by unfold ovz; rw [sz_succ _ hi.1]; show ovz a t n K i + _ = 0; rw [hov, if_neg (by omega)]; rfl) (by omega)
          · refine V.bipush (q := 50) F dX6_logAll_48 rfl (by decide) ?_
            have hop := ovz_pos (a := a) (t := t) (n := n) (K := K) (i := i) (by omega) (by omega)
            exact V.iret F T dX6_logAll_50 ⟨⟨(_, _, _, _, _), (_, _, _), (_, _, _), (_, _, _), (_, _, _, _, _, _, _, _)⟩, (iEq (by unfold rLA; omega)), fun _ => rfl, fun h9 => absurd h9 (by unfold rLA; omega)⟩ [(A 0), (A 1), (A 2), (A 3), (A 4), (A 5), (A 6), (A 7), (A 8), (A 9), (A 10), (A 11), (A 12), (A 13), (A 14), (A 15), (A 16), (A 17), (A 18), (A 19), (A 20), (A 21), (A 22), (A 23), (A 24), (A 25), (A 26)] rfl rfl
    exact L23 _ 0 (by omega) (sz_self _ _) (Nat.lt_succ_self _)
  · refine V.bipush (q := 12) F dX6_logAll_10 rfl (by decide) ?_
    refine V.aload_n (q := 13) F dX6_logAll_12 rfl rfl rfl ?_
    refine V.get (q := 16) F 0 4 dX6_logAll_13 rfl rfl rfl inX6_logAll_X6 (by decide) (List.mem_of_getElem? (i := 1) rfl) rfl ?_
    refine V.get (q := 19) F 9 6 dX6_logAll_16 rfl rfl rfl inX6_logAll_X3 (by decide) (List.mem_of_getElem? (i := 2) rfl) rfl ?_
    refine V.isub (q := 20) F dX6_logAll_19 rfl ?_
    exact V.iret F T dX6_logAll_20 ⟨⟨(_, _, _, _, _), (_, _, _), (_, _, _), (_, _, _), (_, _, _, _, _, _, _, _)⟩, (iEq (by unfold rLA; omega)), fun _ => rfl, fun h9 => absurd h9 (by unfold rLA; omega)⟩ [(A 0), (A 1), (A 2), (A 3), (A 4), (A 5), (A 6), (A 7), (A 8), (A 9), (A 10), (A 11), (A 12), (A 13), (A 14), (A 15), (A 16), (A 17), (A 18), (A 19), (A 20), (A 21), (A 22), (A 23), (A 24), (A 25), (A 26)] rfl rfl

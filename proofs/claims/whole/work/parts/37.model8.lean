abbrev YX7_logAll (l : Launch) (G : Gx) : Sx := (cX7_logAll, 3, RX7, wsX7_logAll, rmD 7, l, G)
theorem ydX7_logAll : ydOk yX7_logAll 0 := by decide +kernel
theorem inX7_logAll_X7 : ∀ w ∈ wsX70, w ∈ wsX7_logAll := fun _ h => List.mem_cons_of_mem _ (List.mem_append_right _ h)
set_option maxHeartbeats 1000000 in
set_option maxRecDepth 20000 in
theorem c_X7_logAll (l : Launch) (G : Gx) (hm ms mp mq mt mpa msh mo mtu : Nat) (a sv past sq t pa sh ot tu : Int → Int) (kn kp n : Int) (K : Nat) (hR : Rel a sv) (hI : Inv a) (hkn : 0 ≤ kn ∧ kn ≤ 4) (hkp : 0 ≤ kp ∧ kp ≤ 1) (hn : 0 ≤ n ∧ n ≤ 80) (ht : ∀ j, 0 ≤ t j ∧ t j < 65536) (hK : Par t n K) (hK13 : K ≤ 13) : Ct l G yX7_logAll wsX7_logAll (rmD 7) [.ref hm] [(hm, .inr (7, [.ref ms, .ref mp, .int (zI kn), .ref mq, .int (zI kp), .ref mt, .int (zI n), .ref mpa, .ref msh, .ref mo, .ref mtu])), (ms, aJ G 7157 sv), (mp, aJ G 28628 past), (mq, aJ G 7157 sq), (mt, aI G 80 t), (mpa, aI G 48 pa), (msh, aI G 48 sh), (mo, aI G 48 ot), (mtu, aI G 16 tu)] (AcM hm ms mp mq mt mpa msh mo mtu G sv past kn sq kp t n (Rel (foA t n a (K + 1))) (PN sv kn past) (sN kn) sq kp t n (rLA a t n K)) := by
  refine Ct.intro (cc := cX7_logAll) (maxL := 3) (ret := (some .int)) (lo0 := [some (.ref hm), none, none]) (by decide +kernel) rfl ⟨rfl, rfl⟩ (Nat.le_of_ble_eq_true rfl) rfl ?_
  intro X F T
  change Fx X (YX7_logAll l G) at F
  change V X (YX7_logAll l G) 0 0 0 _ _ _
  have eP : posz (iez t n (plz t n K)) = if 0 ≤ iez t n (plz t n K) then iez t n (plz t n K) else -1 - iez t n (plz t n K) := rfl
  have ef : fltz t n K = if iez t n (plz t n K) < 0 then -1 - iez t n (plz t n K) else if iez t n (plz t n K) = n then -5 else iez t n (plz t n K) := rfl
  have hb9 := iez_b (t := t) (n := n) (p := plz t n K) (by have := plz_rng hn.1 hK.1 K (Nat.le_refl K); omega)
  refine V.aload_n (q := 1) F dX7_logAll_0 rfl rfl rfl ?_
  refine V.callV (q := 4) F [0, 4] 0 dX7_logAll_1 rfl (c_X7_faultAt l G hm ms mp mq mt mpa msh mo mtu _ _ _ _ _ (by omega) ht hK (by omega)) gX7_logAll_X7_faultAt rfl rfl ydX7_faultAt ⟨Nat.le_of_ble_eq_true rfl, Nat.le_of_ble_eq_true rfl⟩ (ci := 7) rfl rfl rfl rfl (Nat.le_of_ble_eq_true rfl) rfl rfl ⟨Nat.zero_le _, Nat.zero_le _⟩ (kkf (st' := [_]) (ws' := [_, _, _, _, _, _, _, _, _]) rfl rfl ?_)
  refine V.istore_n (q := 5) (lo' := [_, _, _]) F dX7_logAll_4 rfl rfl (Nat.le_of_ble_eq_true rfl) rfl rfl ?_
  refine V.iload_n (q := 6) F dX7_logAll_5 rfl rfl rfl ?_
  refine V.bipush (q := 8) F dX7_logAll_6 rfl (by decide) ?_
  refine V.icmp_eq (q := 11) (tgt := 16) F dX7_logAll_8 rfl (by decide) (by omega) (fun k8 => ?_) (fun k8 => ?_)
  · have hz0 : iez t n (plz t n K) = n := by omega
    have hz : 0 ≤ iez t n (plz t n K) := by omega
    have hent := ent_ok hn hK hz
    have hts := tsz_rng hn hK hK13 hz
    have hhs := hsz_rng hn hK hz (i := (K : Int) + 1) (by omega)
    have eK1 : plz t n (K + 1) = n + 1 := by rw [plz, hz0]
    refine V.iconst (q := 17) F dX7_logAll_16 rfl ?_
    refine V.istore_n (q := 18) (lo' := [_, _, _]) F dX7_logAll_17 rfl rfl (Nat.le_of_ble_eq_true rfl) rfl rfl ?_
    have L18 : ∀ (nq : Nat) (i : Int) (pa2 : Int → Int) (hi : 0 ≤ i ∧ i ≤ 16) (hovz : ovz a t n K i = 0), (16 - i).toNat < nq → V X (YX7_logAll l G) 0 0 18 [some (.ref hm), some (.int (zI (fltz t n K))), some (.int (zI i))] [] [(hm, .inr (7, [.ref ms, .ref mp, .int (zI kn), .ref mq, .int (zI kp), .ref mt, .int (zI n), .ref mpa, .ref msh, .ref mo, .ref mtu])), (ms, aJ G 7157 sv), (mp, aJ G 28628 past), (mq, aJ G 7157 sq), (mt, aI G 80 t), (mpa, aI G 48 pa2), (msh, aI G 48 sh), (mo, aI G 48 ot), (mtu, aI G 16 tu)] := by
      intro n18
      induction n18 with
      | zero => intro i pa2 hi hovz hm18; exact absurd hm18 (Nat.not_lt_zero _)
      | succ n18 ih18 =>
        intro i pa2 hi hovz hm18
        have hw := fun h : i < 16 => hI.w (r := i) ⟨hi.1, h⟩
        have hti := hts i
        refine V.iload_n (q := 19) F dX7_logAll_18 rfl rfl rfl ?_
        refine V.bipush (q := 21) F dX7_logAll_19 rfl (by decide) ?_
        refine V.icmp_ge (q := 24) (tgt := 50) F dX7_logAll_21 rfl (by decide) (by omega) (fun k21 => ?_) (fun k21 => ?_)
        · have hi16 : i = 16 := by omega
          subst hi16
          have hful : ∀ r, 0 ≤ r → r < 16 → a (25344 + r) + a (25360 + r) + tsz t n K r ≤ 9999 := by
            intro r h1 h2
            rcases Int.lt_or_le 9999 (a (25344 + r) + a (25360 + r) + tsz t n K r) with g | g
            · have := ovz_pos (a := a) (t := t) (n := n) (K := K) (i := r) ⟨h1, h2⟩ g
              omega
            · exact g
          refine V.aload_n (q := 51) F dX7_logAll_50 rfl rfl rfl ?_
          refine V.callV (q := 54) F [0, 1, 2] 0 dX7_logAll_51 rfl (c_X7_remembers l G hm ms mp mq mt mpa msh mo mtu _ _ _ _ _ (by omega)) gX7_logAll_X7_remembers rfl rfl ydX7_remembers ⟨Nat.le_of_ble_eq_true rfl, Nat.le_of_ble_eq_true rfl⟩ (ci := 7) rfl rfl rfl rfl (Nat.le_of_ble_eq_true rfl) rfl rfl ⟨Nat.zero_le _, Nat.zero_le _⟩ (kkf (st' := []) (ws' := [_, _, _, _, _, _, _, _, _]) rfl rfl ?_)
          refine V.iconst (q := 55) F dX7_logAll_54 rfl ?_
          refine V.istore_n (q := 56) (lo' := [_, _, _]) F dX7_logAll_55 rfl rfl (Nat.le_of_ble_eq_true rfl) rfl rfl ?_
          have L56 : ∀ (nq : Nat) (k Q : Int) (sv2 : Int → Int) (hk : 0 ≤ k ∧ k ≤ (K : Int) + 1) (hQ : Q = plz t n k.toNat) (hR2 : Rel (foA t n a k.toNat) sv2), ((K : Int) + 2 - k).toNat < nq → V X (YX7_logAll l G) 0 0 56 [some (.ref hm), some (.int (zI (fltz t n K))), some (.int (zI Q))] [] [(hm, .inr (7, [.ref ms, .ref mp, .int (zI (sN kn)), .ref mq, .int (zI kp), .ref mt, .int (zI n), .ref mpa, .ref msh, .ref mo, .ref mtu])), (ms, aJ G 7157 sv2), (mp, aJ G 28628 (PN sv kn past)), (mq, aJ G 7157 sq), (mt, aI G 80 t), (mpa, aI G 48 pa2), (msh, aI G 48 sh), (mo, aI G 48 ot), (mtu, aI G 16 tu)] := by
            intro n56
            induction n56 with
            | zero => intro k Q sv2 hk hQ hR2 hm56; exact absurd hm56 (Nat.not_lt_zero _)
            | succ n56 ih56 =>
              intro k Q sv2 hk hQ hR2 hm56
              have hkK : k ≤ (K : Int) ∧ 0 ≤ Q ∧ Q < n ∧ 0 ≤ iez t n Q ∧ iez t n Q ≤ n ∨ k = (K : Int) + 1 ∧ Q = n + 1 := by
                rcases Int.lt_or_le (K : Int) k with g | g
                · right; exact ⟨by omega, by rw [hQ, show k.toNat = K + 1 by omega]; exact eK1⟩
                · left
                  have hp := plz_rng hn.1 hK.1 k.toNat (by omega)
                  rw [← hQ] at hp
                  have hr := iez_rng t n hp.1 hp.2.1
                  have h0 : 0 ≤ iez t n Q := by
                    rcases Int.lt_or_le k (K : Int) with g2 | g2
                    · have hc := (hK.1 k.toNat (by omega)).1
                      rw [← hQ] at hc
                      exact hc
                    · rw [hQ, show k.toNat = K by omega]; omega
                  omega
              have hnt := fun h : k ≤ (K : Int) => hent k.toNat (by omega)
              rw [← hQ] at hnt
              have hfa := foA_inv hI hent hful k.toNat (by omega)
              refine V.iload_n (q := 57) F dX7_logAll_56 rfl rfl rfl ?_
              refine V.aload_n (q := 58) F dX7_logAll_57 rfl rfl rfl ?_
              refine V.get (q := 61) F 0 6 dX7_logAll_58 rfl rfl rfl inX7_logAll_X7 (by decide) (List.mem_of_getElem? (i := 1) rfl) rfl ?_
              refine V.icmp_ge (q := 64) (tgt := 80) F dX7_logAll_61 rfl (by decide) (by omega) (fun k61 => ?_) (fun k61 => ?_)
              · have hkE : k = (K : Int) + 1 := by omega
                subst hkE
                refine V.aload_n (q := 81) F dX7_logAll_80 rfl rfl rfl ?_
                refine V.iconst (q := 82) F dX7_logAll_81 rfl ?_
                refine V.callV (q := 85) F [0, 4] 0 dX7_logAll_82 rfl (c_X7_hoursOfText l G hm ms mp mq mt mpa msh mo mtu _ _ _ _ _ _ (by omega) ht hK (by omega) hz0 (by omega)) gX7_logAll_X7_hoursOfText rfl rfl ydX7_hoursOfText ⟨Nat.le_of_ble_eq_true rfl, Nat.le_of_ble_eq_true rfl⟩ (ci := 7) rfl rfl rfl rfl (Nat.le_of_ble_eq_true rfl) rfl rfl ⟨Nat.zero_le _, Nat.zero_le _⟩ (kkf (st' := [_]) (ws' := [_, _, _, _, _, _, _, _, _]) rfl rfl ?_)
                have e9 : (if (-1 : Int) < 0 then hsz t n ((K : Int) + 1) else tsz t n K (-1)) = hsz t n ((K : Int) + 1) := rfl
                exact V.iret F T dX7_logAll_85 ⟨_, _, _, _, _, (iEq (by rw [e9]; unfold rLA; omega)), fun h9 => absurd h9 (by unfold rLA; omega), fun _ => ⟨hR2, rfl⟩⟩ [hm, ms, mp, mq, mt, mpa, msh, mo, mtu] rfl rfl
              · have hkk : k ≤ (K : Int) := by omega
                have hh := hnt hkk
                have hq9 : a (25344 + rov t n Q) + a (25360 + rov t n Q) + tsz t n K (rov t n Q) ≤ 9999 := hful _ hh.1.1 hh.1.2
                have hmq : sz (fun j => if rov t n (plz t n j.toNat) = rov t n Q then hov t n (plz t n j.toNat) else 0) 0 (k + 1) ≤ tsz t n K (rov t n Q) := sz_mono (fun j h1 h2 => by
                  have := hent j.toNat (by omega)
                  split <;> omega) (Int.le_refl 0) (by omega) (by omega)
                rw [sz_succ _ hk.1, ← hQ, if_pos rfl] at hmq
                have h2t := hfa.2 _ hh.1.1 hh.1.2
                rw [show ((k.toNat : Nat) : Int) = k by omega] at h2t
                have htt : foA t n a k.toNat (25344 + rov t n Q) + foA t n a k.toNat (25360 + rov t n Q) + hov t n Q ≤ 9999 := by omega
                have hI9 := hfa.1
                refine V.aload_n (q := 65) F dX7_logAll_64 rfl rfl rfl ?_
                refine V.iload_n (q := 66) F dX7_logAll_65 rfl rfl rfl ?_
                refine V.callV (q := 69) F [0, 1, 4] 0 dX7_logAll_66 rfl (c_X7_logs l G hm ms mp mq mt mpa msh mo mtu (foA t n a k.toNat) _ _ _ _ _ _ hR2 hI9 (by omega) ht (by omega) (by omega) (by omega)) gX7_logAll_X7_logs rfl rfl ydX7_logs ⟨Nat.le_of_ble_eq_true rfl, Nat.le_of_ble_eq_true rfl⟩ (ci := 7) rfl rfl rfl rfl (Nat.le_of_ble_eq_true rfl) rfl rfl ⟨Nat.zero_le _, Nat.zero_le _⟩ (fun r9 w9 h9 _ => ?_)
                obtain ⟨sv3, rfl, rfl, hR3⟩ := h9
                refine V.eq (pc' := 69) (st' := []) (ws' := [_, _, _, _, _, _, _, _, _]) rfl rfl rfl rfl ?_
                refine V.aload_n (q := 70) F dX7_logAll_69 rfl rfl rfl ?_
                refine V.iload_n (q := 71) F dX7_logAll_70 rfl rfl rfl ?_
                refine V.callV (q := 74) F [0, 4] 0 dX7_logAll_71 rfl (c_X7_itemEnd l G hm ms mp mq mt mpa msh mo mtu _ _ _ _ _ (by omega) ht (by omega)) gX7_logAll_X7_itemEnd rfl rfl ydX7_itemEnd ⟨Nat.le_of_ble_eq_true rfl, Nat.le_of_ble_eq_true rfl⟩ (ci := 7) rfl rfl rfl rfl (Nat.le_of_ble_eq_true rfl) rfl rfl ⟨Nat.zero_le _, Nat.zero_le _⟩ (kkf (st' := [_]) (ws' := [_, _, _, _, _, _, _, _, _]) rfl rfl ?_)
                refine V.iconst (q := 75) F dX7_logAll_74 rfl ?_
                refine V.iadd (q := 76) F dX7_logAll_75 rfl ?_
                refine V.istore_n (q := 77) (lo' := [_, _, _]) F dX7_logAll_76 rfl rfl (Nat.le_of_ble_eq_true rfl) rfl rfl ?_
                refine V.goto (tgt := 56) F dX7_logAll_77 (by decide) ?_
                exact ih56 (k + 1) _ _ (by omega) (by rw [show (k + 1).toNat = k.toNat + 1 by omega, plz, ← hQ]) (by rw [show (k + 1).toNat = k.toNat + 1 by omega, foA, ← hQ]; exact hR3) (by omega)
          exact L56 _ 0 0 _ (by omega) rfl hR (Nat.lt_succ_self _)
        · refine V.aload_n (q := 25) F dX7_logAll_24 rfl rfl rfl ?_
          refine V.iload_n (q := 26) F dX7_logAll_25 rfl rfl rfl ?_
          refine V.callV (q := 29) F [0, 1, 5] 0 dX7_logAll_26 rfl (c_X7_hoursOf l G hm ms mp mq mt mpa msh mo mtu _ _ _ _ _ _ _ hR hI (by omega)) gX7_logAll_X7_hoursOf rfl rfl ydX7_hoursOf ⟨Nat.le_of_ble_eq_true rfl, Nat.le_of_ble_eq_true rfl⟩ (ci := 7) rfl rfl rfl rfl (Nat.le_of_ble_eq_true rfl) rfl rfl ⟨Nat.zero_le _, Nat.zero_le _⟩ (kkf (st' := [_]) (ws' := [_, _, _, _, _, _, _, _, _]) rfl rfl ?_)
          refine V.aload_n (q := 30) F dX7_logAll_29 rfl rfl rfl ?_
          refine V.iload_n (q := 31) F dX7_logAll_30 rfl rfl rfl ?_
          refine V.callV (q := 34) F [0, 4] 0 dX7_logAll_31 rfl (c_X7_hoursOfText l G hm ms mp mq mt mpa msh mo mtu _ _ _ _ _ _ (by omega) ht hK (by omega) hz0 (by omega)) gX7_logAll_X7_hoursOfText rfl rfl ydX7_hoursOfText ⟨Nat.le_of_ble_eq_true rfl, Nat.le_of_ble_eq_true rfl⟩ (ci := 7) rfl rfl rfl rfl (Nat.le_of_ble_eq_true rfl) rfl rfl ⟨Nat.zero_le _, Nat.zero_le _⟩ (kkf (st' := [_, _]) (ws' := [_, _, _, _, _, _, _, _, _]) rfl rfl ?_)
          refine V.iadd (q := 35) F dX7_logAll_34 rfl ?_
          refine V.sipush (q := 38) F dX7_logAll_35 rfl (by decide) ?_
          refine V.icmp_le (q := 41) (tgt := 44) F dX7_logAll_38 rfl (by decide) (by omega) (fun k38 => ?_) (fun k38 => ?_)
          · refine V.iinc (q := 47) (lo' := [_, _, _]) F dX7_logAll_44 rfl rfl (Nat.le_of_ble_eq_true rfl) rfl rfl ?_
            refine V.goto (tgt := 18) F dX7_logAll_47 (by decide) ?_
            exact ih18 (i + 1) _ (by omega) (by unfold ovz; rw [sz_succ _ hi.1]; show ovz a t n K i + _ = 0; rw [hovz, if_neg (by omega)]; rfl) (by omega)
          · refine V.bipush (q := 43) F dX7_logAll_41 rfl (by decide) ?_
            have hop := ovz_pos (a := a) (t := t) (n := n) (K := K) (i := i) (by omega) (by omega)
            exact V.iret F T dX7_logAll_43 ⟨sv, _, _, _, _, (iEq (by unfold rLA; omega)), fun _ => rfl, fun h9 => absurd h9 (by unfold rLA; omega)⟩ [hm, ms, mp, mq, mt, mpa, msh, mo, mtu] rfl rfl
    exact L18 _ 0 _ (by omega) (sz_self _ _) (Nat.lt_succ_self _)
  · refine V.bipush (q := 13) F dX7_logAll_11 rfl (by decide) ?_
    refine V.iload_n (q := 14) F dX7_logAll_13 rfl rfl rfl ?_
    refine V.isub (q := 15) F dX7_logAll_14 rfl ?_
    exact V.iret F T dX7_logAll_15 ⟨sv, _, _, _, _, (iEq (by unfold rLA; omega)), fun _ => rfl, fun h9 => absurd h9 (by unfold rLA; omega)⟩ [hm, ms, mp, mq, mt, mpa, msh, mo, mtu] rfl rfl

abbrev YX7_rose (l : Launch) (G : Gx) : Sx := (cX7_rose, 5, RX7, wsX7_rose, rmD 6, l, G)
theorem ydX7_rose : ydOk yX7_rose 3 := by decide +kernel
set_option maxHeartbeats 1000000 in
set_option maxRecDepth 20000 in
theorem c_X7_rose (l : Launch) (G : Gx) (hm ms mp mq mt mpa msh mo mtu : Nat) (a sv past sq t pa sh ot tu : Int → Int) (kn kp n p q w : Int) (hR : Rel a sv) (hI : Inv a) (hkn : 0 ≤ kn ∧ kn ≤ 4) (hkp : 0 ≤ kp ∧ kp ≤ 1) (hn : 0 ≤ n ∧ n ≤ 80) (ht : ∀ j, 0 ≤ t j ∧ t j < 65536) (hrp : -2147483648 ≤ p ∧ p < 2147483648) (hrq : -2147483648 ≤ q ∧ q < 2147483648) (hrw : -2147483648 ≤ w ∧ w < 2147483648) : Ct l G yX7_rose wsX7_rose (rmD 6) [.ref hm, .int (zI p), .int (zI q), .int (zI w)] [(hm, .inr (7, [.ref ms, .ref mp, .int (zI kn), .ref mq, .int (zI kp), .ref mt, .int (zI n), .ref mpa, .ref msh, .ref mo, .ref mtu])), (ms, aJ G 7157 sv), (mp, aJ G 28628 past), (mq, aJ G 7157 sq), (mt, aI G 80 t), (mpa, aI G 48 pa), (msh, aI G 48 sh), (mo, aI G 48 ot), (mtu, aI G 16 tu)] (RdM hm ms mp mq mt mpa msh mo mtu G sv past kn sq kp t n (rRose a p q w)) := by
  refine Ct.intro (cc := cX7_rose) (maxL := 5) (ret := (some .int)) (lo0 := [some (.ref hm), some (.int (zI p)), some (.int (zI q)), some (.int (zI w)), none]) (by decide +kernel) rfl ⟨rfl, rfl⟩ (Nat.le_of_ble_eq_true rfl) rfl ?_
  intro X F T
  change Fx X (YX7_rose l G) at F
  change V X (YX7_rose l G) 0 0 0 _ _ _
  have J5 : ∀ (x : Int) (hx : x = if (0 ≤ p ∧ p ≤ 3) ∧ (0 ≤ q ∧ q ≤ 3) then p * 4 + q else -1), V X (YX7_rose l G) 0 0 5 [some (.ref hm), some (.int (zI p)), some (.int (zI q)), some (.int (zI w)), none] [.int (zI x)] [(hm, .inr (7, [.ref ms, .ref mp, .int (zI kn), .ref mq, .int (zI kp), .ref mt, .int (zI n), .ref mpa, .ref msh, .ref mo, .ref mtu])), (ms, aJ G 7157 sv), (mp, aJ G 28628 past), (mq, aJ G 7157 sq), (mt, aI G 80 t), (mpa, aI G 48 pa), (msh, aI G 48 sh), (mo, aI G 48 ot), (mtu, aI G 16 tu)] := by
    intro x hx
    refine V.istore (q := 7) (lo' := [_, _, _, _, _]) F dX7_rose_5 rfl (Nat.le_of_ble_eq_true rfl) rfl rfl ?_
    refine V.iload (q := 9) F dX7_rose_7 rfl rfl ?_
    refine V.if_ge (q := 12) (tgt := 16) F dX7_rose_9 rfl (by decide) (by omega) (fun k9 => ?_) (fun k9 => ?_)
    · have hx2 : x = p * 4 + q := by omega
      subst hx2
      have hr : 0 ≤ p * 4 + q ∧ p * 4 + q < 16 := by omega
      have hw := hI.w hr
      have hset := hI.s
      have hB := hI.bnd
      have c1 := hR.clm hr
      refine V.iload_n (q := 17) F dX7_rose_16 rfl rfl rfl ?_
      refine V.iconst (q := 18) F dX7_rose_17 rfl ?_
      refine V.bipush (q := 20) F dX7_rose_18 rfl (by decide) ?_
      refine V.callS (q := 23) F [] dX7_rose_20 rfl (c_X7_in l G  _ _ _ (by omega) (by omega) (by omega)) gX7_rose_X7_in rfl ydX7_in ⟨Nat.le_of_ble_eq_true rfl, Nat.le_of_ble_eq_true rfl⟩ rfl rfl (Nat.le_of_ble_eq_true rfl) rfl rfl ⟨Nat.zero_le _, Nat.zero_le _⟩ (kkf (st' := [_]) (ws' := [_, _, _, _, _, _, _, _, _]) rfl rfl ?_)
      refine V.if_eq (q := 26) (tgt := 36) F dX7_rose_23 rfl (by decide) (by omega) (fun k23 => ?_) (fun k23 => ?_)
      · refine V.bipush (q := 38) F dX7_rose_36 rfl (by decide) ?_
        exact V.iret F T dX7_rose_38 ⟨_, _, _, _, (iEq (by unfold rRose; first | omega | (unfold rOf; omega))), rfl⟩ [hm, ms, mp, mq, mt, mpa, msh, mo, mtu] rfl rfl
      · refine V.aload_n (q := 27) F dX7_rose_26 rfl rfl rfl ?_
        refine V.iload (q := 29) F dX7_rose_27 rfl rfl ?_
        refine V.iload_n (q := 30) F dX7_rose_29 rfl rfl rfl ?_
        refine V.callV (q := 33) F [0, 1, 5] 0 dX7_rose_30 rfl (c_X7_ofRose l G hm ms mp mq mt mpa msh mo mtu _ _ _ _ _ _ _ _ hR hI (by omega) (by omega)) gX7_rose_X7_ofRose rfl rfl ydX7_ofRose ⟨Nat.le_of_ble_eq_true rfl, Nat.le_of_ble_eq_true rfl⟩ (ci := 7) rfl rfl rfl rfl (Nat.le_of_ble_eq_true rfl) rfl rfl ⟨Nat.zero_le _, Nat.zero_le _⟩ (fun r9 w9 h9 _ => ?_)
        obtain ⟨pa, rfl, rfl⟩ := h9
        refine V.eq (pc' := 33) (st' := [_]) (ws' := [_, _, _, _, _, _, _, _, _]) rfl rfl rfl rfl ?_
        refine V.goto (tgt := 38) F dX7_rose_33 (by decide) ?_
        exact V.iret F T dX7_rose_38 ⟨_, _, _, _, (iEq (by unfold rRose; first | omega | (unfold rOf; omega))), rfl⟩ [hm, ms, mp, mq, mt, mpa, msh, mo, mtu] rfl rfl
    · refine V.iconst (q := 13) F dX7_rose_12 rfl ?_
      refine V.goto (tgt := 38) F dX7_rose_13 (by decide) ?_
      exact V.iret F T dX7_rose_38 ⟨_, _, _, _, (iEq (by unfold rRose; first | omega | (unfold rOf; omega))), rfl⟩ [hm, ms, mp, mq, mt, mpa, msh, mo, mtu] rfl rfl
  refine V.iload_n (q := 1) F dX7_rose_0 rfl rfl rfl ?_
  refine V.iload_n (q := 2) F dX7_rose_1 rfl rfl rfl ?_
  refine V.callS (q := 5) F [] dX7_rose_2 rfl (c_X7_roseOf l G  _ _ (by omega) (by omega)) gX7_rose_X7_roseOf rfl ydX7_roseOf ⟨Nat.le_of_ble_eq_true rfl, Nat.le_of_ble_eq_true rfl⟩ rfl rfl (Nat.le_of_ble_eq_true rfl) rfl rfl ⟨Nat.zero_le _, Nat.zero_le _⟩ (kkf (st' := [_]) (ws' := [_, _, _, _, _, _, _, _, _]) rfl rfl ?_)
  exact J5 _ (by omega)

abbrev YX7_hours (l : Launch) (G : Gx) : Sx := (cX7_hours, 7, RX7, wsX7_hours, rmD 3, l, G)
theorem ydX7_hours : ydOk yX7_hours 4 := by decide +kernel
theorem inX7_hours_X7 : ∀ w ∈ wsX70, w ∈ wsX7_hours := fun _ h => List.mem_cons_of_mem _ (List.mem_append_right _ h)
set_option maxHeartbeats 1000000 in
set_option maxRecDepth 20000 in
theorem c_X7_hours (l : Launch) (G : Gx) (hm ms mp mq mt mpa msh mo mtu : Nat) (a sv past sq t pa sh ot tu : Int → Int) (kn kp n p q d k : Int) (hR : Rel a sv) (hI : Inv a) (hkn : 0 ≤ kn ∧ kn ≤ 4) (hkp : 0 ≤ kp ∧ kp ≤ 1) (hn : 0 ≤ n ∧ n ≤ 80) (ht : ∀ j, 0 ≤ t j ∧ t j < 65536) (hrp : -2147483648 ≤ p ∧ p < 2147483648) (hrq : -2147483648 ≤ q ∧ q < 2147483648) (hrd : -2147483648 ≤ d ∧ d < 2147483648) (hrk : -2147483648 ≤ k ∧ k < 2147483648) : Ct l G yX7_hours wsX7_hours (rmD 3) [.ref hm, .int (zI p), .int (zI q), .int (zI d), .int (zI k)] [(hm, .inr (7, [.ref ms, .ref mp, .int (zI kn), .ref mq, .int (zI kp), .ref mt, .int (zI n), .ref mpa, .ref msh, .ref mo, .ref mtu])), (ms, aJ G 7157 sv), (mp, aJ G 28628 past), (mq, aJ G 7157 sq), (mt, aI G 80 t), (mpa, aI G 48 pa), (msh, aI G 48 sh), (mo, aI G 48 ot), (mtu, aI G 16 tu)] (RdM hm ms mp mq mt mpa msh mo mtu G sv past kn sq kp t n (rHours a p q d k)) := by
  refine Ct.intro (cc := cX7_hours) (maxL := 7) (ret := (some .int)) (lo0 := [some (.ref hm), some (.int (zI p)), some (.int (zI q)), some (.int (zI d)), some (.int (zI k)), none, none]) (by decide +kernel) rfl ⟨rfl, rfl⟩ (Nat.le_of_ble_eq_true rfl) rfl ?_
  intro X F T
  change Fx X (YX7_hours l G) at F
  change V X (YX7_hours l G) 0 0 0 _ _ _
  have J5 : ∀ (x : Int) (hx : x = if (0 ≤ p ∧ p ≤ 3) ∧ (0 ≤ q ∧ q ≤ 3) then p * 4 + q else -1), V X (YX7_hours l G) 0 0 5 [some (.ref hm), some (.int (zI p)), some (.int (zI q)), some (.int (zI d)), some (.int (zI k)), none, none] [.int (zI x)] [(hm, .inr (7, [.ref ms, .ref mp, .int (zI kn), .ref mq, .int (zI kp), .ref mt, .int (zI n), .ref mpa, .ref msh, .ref mo, .ref mtu])), (ms, aJ G 7157 sv), (mp, aJ G 28628 past), (mq, aJ G 7157 sq), (mt, aI G 80 t), (mpa, aI G 48 pa), (msh, aI G 48 sh), (mo, aI G 48 ot), (mtu, aI G 16 tu)] := by
    intro x hx
    refine V.istore (q := 7) (lo' := [_, _, _, _, _, _, _]) F dX7_hours_5 rfl (Nat.le_of_ble_eq_true rfl) rfl rfl ?_
    refine V.iload (q := 9) F dX7_hours_7 rfl rfl ?_
    refine V.if_lt (q := 12) (tgt := 29) F dX7_hours_9 rfl (by decide) (by omega) (fun k9 => ?_) (fun k9 => ?_)
    · refine V.iconst (q := 30) F dX7_hours_29 rfl ?_
      exact V.iret F T dX7_hours_30 ⟨_, _, _, _, (iEq (by unfold rHours; omega)), rfl⟩ [hm, ms, mp, mq, mt, mpa, msh, mo, mtu] rfl rfl
    · have hx2 : x = p * 4 + q := by omega
      subst hx2
      have hr : 0 ≤ p * 4 + q ∧ p * 4 + q < 16 := by omega
      have hw := hI.w hr
      have hset := hI.s
      have hB := hI.bnd
      have c1 := hR.clm hr
      refine V.iload_n (q := 13) F dX7_hours_12 rfl rfl rfl ?_
      refine V.callS (q := 16) F [] dX7_hours_13 rfl (c_X7_isDirection l G  _ (by omega)) gX7_hours_X7_isDirection rfl ydX7_isDirection ⟨Nat.le_of_ble_eq_true rfl, Nat.le_of_ble_eq_true rfl⟩ rfl rfl (Nat.le_of_ble_eq_true rfl) rfl rfl ⟨Nat.zero_le _, Nat.zero_le _⟩ (kkf (st' := [_]) (ws' := [_, _, _, _, _, _, _, _, _]) rfl rfl ?_)
      refine V.if_eq (q := 19) (tgt := 29) F dX7_hours_16 rfl (by decide) (by omega) (fun k16 => ?_) (fun k16 => ?_)
      · refine V.iconst (q := 30) F dX7_hours_29 rfl ?_
        exact V.iret F T dX7_hours_30 ⟨_, _, _, _, (iEq (by unfold rHours; omega)), rfl⟩ [hm, ms, mp, mq, mt, mpa, msh, mo, mtu] rfl rfl
      · refine V.iload (q := 21) F dX7_hours_19 rfl rfl ?_
        refine V.iconst (q := 22) F dX7_hours_21 rfl ?_
        refine V.iconst (q := 23) F dX7_hours_22 rfl ?_
        refine V.callS (q := 26) F [] dX7_hours_23 rfl (c_X7_in l G  _ _ _ (by omega) (by omega) (by omega)) gX7_hours_X7_in rfl ydX7_in ⟨Nat.le_of_ble_eq_true rfl, Nat.le_of_ble_eq_true rfl⟩ rfl rfl (Nat.le_of_ble_eq_true rfl) rfl rfl ⟨Nat.zero_le _, Nat.zero_le _⟩ (kkf (st' := [_]) (ws' := [_, _, _, _, _, _, _, _, _]) rfl rfl ?_)
        refine V.if_ne (q := 29) (tgt := 31) F dX7_hours_26 rfl (by decide) (by omega) (fun k26 => ?_) (fun k26 => ?_)
        · refine V.aload_n (q := 32) F dX7_hours_31 rfl rfl rfl ?_
          refine V.iload (q := 34) F dX7_hours_32 rfl rfl ?_
          refine V.callV (q := 37) F [0, 1, 5] 0 dX7_hours_34 rfl (c_X7_looks l G hm ms mp mq mt mpa msh mo mtu _ _ _ _ _ _ _ hR hI (by omega)) gX7_hours_X7_looks rfl rfl ydX7_looks ⟨Nat.le_of_ble_eq_true rfl, Nat.le_of_ble_eq_true rfl⟩ (ci := 7) rfl rfl rfl rfl (Nat.le_of_ble_eq_true rfl) rfl rfl ⟨Nat.zero_le _, Nat.zero_le _⟩ (kkf (st' := [_]) (ws' := [_, _, _, _, _, _, _, _, _]) rfl rfl ?_)
          refine V.istore (q := 39) (lo' := [_, _, _, _, _, _, _]) F dX7_hours_37 rfl (Nat.le_of_ble_eq_true rfl) rfl rfl ?_
          refine V.iload (q := 41) F dX7_hours_39 rfl rfl ?_
          refine V.iconst (q := 42) F dX7_hours_41 rfl ?_
          refine V.icmp_ne (q := 45) (tgt := 53) F dX7_hours_42 rfl (by decide) (by omega) (fun k42 => ?_) (fun k42 => ?_)
          · refine V.aload_n (q := 54) F dX7_hours_53 rfl rfl rfl ?_
            refine V.get (q := 57) F 0 7 dX7_hours_54 rfl rfl rfl inX7_hours_X7 (by decide) (List.mem_of_getElem? (i := 1) rfl) rfl ?_
            refine V.iconst (q := 58) F dX7_hours_57 rfl ?_
            refine V.iload_n (q := 59) F dX7_hours_58 rfl rfl rfl ?_
            refine V.imul (q := 60) F dX7_hours_59 rfl ?_
            refine V.iload (q := 62) F dX7_hours_60 rfl rfl ?_
            refine V.iadd (q := 63) F dX7_hours_62 rfl ?_
            refine V.iald (q := 64) F 5 dX7_hours_63 rfl rfl (by decide) (by omega) ?_
            try rw [fil_in _ _ (by omega) (by omega), pth_d (by omega)]
            exact V.iret F T dX7_hours_64 ⟨_, _, _, _, (iEq (by unfold rHours; omega)), rfl⟩ [hm, ms, mp, mq, mt, mpa, msh, mo, mtu] rfl rfl
          · refine V.aload_n (q := 46) F dX7_hours_45 rfl rfl rfl ?_
            refine V.iload_n (q := 47) F dX7_hours_46 rfl rfl rfl ?_
            refine V.callV (q := 50) F [0, 5] 0 dX7_hours_47 rfl (c_X7_ofDirection l G hm ms mp mq mt mpa msh mo mtu _ _ _ _ _ _ _ hI (by omega)) gX7_hours_X7_ofDirection rfl rfl ydX7_ofDirection ⟨Nat.le_of_ble_eq_true rfl, Nat.le_of_ble_eq_true rfl⟩ (ci := 7) rfl rfl rfl rfl (Nat.le_of_ble_eq_true rfl) rfl rfl ⟨Nat.zero_le _, Nat.zero_le _⟩ (kkf (st' := [_]) (ws' := [_, _, _, _, _, _, _, _, _]) rfl rfl ?_)
            refine V.goto (tgt := 64) F dX7_hours_50 (by decide) ?_
            try rw [fil_in _ _ (by omega) (by omega), pth_d (by omega)]
            exact V.iret F T dX7_hours_64 ⟨_, _, _, _, (iEq (by unfold rHours; omega)), rfl⟩ [hm, ms, mp, mq, mt, mpa, msh, mo, mtu] rfl rfl
        · refine V.iconst (q := 30) F dX7_hours_29 rfl ?_
          exact V.iret F T dX7_hours_30 ⟨_, _, _, _, (iEq (by unfold rHours; omega)), rfl⟩ [hm, ms, mp, mq, mt, mpa, msh, mo, mtu] rfl rfl
  refine V.iload_n (q := 1) F dX7_hours_0 rfl rfl rfl ?_
  refine V.iload_n (q := 2) F dX7_hours_1 rfl rfl rfl ?_
  refine V.callS (q := 5) F [] dX7_hours_2 rfl (c_X7_roseOf l G  _ _ (by omega) (by omega)) gX7_hours_X7_roseOf rfl ydX7_roseOf ⟨Nat.le_of_ble_eq_true rfl, Nat.le_of_ble_eq_true rfl⟩ rfl rfl (Nat.le_of_ble_eq_true rfl) rfl rfl ⟨Nat.zero_le _, Nat.zero_le _⟩ (kkf (st' := [_]) (ws' := [_, _, _, _, _, _, _, _, _]) rfl rfl ?_)
  exact J5 _ (by omega)

abbrev YX7_share (l : Launch) (G : Gx) : Sx := (cX7_share, 6, RX7, wsX7_share, rmD 4, l, G)
theorem ydX7_share : ydOk yX7_share 4 := by decide +kernel
theorem inX7_share_X7 : ∀ w ∈ wsX70, w ∈ wsX7_share := fun _ h => List.mem_cons_of_mem _ (List.mem_append_right _ h)
set_option maxHeartbeats 1000000 in
set_option maxRecDepth 20000 in
theorem c_X7_share (l : Launch) (G : Gx) (hm ms mp mq mt mpa msh mo mtu : Nat) (a sv past sq t pa sh ot tu : Int → Int) (kn kp n p q d k : Int) (hR : Rel a sv) (hI : Inv a) (hkn : 0 ≤ kn ∧ kn ≤ 4) (hkp : 0 ≤ kp ∧ kp ≤ 1) (hn : 0 ≤ n ∧ n ≤ 80) (ht : ∀ j, 0 ≤ t j ∧ t j < 65536) (hrp : -2147483648 ≤ p ∧ p < 2147483648) (hrq : -2147483648 ≤ q ∧ q < 2147483648) (hrd : -2147483648 ≤ d ∧ d < 2147483648) (hrk : -2147483648 ≤ k ∧ k < 2147483648) : Ct l G yX7_share wsX7_share (rmD 4) [.ref hm, .int (zI p), .int (zI q), .int (zI d), .int (zI k)] [(hm, .inr (7, [.ref ms, .ref mp, .int (zI kn), .ref mq, .int (zI kp), .ref mt, .int (zI n), .ref mpa, .ref msh, .ref mo, .ref mtu])), (ms, aJ G 7157 sv), (mp, aJ G 28628 past), (mq, aJ G 7157 sq), (mt, aI G 80 t), (mpa, aI G 48 pa), (msh, aI G 48 sh), (mo, aI G 48 ot), (mtu, aI G 16 tu)] (RdM hm ms mp mq mt mpa msh mo mtu G sv past kn sq kp t n (rShare a p q d k)) := by
  refine Ct.intro (cc := cX7_share) (maxL := 6) (ret := (some .int)) (lo0 := [some (.ref hm), some (.int (zI p)), some (.int (zI q)), some (.int (zI d)), some (.int (zI k)), none]) (by decide +kernel) rfl ⟨rfl, rfl⟩ (Nat.le_of_ble_eq_true rfl) rfl ?_
  intro X F T
  change Fx X (YX7_share l G) at F
  change V X (YX7_share l G) 0 0 0 _ _ _
  have J5 : ∀ (x : Int) (hx : x = if (0 ≤ p ∧ p ≤ 3) ∧ (0 ≤ q ∧ q ≤ 3) then p * 4 + q else -1), V X (YX7_share l G) 0 0 5 [some (.ref hm), some (.int (zI p)), some (.int (zI q)), some (.int (zI d)), some (.int (zI k)), none] [.int (zI x)] [(hm, .inr (7, [.ref ms, .ref mp, .int (zI kn), .ref mq, .int (zI kp), .ref mt, .int (zI n), .ref mpa, .ref msh, .ref mo, .ref mtu])), (ms, aJ G 7157 sv), (mp, aJ G 28628 past), (mq, aJ G 7157 sq), (mt, aI G 80 t), (mpa, aI G 48 pa), (msh, aI G 48 sh), (mo, aI G 48 ot), (mtu, aI G 16 tu)] := by
    intro x hx
    refine V.istore (q := 7) (lo' := [_, _, _, _, _, _]) F dX7_share_5 rfl (Nat.le_of_ble_eq_true rfl) rfl rfl ?_
    refine V.iload (q := 9) F dX7_share_7 rfl rfl ?_
    refine V.if_lt (q := 12) (tgt := 21) F dX7_share_9 rfl (by decide) (by omega) (fun k9 => ?_) (fun k9 => ?_)
    · refine V.iconst (q := 22) F dX7_share_21 rfl ?_
      exact V.iret F T dX7_share_22 ⟨_, _, _, _, (iEq (by unfold rShare; omega)), rfl⟩ [hm, ms, mp, mq, mt, mpa, msh, mo, mtu] rfl rfl
    · have hx2 : x = p * 4 + q := by omega
      subst hx2
      have hr : 0 ≤ p * 4 + q ∧ p * 4 + q < 16 := by omega
      have hw := hI.w hr
      have hset := hI.s
      have hB := hI.bnd
      have c1 := hR.clm hr
      refine V.iload_n (q := 13) F dX7_share_12 rfl rfl rfl ?_
      refine V.iload (q := 15) F dX7_share_13 rfl rfl ?_
      refine V.callS (q := 18) F [] dX7_share_15 rfl (c_X7_isPart l G  _ _ (by omega) (by omega)) gX7_share_X7_isPart rfl ydX7_isPart ⟨Nat.le_of_ble_eq_true rfl, Nat.le_of_ble_eq_true rfl⟩ rfl rfl (Nat.le_of_ble_eq_true rfl) rfl rfl ⟨Nat.zero_le _, Nat.zero_le _⟩ (kkf (st' := [_]) (ws' := [_, _, _, _, _, _, _, _, _]) rfl rfl ?_)
      refine V.if_ne (q := 21) (tgt := 23) F dX7_share_18 rfl (by decide) (by omega) (fun k18 => ?_) (fun k18 => ?_)
      · refine V.aload_n (q := 24) F dX7_share_23 rfl rfl rfl ?_
        refine V.iload (q := 26) F dX7_share_24 rfl rfl ?_
        refine V.callV (q := 29) F [0, 1, 5, 6] 0 dX7_share_26 rfl (c_X7_finds l G hm ms mp mq mt mpa msh mo mtu _ _ _ _ _ _ _ _ hR hI (by omega)) gX7_share_X7_finds rfl rfl ydX7_finds ⟨Nat.le_of_ble_eq_true rfl, Nat.le_of_ble_eq_true rfl⟩ (ci := 7) rfl rfl rfl rfl (Nat.le_of_ble_eq_true rfl) rfl rfl ⟨Nat.zero_le _, Nat.zero_le _⟩ (kkf (st' := []) (ws' := [_, _, _, _, _, _, _, _, _]) rfl rfl ?_)
        refine V.aload_n (q := 30) F dX7_share_29 rfl rfl rfl ?_
        refine V.get (q := 33) F 0 8 dX7_share_30 rfl rfl rfl inX7_share_X7 (by decide) (List.mem_of_getElem? (i := 1) rfl) rfl ?_
        refine V.iconst (q := 34) F dX7_share_33 rfl ?_
        refine V.iload_n (q := 35) F dX7_share_34 rfl rfl rfl ?_
        refine V.imul (q := 36) F dX7_share_35 rfl ?_
        refine V.iload (q := 38) F dX7_share_36 rfl rfl ?_
        refine V.iadd (q := 39) F dX7_share_38 rfl ?_
        refine V.iald (q := 40) F 6 dX7_share_39 rfl rfl (by decide) (by omega) ?_
        rw [fil_in _ _ (by omega) (by omega), show 3 * d + k = d * 3 + k by omega]
        exact V.iret F T dX7_share_40 ⟨_, _, _, _, (iEq (by unfold rShare; omega)), rfl⟩ [hm, ms, mp, mq, mt, mpa, msh, mo, mtu] rfl rfl
      · refine V.iconst (q := 22) F dX7_share_21 rfl ?_
        exact V.iret F T dX7_share_22 ⟨_, _, _, _, (iEq (by unfold rShare; omega)), rfl⟩ [hm, ms, mp, mq, mt, mpa, msh, mo, mtu] rfl rfl
  refine V.iload_n (q := 1) F dX7_share_0 rfl rfl rfl ?_
  refine V.iload_n (q := 2) F dX7_share_1 rfl rfl rfl ?_
  refine V.callS (q := 5) F [] dX7_share_2 rfl (c_X7_roseOf l G  _ _ (by omega) (by omega)) gX7_share_X7_roseOf rfl ydX7_roseOf ⟨Nat.le_of_ble_eq_true rfl, Nat.le_of_ble_eq_true rfl⟩ rfl rfl (Nat.le_of_ble_eq_true rfl) rfl rfl ⟨Nat.zero_le _, Nat.zero_le _⟩ (kkf (st' := [_]) (ws' := [_, _, _, _, _, _, _, _, _]) rfl rfl ?_)
  exact J5 _ (by omega)

abbrev YX7_dealt (l : Launch) (G : Gx) : Sx := (cX7_dealt, 6, RX7, wsX7_dealt, rmD 4, l, G)
theorem ydX7_dealt : ydOk yX7_dealt 4 := by decide +kernel
theorem inX7_dealt_X7 : ∀ w ∈ wsX70, w ∈ wsX7_dealt := fun _ h => List.mem_cons_of_mem _ (List.mem_append_right _ h)
set_option maxHeartbeats 1000000 in
set_option maxRecDepth 20000 in
theorem c_X7_dealt (l : Launch) (G : Gx) (hm ms mp mq mt mpa msh mo mtu : Nat) (a sv past sq t pa sh ot tu : Int → Int) (kn kp n p q d k : Int) (hR : Rel a sv) (hI : Inv a) (hkn : 0 ≤ kn ∧ kn ≤ 4) (hkp : 0 ≤ kp ∧ kp ≤ 1) (hn : 0 ≤ n ∧ n ≤ 80) (ht : ∀ j, 0 ≤ t j ∧ t j < 65536) (hrp : -2147483648 ≤ p ∧ p < 2147483648) (hrq : -2147483648 ≤ q ∧ q < 2147483648) (hrd : -2147483648 ≤ d ∧ d < 2147483648) (hrk : -2147483648 ≤ k ∧ k < 2147483648) : Ct l G yX7_dealt wsX7_dealt (rmD 4) [.ref hm, .int (zI p), .int (zI q), .int (zI d), .int (zI k)] [(hm, .inr (7, [.ref ms, .ref mp, .int (zI kn), .ref mq, .int (zI kp), .ref mt, .int (zI n), .ref mpa, .ref msh, .ref mo, .ref mtu])), (ms, aJ G 7157 sv), (mp, aJ G 28628 past), (mq, aJ G 7157 sq), (mt, aI G 80 t), (mpa, aI G 48 pa), (msh, aI G 48 sh), (mo, aI G 48 ot), (mtu, aI G 16 tu)] (RdM hm ms mp mq mt mpa msh mo mtu G sv past kn sq kp t n (rDealt a p q d k)) := by
  refine Ct.intro (cc := cX7_dealt) (maxL := 6) (ret := (some .int)) (lo0 := [some (.ref hm), some (.int (zI p)), some (.int (zI q)), some (.int (zI d)), some (.int (zI k)), none]) (by decide +kernel) rfl ⟨rfl, rfl⟩ (Nat.le_of_ble_eq_true rfl) rfl ?_
  intro X F T
  change Fx X (YX7_dealt l G) at F
  change V X (YX7_dealt l G) 0 0 0 _ _ _
  have J5 : ∀ (x : Int) (hx : x = if (0 ≤ p ∧ p ≤ 3) ∧ (0 ≤ q ∧ q ≤ 3) then p * 4 + q else -1), V X (YX7_dealt l G) 0 0 5 [some (.ref hm), some (.int (zI p)), some (.int (zI q)), some (.int (zI d)), some (.int (zI k)), none] [.int (zI x)] [(hm, .inr (7, [.ref ms, .ref mp, .int (zI kn), .ref mq, .int (zI kp), .ref mt, .int (zI n), .ref mpa, .ref msh, .ref mo, .ref mtu])), (ms, aJ G 7157 sv), (mp, aJ G 28628 past), (mq, aJ G 7157 sq), (mt, aI G 80 t), (mpa, aI G 48 pa), (msh, aI G 48 sh), (mo, aI G 48 ot), (mtu, aI G 16 tu)] := by
    intro x hx
    refine V.istore (q := 7) (lo' := [_, _, _, _, _, _]) F dX7_dealt_5 rfl (Nat.le_of_ble_eq_true rfl) rfl rfl ?_
    refine V.iload (q := 9) F dX7_dealt_7 rfl rfl ?_
    refine V.if_lt (q := 12) (tgt := 21) F dX7_dealt_9 rfl (by decide) (by omega) (fun k9 => ?_) (fun k9 => ?_)
    · refine V.iconst (q := 22) F dX7_dealt_21 rfl ?_
      exact V.iret F T dX7_dealt_22 ⟨_, _, _, _, (iEq (by unfold rDealt; omega)), rfl⟩ [hm, ms, mp, mq, mt, mpa, msh, mo, mtu] rfl rfl
    · have hx2 : x = p * 4 + q := by omega
      subst hx2
      have hr : 0 ≤ p * 4 + q ∧ p * 4 + q < 16 := by omega
      have hw := hI.w hr
      have hset := hI.s
      have hB := hI.bnd
      have c1 := hR.clm hr
      refine V.iload_n (q := 13) F dX7_dealt_12 rfl rfl rfl ?_
      refine V.iload (q := 15) F dX7_dealt_13 rfl rfl ?_
      refine V.callS (q := 18) F [] dX7_dealt_15 rfl (c_X7_isPart l G  _ _ (by omega) (by omega)) gX7_dealt_X7_isPart rfl ydX7_isPart ⟨Nat.le_of_ble_eq_true rfl, Nat.le_of_ble_eq_true rfl⟩ rfl rfl (Nat.le_of_ble_eq_true rfl) rfl rfl ⟨Nat.zero_le _, Nat.zero_le _⟩ (kkf (st' := [_]) (ws' := [_, _, _, _, _, _, _, _, _]) rfl rfl ?_)
      refine V.if_ne (q := 21) (tgt := 23) F dX7_dealt_18 rfl (by decide) (by omega) (fun k18 => ?_) (fun k18 => ?_)
      · refine V.aload_n (q := 24) F dX7_dealt_23 rfl rfl rfl ?_
        refine V.iload (q := 26) F dX7_dealt_24 rfl rfl ?_
        refine V.callV (q := 29) F [0, 1, 5, 6, 7] 0 dX7_dealt_26 rfl (c_X7_deals l G hm ms mp mq mt mpa msh mo mtu _ _ _ _ _ _ _ _ _ hR hI (by omega)) gX7_dealt_X7_deals rfl rfl ydX7_deals ⟨Nat.le_of_ble_eq_true rfl, Nat.le_of_ble_eq_true rfl⟩ (ci := 7) rfl rfl rfl rfl (Nat.le_of_ble_eq_true rfl) rfl rfl ⟨Nat.zero_le _, Nat.zero_le _⟩ (fun r9 w9 h9 _ => ?_)
        obtain ⟨pa, sh, ot, rfl, rfl, hsh⟩ := h9
        refine V.eq (pc' := 29) (st' := []) (ws' := [_, _, _, _, _, _, _, _, _]) rfl rfl rfl rfl ?_
        refine V.aload_n (q := 30) F dX7_dealt_29 rfl rfl rfl ?_
        refine V.get (q := 33) F 0 8 dX7_dealt_30 rfl rfl rfl inX7_dealt_X7 (by decide) (List.mem_of_getElem? (i := 1) rfl) rfl ?_
        refine V.iconst (q := 34) F dX7_dealt_33 rfl ?_
        refine V.iload_n (q := 35) F dX7_dealt_34 rfl rfl rfl ?_
        refine V.imul (q := 36) F dX7_dealt_35 rfl ?_
        refine V.iload (q := 38) F dX7_dealt_36 rfl rfl ?_
        refine V.iadd (q := 39) F dX7_dealt_38 rfl ?_
        refine V.iald (q := 40) F 6 dX7_dealt_39 rfl rfl (by decide) (by omega) ?_
        rw [hsh _ (by omega) (by omega), show 3 * d + k = d * 3 + k by omega]
        exact V.iret F T dX7_dealt_40 ⟨_, _, _, _, (iEq (by unfold rDealt; omega)), rfl⟩ [hm, ms, mp, mq, mt, mpa, msh, mo, mtu] rfl rfl
      · refine V.iconst (q := 22) F dX7_dealt_21 rfl ?_
        exact V.iret F T dX7_dealt_22 ⟨_, _, _, _, (iEq (by unfold rDealt; omega)), rfl⟩ [hm, ms, mp, mq, mt, mpa, msh, mo, mtu] rfl rfl
  refine V.iload_n (q := 1) F dX7_dealt_0 rfl rfl rfl ?_
  refine V.iload_n (q := 2) F dX7_dealt_1 rfl rfl rfl ?_
  refine V.callS (q := 5) F [] dX7_dealt_2 rfl (c_X7_roseOf l G  _ _ (by omega) (by omega)) gX7_dealt_X7_roseOf rfl ydX7_roseOf ⟨Nat.le_of_ble_eq_true rfl, Nat.le_of_ble_eq_true rfl⟩ rfl rfl (Nat.le_of_ble_eq_true rfl) rfl rfl ⟨Nat.zero_le _, Nat.zero_le _⟩ (kkf (st' := [_]) (ws' := [_, _, _, _, _, _, _, _, _]) rfl rfl ?_)
  exact J5 _ (by omega)

abbrev YX7_quarter (l : Launch) (G : Gx) : Sx := (cX7_quarter, 8, RX7, wsX7_quarter, rmD 3, l, G)
theorem ydX7_quarter : ydOk yX7_quarter 3 := by decide +kernel
set_option maxHeartbeats 1000000 in
set_option maxRecDepth 20000 in
theorem c_X7_quarter (l : Launch) (G : Gx) (hm ms mp mq mt mpa msh mo mtu : Nat) (a sv past sq t pa sh ot tu : Int → Int) (kn kp n p q k : Int) (hR : Rel a sv) (hI : Inv a) (hkn : 0 ≤ kn ∧ kn ≤ 4) (hkp : 0 ≤ kp ∧ kp ≤ 1) (hn : 0 ≤ n ∧ n ≤ 80) (ht : ∀ j, 0 ≤ t j ∧ t j < 65536) (hrp : -2147483648 ≤ p ∧ p < 2147483648) (hrq : -2147483648 ≤ q ∧ q < 2147483648) (hrk : -2147483648 ≤ k ∧ k < 2147483648) : Ct l G yX7_quarter wsX7_quarter (rmD 3) [.ref hm, .int (zI p), .int (zI q), .int (zI k)] [(hm, .inr (7, [.ref ms, .ref mp, .int (zI kn), .ref mq, .int (zI kp), .ref mt, .int (zI n), .ref mpa, .ref msh, .ref mo, .ref mtu])), (ms, aJ G 7157 sv), (mp, aJ G 28628 past), (mq, aJ G 7157 sq), (mt, aI G 80 t), (mpa, aI G 48 pa), (msh, aI G 48 sh), (mo, aI G 48 ot), (mtu, aI G 16 tu)] (RdM hm ms mp mq mt mpa msh mo mtu G sv past kn sq kp t n (rQuar a p q k)) := by
  refine Ct.intro (cc := cX7_quarter) (maxL := 8) (ret := (some .int)) (lo0 := [some (.ref hm), some (.int (zI p)), some (.int (zI q)), some (.int (zI k)), none, none, none, none]) (by decide +kernel) rfl ⟨rfl, rfl⟩ (Nat.le_of_ble_eq_true rfl) rfl ?_
  intro X F T
  change Fx X (YX7_quarter l G) at F
  change V X (YX7_quarter l G) 0 0 0 _ _ _
  have J5 : ∀ (x : Int) (hx : x = if (0 ≤ p ∧ p ≤ 3) ∧ (0 ≤ q ∧ q ≤ 3) then p * 4 + q else -1), V X (YX7_quarter l G) 0 0 5 [some (.ref hm), some (.int (zI p)), some (.int (zI q)), some (.int (zI k)), none, none, none, none] [.int (zI x)] [(hm, .inr (7, [.ref ms, .ref mp, .int (zI kn), .ref mq, .int (zI kp), .ref mt, .int (zI n), .ref mpa, .ref msh, .ref mo, .ref mtu])), (ms, aJ G 7157 sv), (mp, aJ G 28628 past), (mq, aJ G 7157 sq), (mt, aI G 80 t), (mpa, aI G 48 pa), (msh, aI G 48 sh), (mo, aI G 48 ot), (mtu, aI G 16 tu)] := by
    intro x hx
    refine V.istore (q := 7) (lo' := [_, _, _, _, _, _, _, _]) F dX7_quarter_5 rfl (Nat.le_of_ble_eq_true rfl) rfl rfl ?_
    refine V.iload (q := 9) F dX7_quarter_7 rfl rfl ?_
    refine V.if_lt (q := 12) (tgt := 19) F dX7_quarter_9 rfl (by decide) (by omega) (fun k9 => ?_) (fun k9 => ?_)
    · refine V.iconst (q := 20) F dX7_quarter_19 rfl ?_
      exact V.iret F T dX7_quarter_20 ⟨_, _, _, _, (iEq (by unfold rQuar; omega)), rfl⟩ [hm, ms, mp, mq, mt, mpa, msh, mo, mtu] rfl rfl
    · have hx2 : x = p * 4 + q := by omega
      subst hx2
      have hr : 0 ≤ p * 4 + q ∧ p * 4 + q < 16 := by omega
      have hw := hI.w hr
      have hset := hI.s
      have hB := hI.bnd
      have c1 := hR.clm hr
      refine V.iload_n (q := 13) F dX7_quarter_12 rfl rfl rfl ?_
      refine V.callS (q := 16) F [] dX7_quarter_13 rfl (c_X7_isFour l G  _ (by omega)) gX7_quarter_X7_isFour rfl ydX7_isFour ⟨Nat.le_of_ble_eq_true rfl, Nat.le_of_ble_eq_true rfl⟩ rfl rfl (Nat.le_of_ble_eq_true rfl) rfl rfl ⟨Nat.zero_le _, Nat.zero_le _⟩ (kkf (st' := [_]) (ws' := [_, _, _, _, _, _, _, _, _]) rfl rfl ?_)
      refine V.if_ne (q := 19) (tgt := 21) F dX7_quarter_16 rfl (by decide) (by omega) (fun k16 => ?_) (fun k16 => ?_)
      · refine V.aload_n (q := 22) F dX7_quarter_21 rfl rfl rfl ?_
        refine V.iload (q := 24) F dX7_quarter_22 rfl rfl ?_
        refine V.callV (q := 27) F [0, 1, 5] 0 dX7_quarter_24 rfl (c_X7_looks l G hm ms mp mq mt mpa msh mo mtu _ _ _ _ _ _ _ hR hI (by omega)) gX7_quarter_X7_looks rfl rfl ydX7_looks ⟨Nat.le_of_ble_eq_true rfl, Nat.le_of_ble_eq_true rfl⟩ (ci := 7) rfl rfl rfl rfl (Nat.le_of_ble_eq_true rfl) rfl rfl ⟨Nat.zero_le _, Nat.zero_le _⟩ (kkf (st' := [_]) (ws' := [_, _, _, _, _, _, _, _, _]) rfl rfl ?_)
        have hh := fun d => hoz1_rng hI hr d
        have g1 := hh (k * 4 - 1)
        have g2 := hh (k * 4)
        have g3 := hh (k * 4 + 1)
        have g4 := hh (k * 4 - 2)
        have g5 := hh (k * 4 + 2)
        have e1 : hbz a (p * 4 + q) ((4 * k + 14) % 16) 1 100 = hoz1 a (p * 4 + q) (k * 4 - 2) := congrArg (fun z => hbz a (p * 4 + q) z 1 100) (by omega)
        have e2 : hbz a (p * 4 + q) (4 * k + 2) 1 100 = hoz1 a (p * 4 + q) (k * 4 + 2) := congrArg (fun z => hbz a (p * 4 + q) z 1 100) (by omega)
        have e3 : hbz a (p * 4 + q) (4 * k) 1 100 = hoz1 a (p * 4 + q) (k * 4) := congrArg (fun z => hbz a (p * 4 + q) z 1 100) (by omega)
        have e4 : hbz a (p * 4 + q) ((4 * k + 15) % 16) 1 100 = hoz1 a (p * 4 + q) (k * 4 - 1) := congrArg (fun z => hbz a (p * 4 + q) z 1 100) (by omega)
        have e5 : hbz a (p * 4 + q) (4 * k + 1) 1 100 = hoz1 a (p * 4 + q) (k * 4 + 1) := congrArg (fun z => hbz a (p * 4 + q) z 1 100) (by omega)
        refine V.istore (q := 29) (lo' := [_, _, _, _, _, _, _, _]) F dX7_quarter_27 rfl (Nat.le_of_ble_eq_true rfl) rfl rfl ?_
        refine V.iconst (q := 30) F dX7_quarter_29 rfl ?_
        refine V.iload_n (q := 31) F dX7_quarter_30 rfl rfl rfl ?_
        refine V.imul (q := 32) F dX7_quarter_31 rfl ?_
        refine V.istore (q := 34) (lo' := [_, _, _, _, _, _, _, _]) F dX7_quarter_32 rfl (Nat.le_of_ble_eq_true rfl) rfl rfl ?_
        refine V.aload_n (q := 35) F dX7_quarter_34 rfl rfl rfl ?_
        refine V.iload (q := 37) F dX7_quarter_35 rfl rfl ?_
        refine V.bipush (q := 39) F dX7_quarter_37 rfl (by decide) ?_
        refine V.iadd (q := 40) F dX7_quarter_39 rfl ?_
        refine V.bipush (q := 42) F dX7_quarter_40 rfl (by decide) ?_
        refine V.irem (q := 43) F dX7_quarter_42 rfl (by omega) ?_
        refine V.callV (q := 46) F [0, 5] 0 dX7_quarter_43 rfl (c_X7_ofDirection l G hm ms mp mq mt mpa msh mo mtu _ _ _ _ _ _ _ hI (by omega)) gX7_quarter_X7_ofDirection rfl rfl ydX7_ofDirection ⟨Nat.le_of_ble_eq_true rfl, Nat.le_of_ble_eq_true rfl⟩ (ci := 7) rfl rfl rfl rfl (Nat.le_of_ble_eq_true rfl) rfl rfl ⟨Nat.zero_le _, Nat.zero_le _⟩ (kkf (st' := [_]) (ws' := [_, _, _, _, _, _, _, _, _]) rfl rfl ?_)
        refine V.aload_n (q := 47) F dX7_quarter_46 rfl rfl rfl ?_
        refine V.iload (q := 49) F dX7_quarter_47 rfl rfl ?_
        refine V.iconst (q := 50) F dX7_quarter_49 rfl ?_
        refine V.iadd (q := 51) F dX7_quarter_50 rfl ?_
        refine V.callV (q := 54) F [0, 5] 0 dX7_quarter_51 rfl (c_X7_ofDirection l G hm ms mp mq mt mpa msh mo mtu _ _ _ _ _ _ _ hI (by omega)) gX7_quarter_X7_ofDirection rfl rfl ydX7_ofDirection ⟨Nat.le_of_ble_eq_true rfl, Nat.le_of_ble_eq_true rfl⟩ (ci := 7) rfl rfl rfl rfl (Nat.le_of_ble_eq_true rfl) rfl rfl ⟨Nat.zero_le _, Nat.zero_le _⟩ (kkf (st' := [_, _]) (ws' := [_, _, _, _, _, _, _, _, _]) rfl rfl ?_)
        refine V.iadd (q := 55) F dX7_quarter_54 rfl ?_
        refine V.istore (q := 57) (lo' := [_, _, _, _, _, _, _, _]) F dX7_quarter_55 rfl (Nat.le_of_ble_eq_true rfl) rfl rfl ?_
        refine V.aload_n (q := 58) F dX7_quarter_57 rfl rfl rfl ?_
        refine V.iload (q := 60) F dX7_quarter_58 rfl rfl ?_
        refine V.callV (q := 63) F [0, 5] 0 dX7_quarter_60 rfl (c_X7_ofDirection l G hm ms mp mq mt mpa msh mo mtu _ _ _ _ _ _ _ hI (by omega)) gX7_quarter_X7_ofDirection rfl rfl ydX7_ofDirection ⟨Nat.le_of_ble_eq_true rfl, Nat.le_of_ble_eq_true rfl⟩ (ci := 7) rfl rfl rfl rfl (Nat.le_of_ble_eq_true rfl) rfl rfl ⟨Nat.zero_le _, Nat.zero_le _⟩ (kkf (st' := [_]) (ws' := [_, _, _, _, _, _, _, _, _]) rfl rfl ?_)
        refine V.aload_n (q := 64) F dX7_quarter_63 rfl rfl rfl ?_
        refine V.iload (q := 66) F dX7_quarter_64 rfl rfl ?_
        refine V.bipush (q := 68) F dX7_quarter_66 rfl (by decide) ?_
        refine V.iadd (q := 69) F dX7_quarter_68 rfl ?_
        refine V.bipush (q := 71) F dX7_quarter_69 rfl (by decide) ?_
        refine V.irem (q := 72) F dX7_quarter_71 rfl (by omega) ?_
        refine V.callV (q := 75) F [0, 5] 0 dX7_quarter_72 rfl (c_X7_ofDirection l G hm ms mp mq mt mpa msh mo mtu _ _ _ _ _ _ _ hI (by omega)) gX7_quarter_X7_ofDirection rfl rfl ydX7_ofDirection ⟨Nat.le_of_ble_eq_true rfl, Nat.le_of_ble_eq_true rfl⟩ (ci := 7) rfl rfl rfl rfl (Nat.le_of_ble_eq_true rfl) rfl rfl ⟨Nat.zero_le _, Nat.zero_le _⟩ (kkf (st' := [_, _]) (ws' := [_, _, _, _, _, _, _, _, _]) rfl rfl ?_)
        refine V.iadd (q := 76) F dX7_quarter_75 rfl ?_
        refine V.aload_n (q := 77) F dX7_quarter_76 rfl rfl rfl ?_
        refine V.iload (q := 79) F dX7_quarter_77 rfl rfl ?_
        refine V.iconst (q := 80) F dX7_quarter_79 rfl ?_
        refine V.iadd (q := 81) F dX7_quarter_80 rfl ?_
        refine V.callV (q := 84) F [0, 5] 0 dX7_quarter_81 rfl (c_X7_ofDirection l G hm ms mp mq mt mpa msh mo mtu _ _ _ _ _ _ _ hI (by omega)) gX7_quarter_X7_ofDirection rfl rfl ydX7_ofDirection ⟨Nat.le_of_ble_eq_true rfl, Nat.le_of_ble_eq_true rfl⟩ (ci := 7) rfl rfl rfl rfl (Nat.le_of_ble_eq_true rfl) rfl rfl ⟨Nat.zero_le _, Nat.zero_le _⟩ (kkf (st' := [_, _]) (ws' := [_, _, _, _, _, _, _, _, _]) rfl rfl ?_)
        refine V.iadd (q := 85) F dX7_quarter_84 rfl ?_
        refine V.iload (q := 87) F dX7_quarter_85 rfl rfl ?_
        refine V.iconst (q := 88) F dX7_quarter_87 rfl ?_
        refine V.idiv (q := 89) F dX7_quarter_88 rfl (by omega) ?_
        refine V.iadd (q := 90) F dX7_quarter_89 rfl ?_
        exact V.iret F T dX7_quarter_90 ⟨_, _, _, _, (iEq (by unfold rQuar; omega)), rfl⟩ [hm, ms, mp, mq, mt, mpa, msh, mo, mtu] rfl rfl
      · refine V.iconst (q := 20) F dX7_quarter_19 rfl ?_
        exact V.iret F T dX7_quarter_20 ⟨_, _, _, _, (iEq (by unfold rQuar; omega)), rfl⟩ [hm, ms, mp, mq, mt, mpa, msh, mo, mtu] rfl rfl
  refine V.iload_n (q := 1) F dX7_quarter_0 rfl rfl rfl ?_
  refine V.iload_n (q := 2) F dX7_quarter_1 rfl rfl rfl ?_
  refine V.callS (q := 5) F [] dX7_quarter_2 rfl (c_X7_roseOf l G  _ _ (by omega) (by omega)) gX7_quarter_X7_roseOf rfl ydX7_roseOf ⟨Nat.le_of_ble_eq_true rfl, Nat.le_of_ble_eq_true rfl⟩ rfl rfl (Nat.le_of_ble_eq_true rfl) rfl rfl ⟨Nat.zero_le _, Nat.zero_le _⟩ (kkf (st' := [_]) (ws' := [_, _, _, _, _, _, _, _, _]) rfl rfl ?_)
  exact J5 _ (by omega)

abbrev YX7_excess (l : Launch) (G : Gx) : Sx := (cX7_excess, 7, RX7, wsX7_excess, rmD 3, l, G)
theorem ydX7_excess : ydOk yX7_excess 3 := by decide +kernel
set_option maxHeartbeats 1000000 in
set_option maxRecDepth 20000 in
theorem c_X7_excess (l : Launch) (G : Gx) (hm ms mp mq mt mpa msh mo mtu : Nat) (a sv past sq t pa sh ot tu : Int → Int) (kn kp n p q d : Int) (hR : Rel a sv) (hI : Inv a) (hkn : 0 ≤ kn ∧ kn ≤ 4) (hkp : 0 ≤ kp ∧ kp ≤ 1) (hn : 0 ≤ n ∧ n ≤ 80) (ht : ∀ j, 0 ≤ t j ∧ t j < 65536) (hrp : -2147483648 ≤ p ∧ p < 2147483648) (hrq : -2147483648 ≤ q ∧ q < 2147483648) (hrd : -2147483648 ≤ d ∧ d < 2147483648) : Ct l G yX7_excess wsX7_excess (rmD 3) [.ref hm, .int (zI p), .int (zI q), .int (zI d)] [(hm, .inr (7, [.ref ms, .ref mp, .int (zI kn), .ref mq, .int (zI kp), .ref mt, .int (zI n), .ref mpa, .ref msh, .ref mo, .ref mtu])), (ms, aJ G 7157 sv), (mp, aJ G 28628 past), (mq, aJ G 7157 sq), (mt, aI G 80 t), (mpa, aI G 48 pa), (msh, aI G 48 sh), (mo, aI G 48 ot), (mtu, aI G 16 tu)] (RdM hm ms mp mq mt mpa msh mo mtu G sv past kn sq kp t n (rExc a p q d)) := by
  refine Ct.intro (cc := cX7_excess) (maxL := 7) (ret := (some .int)) (lo0 := [some (.ref hm), some (.int (zI p)), some (.int (zI q)), some (.int (zI d)), none, none, none]) (by decide +kernel) rfl ⟨rfl, rfl⟩ (Nat.le_of_ble_eq_true rfl) rfl ?_
  intro X F T
  change Fx X (YX7_excess l G) at F
  change V X (YX7_excess l G) 0 0 0 _ _ _
  have J5 : ∀ (x : Int) (hx : x = if (0 ≤ p ∧ p ≤ 3) ∧ (0 ≤ q ∧ q ≤ 3) then p * 4 + q else -1), V X (YX7_excess l G) 0 0 5 [some (.ref hm), some (.int (zI p)), some (.int (zI q)), some (.int (zI d)), none, none, none] [.int (zI x)] [(hm, .inr (7, [.ref ms, .ref mp, .int (zI kn), .ref mq, .int (zI kp), .ref mt, .int (zI n), .ref mpa, .ref msh, .ref mo, .ref mtu])), (ms, aJ G 7157 sv), (mp, aJ G 28628 past), (mq, aJ G 7157 sq), (mt, aI G 80 t), (mpa, aI G 48 pa), (msh, aI G 48 sh), (mo, aI G 48 ot), (mtu, aI G 16 tu)] := by
    intro x hx
    refine V.istore (q := 7) (lo' := [_, _, _, _, _, _, _]) F dX7_excess_5 rfl (Nat.le_of_ble_eq_true rfl) rfl rfl ?_
    refine V.iload (q := 9) F dX7_excess_7 rfl rfl ?_
    refine V.if_lt (q := 12) (tgt := 19) F dX7_excess_9 rfl (by decide) (by omega) (fun k9 => ?_) (fun k9 => ?_)
    · refine V.iconst (q := 20) F dX7_excess_19 rfl ?_
      exact V.iret F T dX7_excess_20 ⟨_, _, _, _, (iEq (by unfold rExc; omega)), rfl⟩ [hm, ms, mp, mq, mt, mpa, msh, mo, mtu] rfl rfl
    · have hx2 : x = p * 4 + q := by omega
      subst hx2
      have hr : 0 ≤ p * 4 + q ∧ p * 4 + q < 16 := by omega
      have hw := hI.w hr
      have hset := hI.s
      have hB := hI.bnd
      have c1 := hR.clm hr
      refine V.iload_n (q := 13) F dX7_excess_12 rfl rfl rfl ?_
      refine V.callS (q := 16) F [] dX7_excess_13 rfl (c_X7_isDirection l G  _ (by omega)) gX7_excess_X7_isDirection rfl ydX7_isDirection ⟨Nat.le_of_ble_eq_true rfl, Nat.le_of_ble_eq_true rfl⟩ rfl rfl (Nat.le_of_ble_eq_true rfl) rfl rfl ⟨Nat.zero_le _, Nat.zero_le _⟩ (kkf (st' := [_]) (ws' := [_, _, _, _, _, _, _, _, _]) rfl rfl ?_)
      refine V.if_ne (q := 19) (tgt := 21) F dX7_excess_16 rfl (by decide) (by omega) (fun k16 => ?_) (fun k16 => ?_)
      · refine V.aload_n (q := 22) F dX7_excess_21 rfl rfl rfl ?_
        refine V.iload (q := 24) F dX7_excess_22 rfl rfl ?_
        refine V.callV (q := 27) F [0, 1, 5] 0 dX7_excess_24 rfl (c_X7_looks l G hm ms mp mq mt mpa msh mo mtu _ _ _ _ _ _ _ hR hI (by omega)) gX7_excess_X7_looks rfl rfl ydX7_looks ⟨Nat.le_of_ble_eq_true rfl, Nat.le_of_ble_eq_true rfl⟩ (ci := 7) rfl rfl rfl rfl (Nat.le_of_ble_eq_true rfl) rfl rfl ⟨Nat.zero_le _, Nat.zero_le _⟩ (kkf (st' := [_]) (ws' := [_, _, _, _, _, _, _, _, _]) rfl rfl ?_)
        have hh := fun d => hoz1_rng hI hr d
        have g1 := hh d
        have g2 := hh (d + 8)
        have e1 : hbz a (p * 4 + q) d 1 100 = hoz1 a (p * 4 + q) d := congrArg (fun z => hbz a (p * 4 + q) z 1 100) (by omega)
        have e2 : hbz a (p * 4 + q) ((d + 8) % 16) 1 100 = hoz1 a (p * 4 + q) (d + 8) := rfl
        refine V.istore (q := 29) (lo' := [_, _, _, _, _, _, _]) F dX7_excess_27 rfl (Nat.le_of_ble_eq_true rfl) rfl rfl ?_
        refine V.aload_n (q := 30) F dX7_excess_29 rfl rfl rfl ?_
        refine V.iload_n (q := 31) F dX7_excess_30 rfl rfl rfl ?_
        refine V.callV (q := 34) F [0, 5] 0 dX7_excess_31 rfl (c_X7_ofDirection l G hm ms mp mq mt mpa msh mo mtu _ _ _ _ _ _ _ hI (by omega)) gX7_excess_X7_ofDirection rfl rfl ydX7_ofDirection ⟨Nat.le_of_ble_eq_true rfl, Nat.le_of_ble_eq_true rfl⟩ (ci := 7) rfl rfl rfl rfl (Nat.le_of_ble_eq_true rfl) rfl rfl ⟨Nat.zero_le _, Nat.zero_le _⟩ (kkf (st' := [_]) (ws' := [_, _, _, _, _, _, _, _, _]) rfl rfl ?_)
        refine V.aload_n (q := 35) F dX7_excess_34 rfl rfl rfl ?_
        refine V.iload_n (q := 36) F dX7_excess_35 rfl rfl rfl ?_
        refine V.bipush (q := 38) F dX7_excess_36 rfl (by decide) ?_
        refine V.iadd (q := 39) F dX7_excess_38 rfl ?_
        refine V.bipush (q := 41) F dX7_excess_39 rfl (by decide) ?_
        refine V.irem (q := 42) F dX7_excess_41 rfl (by omega) ?_
        refine V.callV (q := 45) F [0, 5] 0 dX7_excess_42 rfl (c_X7_ofDirection l G hm ms mp mq mt mpa msh mo mtu _ _ _ _ _ _ _ hI (by omega)) gX7_excess_X7_ofDirection rfl rfl ydX7_ofDirection ⟨Nat.le_of_ble_eq_true rfl, Nat.le_of_ble_eq_true rfl⟩ (ci := 7) rfl rfl rfl rfl (Nat.le_of_ble_eq_true rfl) rfl rfl ⟨Nat.zero_le _, Nat.zero_le _⟩ (kkf (st' := [_, _]) (ws' := [_, _, _, _, _, _, _, _, _]) rfl rfl ?_)
        refine V.isub (q := 46) F dX7_excess_45 rfl ?_
        refine V.istore (q := 48) (lo' := [_, _, _, _, _, _, _]) F dX7_excess_46 rfl (Nat.le_of_ble_eq_true rfl) rfl rfl ?_
        refine V.iload (q := 50) F dX7_excess_48 rfl rfl ?_
        refine V.if_ge (q := 53) (tgt := 57) F dX7_excess_50 rfl (by decide) (by omega) (fun k50 => ?_) (fun k50 => ?_)
        · refine V.iload (q := 59) F dX7_excess_57 rfl rfl ?_
          exact V.iret F T dX7_excess_59 ⟨_, _, _, _, (iEq (by unfold rExc; omega)), rfl⟩ [hm, ms, mp, mq, mt, mpa, msh, mo, mtu] rfl rfl
        · refine V.iconst (q := 54) F dX7_excess_53 rfl ?_
          refine V.goto (tgt := 59) F dX7_excess_54 (by decide) ?_
          exact V.iret F T dX7_excess_59 ⟨_, _, _, _, (iEq (by unfold rExc; omega)), rfl⟩ [hm, ms, mp, mq, mt, mpa, msh, mo, mtu] rfl rfl
      · refine V.iconst (q := 20) F dX7_excess_19 rfl ?_
        exact V.iret F T dX7_excess_20 ⟨_, _, _, _, (iEq (by unfold rExc; omega)), rfl⟩ [hm, ms, mp, mq, mt, mpa, msh, mo, mtu] rfl rfl
  refine V.iload_n (q := 1) F dX7_excess_0 rfl rfl rfl ?_
  refine V.iload_n (q := 2) F dX7_excess_1 rfl rfl rfl ?_
  refine V.callS (q := 5) F [] dX7_excess_2 rfl (c_X7_roseOf l G  _ _ (by omega) (by omega)) gX7_excess_X7_roseOf rfl ydX7_roseOf ⟨Nat.le_of_ble_eq_true rfl, Nat.le_of_ble_eq_true rfl⟩ rfl rfl (Nat.le_of_ble_eq_true rfl) rfl rfl ⟨Nat.zero_le _, Nat.zero_le _⟩ (kkf (st' := [_]) (ws' := [_, _, _, _, _, _, _, _, _]) rfl rfl ?_)
  exact J5 _ (by omega)

abbrev YX7_unlike (l : Launch) (G : Gx) : Sx := (cX7_unlike, 6, RX7, wsX7_unlike, rmD 4, l, G)
theorem ydX7_unlike : ydOk yX7_unlike 3 := by decide +kernel
theorem inX7_unlike_X7 : ∀ w ∈ wsX70, w ∈ wsX7_unlike := fun _ h => List.mem_cons_of_mem _ (List.mem_append_right _ h)
set_option maxHeartbeats 1000000 in
set_option maxRecDepth 20000 in
theorem c_X7_unlike (l : Launch) (G : Gx) (hm ms mp mq mt mpa msh mo mtu : Nat) (a sv past sq t pa sh ot tu : Int → Int) (kn kp n p u q : Int) (hR : Rel a sv) (hI : Inv a) (hkn : 0 ≤ kn ∧ kn ≤ 4) (hkp : 0 ≤ kp ∧ kp ≤ 1) (hn : 0 ≤ n ∧ n ≤ 80) (ht : ∀ j, 0 ≤ t j ∧ t j < 65536) (hrp : -2147483648 ≤ p ∧ p < 2147483648) (hru : -2147483648 ≤ u ∧ u < 2147483648) (hrq : -2147483648 ≤ q ∧ q < 2147483648) : Ct l G yX7_unlike wsX7_unlike (rmD 4) [.ref hm, .int (zI p), .int (zI u), .int (zI q)] [(hm, .inr (7, [.ref ms, .ref mp, .int (zI kn), .ref mq, .int (zI kp), .ref mt, .int (zI n), .ref mpa, .ref msh, .ref mo, .ref mtu])), (ms, aJ G 7157 sv), (mp, aJ G 28628 past), (mq, aJ G 7157 sq), (mt, aI G 80 t), (mpa, aI G 48 pa), (msh, aI G 48 sh), (mo, aI G 48 ot), (mtu, aI G 16 tu)] (RdM hm ms mp mq mt mpa msh mo mtu G sv past kn sq kp t n (rUnl a p u q)) := by
  refine Ct.intro (cc := cX7_unlike) (maxL := 6) (ret := (some .int)) (lo0 := [some (.ref hm), some (.int (zI p)), some (.int (zI u)), some (.int (zI q)), none, none]) (by decide +kernel) rfl ⟨rfl, rfl⟩ (Nat.le_of_ble_eq_true rfl) rfl ?_
  intro X F T
  change Fx X (YX7_unlike l G) at F
  change V X (YX7_unlike l G) 0 0 0 _ _ _
  refine V.iload_n (q := 1) F dX7_unlike_0 rfl rfl rfl ?_
  refine V.callS (q := 4) F [] dX7_unlike_1 rfl (c_X7_isFour l G  _ (by omega)) gX7_unlike_X7_isFour rfl ydX7_isFour ⟨Nat.le_of_ble_eq_true rfl, Nat.le_of_ble_eq_true rfl⟩ rfl rfl (Nat.le_of_ble_eq_true rfl) rfl rfl ⟨Nat.zero_le _, Nat.zero_le _⟩ (kkf (st' := [_]) (ws' := [_, _, _, _, _, _, _, _, _]) rfl rfl ?_)
  refine V.if_eq (q := 7) (tgt := 21) F dX7_unlike_4 rfl (by decide) (by omega) (fun k4 => ?_) (fun k4 => ?_)
  · refine V.iconst (q := 22) F dX7_unlike_21 rfl ?_
    exact V.iret F T dX7_unlike_22 ⟨_, _, _, _, (iEq (by unfold rUnl; omega)), rfl⟩ [hm, ms, mp, mq, mt, mpa, msh, mo, mtu] rfl rfl
  · refine V.iload_n (q := 8) F dX7_unlike_7 rfl rfl rfl ?_
    refine V.callS (q := 11) F [] dX7_unlike_8 rfl (c_X7_isFour l G  _ (by omega)) gX7_unlike_X7_isFour rfl ydX7_isFour ⟨Nat.le_of_ble_eq_true rfl, Nat.le_of_ble_eq_true rfl⟩ rfl rfl (Nat.le_of_ble_eq_true rfl) rfl rfl ⟨Nat.zero_le _, Nat.zero_le _⟩ (kkf (st' := [_]) (ws' := [_, _, _, _, _, _, _, _, _]) rfl rfl ?_)
    refine V.if_eq (q := 14) (tgt := 21) F dX7_unlike_11 rfl (by decide) (by omega) (fun k11 => ?_) (fun k11 => ?_)
    · refine V.iconst (q := 22) F dX7_unlike_21 rfl ?_
      exact V.iret F T dX7_unlike_22 ⟨_, _, _, _, (iEq (by unfold rUnl; omega)), rfl⟩ [hm, ms, mp, mq, mt, mpa, msh, mo, mtu] rfl rfl
    · refine V.iload_n (q := 15) F dX7_unlike_14 rfl rfl rfl ?_
      refine V.callS (q := 18) F [] dX7_unlike_15 rfl (c_X7_isFour l G  _ (by omega)) gX7_unlike_X7_isFour rfl ydX7_isFour ⟨Nat.le_of_ble_eq_true rfl, Nat.le_of_ble_eq_true rfl⟩ rfl rfl (Nat.le_of_ble_eq_true rfl) rfl rfl ⟨Nat.zero_le _, Nat.zero_le _⟩ (kkf (st' := [_]) (ws' := [_, _, _, _, _, _, _, _, _]) rfl rfl ?_)
      refine V.if_ne (q := 21) (tgt := 23) F dX7_unlike_18 rfl (by decide) (by omega) (fun k18 => ?_) (fun k18 => ?_)
      · refine V.iload_n (q := 24) F dX7_unlike_23 rfl rfl rfl ?_
        refine V.iload_n (q := 25) F dX7_unlike_24 rfl rfl rfl ?_
        refine V.icmp_ne (q := 28) (tgt := 31) F dX7_unlike_25 rfl (by decide) (by omega) (fun k25 => ?_) (fun k25 => ?_)
        · have hr : 0 ≤ p * 4 + q ∧ p * 4 + q < 16 := by omega
          have hr2 : 0 ≤ u * 4 + q ∧ u * 4 + q < 16 := by omega
          refine V.aload_n (q := 32) F dX7_unlike_31 rfl rfl rfl ?_
          refine V.iconst (q := 33) F dX7_unlike_32 rfl ?_
          refine V.iload_n (q := 34) F dX7_unlike_33 rfl rfl rfl ?_
          refine V.imul (q := 35) F dX7_unlike_34 rfl ?_
          refine V.iload_n (q := 36) F dX7_unlike_35 rfl rfl rfl ?_
          refine V.iadd (q := 37) F dX7_unlike_36 rfl ?_
          rw [show 4 * p + q = p * 4 + q by omega]
          refine V.callV (q := 40) F [0, 1, 5, 6] 0 dX7_unlike_37 rfl (c_X7_finds l G hm ms mp mq mt mpa msh mo mtu _ _ _ _ _ _ _ _ hR hI (by omega)) gX7_unlike_X7_finds rfl rfl ydX7_finds ⟨Nat.le_of_ble_eq_true rfl, Nat.le_of_ble_eq_true rfl⟩ (ci := 7) rfl rfl rfl rfl (Nat.le_of_ble_eq_true rfl) rfl rfl ⟨Nat.zero_le _, Nat.zero_le _⟩ (kkf (st' := []) (ws' := [_, _, _, _, _, _, _, _, _]) rfl rfl ?_)
          refine V.iconst (q := 41) F dX7_unlike_40 rfl ?_
          refine V.istore (q := 43) (lo' := [_, _, _, _, _, _]) F dX7_unlike_41 rfl (Nat.le_of_ble_eq_true rfl) rfl rfl ?_
          have L43 : ∀ (nq : Nat) (j : Int) (ot2 : Int → Int) (hj : 0 ≤ j ∧ j ≤ 48) (hot : ot2 = fil (shr a (p * 4 + q)) ot j), (48 - j).toNat < nq → V X (YX7_unlike l G) 0 0 43 [some (.ref hm), some (.int (zI p)), some (.int (zI u)), some (.int (zI q)), some (.int (zI j)), none] [] [(hm, .inr (7, [.ref ms, .ref mp, .int (zI kn), .ref mq, .int (zI kp), .ref mt, .int (zI n), .ref mpa, .ref msh, .ref mo, .ref mtu])), (ms, aJ G 7157 sv), (mp, aJ G 28628 past), (mq, aJ G 7157 sq), (mt, aI G 80 t), (mpa, aI G 48 (fil (pthz a (p * 4 + q)) pa 48)), (msh, aI G 48 (fil (shr a (p * 4 + q)) sh 48)), (mo, aI G 48 ot2), (mtu, aI G 16 tu)] := by
            intro n43
            induction n43 with
            | zero => intro j ot2 hj hot hm43; exact absurd hm43 (Nat.not_lt_zero _)
            | succ n43 ih43 =>
              intro j ot2 hj hot hm43
              refine V.iload (q := 45) F dX7_unlike_43 rfl rfl ?_
              refine V.bipush (q := 47) F dX7_unlike_45 rfl (by decide) ?_
              refine V.icmp_ge (q := 50) (tgt := 70) F dX7_unlike_47 rfl (by decide) (by omega) (fun k47 => ?_) (fun k47 => ?_)
              · refine V.aload_n (q := 71) F dX7_unlike_70 rfl rfl rfl ?_
                refine V.iconst (q := 72) F dX7_unlike_71 rfl ?_
                refine V.iload_n (q := 73) F dX7_unlike_72 rfl rfl rfl ?_
                refine V.imul (q := 74) F dX7_unlike_73 rfl ?_
                refine V.iload_n (q := 75) F dX7_unlike_74 rfl rfl rfl ?_
                refine V.iadd (q := 76) F dX7_unlike_75 rfl ?_
                rw [show 4 * u + q = u * 4 + q by omega]
                refine V.callV (q := 79) F [0, 1, 5, 6] 0 dX7_unlike_76 rfl (c_X7_finds l G hm ms mp mq mt mpa msh mo mtu _ _ _ _ _ _ _ _ hR hI (by omega)) gX7_unlike_X7_finds rfl rfl ydX7_finds ⟨Nat.le_of_ble_eq_true rfl, Nat.le_of_ble_eq_true rfl⟩ (ci := 7) rfl rfl rfl rfl (Nat.le_of_ble_eq_true rfl) rfl rfl ⟨Nat.zero_le _, Nat.zero_le _⟩ (kkf (st' := []) (ws' := [_, _, _, _, _, _, _, _, _]) rfl rfl ?_)
                refine V.iconst (q := 80) F dX7_unlike_79 rfl ?_
                refine V.istore (q := 82) (lo' := [_, _, _, _, _, _]) F dX7_unlike_80 rfl (Nat.le_of_ble_eq_true rfl) rfl rfl ?_
                refine V.iconst (q := 83) F dX7_unlike_82 rfl ?_
                refine V.istore (q := 85) (lo' := [_, _, _, _, _, _]) F dX7_unlike_83 rfl (Nat.le_of_ble_eq_true rfl) rfl rfl ?_
                have L85 : ∀ (nq : Nat) (i S : Int) (hi : 0 ≤ i ∧ i ≤ 48) (hS : S = sz (fun j => absz (shr a (p * 4 + q) j - shr a (u * 4 + q) j)) 0 i), (48 - i).toNat < nq → V X (YX7_unlike l G) 0 0 85 [some (.ref hm), some (.int (zI p)), some (.int (zI u)), some (.int (zI q)), some (.int (zI S)), some (.int (zI i))] [] [(hm, .inr (7, [.ref ms, .ref mp, .int (zI kn), .ref mq, .int (zI kp), .ref mt, .int (zI n), .ref mpa, .ref msh, .ref mo, .ref mtu])), (ms, aJ G 7157 sv), (mp, aJ G 28628 past), (mq, aJ G 7157 sq), (mt, aI G 80 t), (mpa, aI G 48 (fil (pthz a (u * 4 + q)) (fil (pthz a (p * 4 + q)) pa 48) 48)), (msh, aI G 48 (fil (shr a (u * 4 + q)) (fil (shr a (p * 4 + q)) sh 48) 48)), (mo, aI G 48 ot2), (mtu, aI G 16 tu)] := by
                  intro n85
                  induction n85 with
                  | zero => intro i S hi hS hm85; exact absurd hm85 (Nat.not_lt_zero _)
                  | succ n85 ih85 =>
                    intro i S hi hS hm85
                    refine V.iload (q := 87) F dX7_unlike_85 rfl rfl ?_
                    refine V.bipush (q := 89) F dX7_unlike_87 rfl (by decide) ?_
                    refine V.icmp_ge (q := 92) (tgt := 153) F dX7_unlike_89 rfl (by decide) (by omega) (fun k89 => ?_) (fun k89 => ?_)
                    · refine V.iload (q := 155) F dX7_unlike_153 rfl rfl ?_
                      exact V.iret F T dX7_unlike_155 ⟨_, _, _, _, (iEq (by unfold rUnl; rw [if_neg (by omega), if_neg (by omega), hS, show i = 48 by omega])), rfl⟩ [hm, ms, mp, mq, mt, mpa, msh, mo, mtu] rfl rfl
                    · have J144 : ∀ (y : Int) (hy : y = absz (shr a (p * 4 + q) i - shr a (u * 4 + q) i)), V X (YX7_unlike l G) 0 0 144 [some (.ref hm), some (.int (zI p)), some (.int (zI u)), some (.int (zI q)), some (.int (zI S)), some (.int (zI i))] [.int (zI y), .int (zI S)] [(hm, .inr (7, [.ref ms, .ref mp, .int (zI kn), .ref mq, .int (zI kp), .ref mt, .int (zI n), .ref mpa, .ref msh, .ref mo, .ref mtu])), (ms, aJ G 7157 sv), (mp, aJ G 28628 past), (mq, aJ G 7157 sq), (mt, aI G 80 t), (mpa, aI G 48 (fil (pthz a (u * 4 + q)) (fil (pthz a (p * 4 + q)) pa 48) 48)), (msh, aI G 48 (fil (shr a (u * 4 + q)) (fil (shr a (p * 4 + q)) sh 48) 48)), (mo, aI G 48 ot2), (mtu, aI G 16 tu)] := by
                        intro y hy
                        refine V.iadd (q := 145) F dX7_unlike_144 rfl ?_
                        refine V.istore (q := 147) (lo' := [_, _, _, _, _, _]) F dX7_unlike_145 rfl (Nat.le_of_ble_eq_true rfl) rfl rfl ?_
                        refine V.iinc (q := 150) (lo' := [_, _, _, _, _, _]) F dX7_unlike_147 rfl rfl (Nat.le_of_ble_eq_true rfl) rfl rfl ?_
                        refine V.goto (tgt := 85) F dX7_unlike_150 (by decide) ?_
                        exact ih85 (i + 1) _ (by omega) (by rw [sz_succ _ hi.1, ← hS, hy]) (by omega)
                      have hs1 : fil (shr a (u * 4 + q)) (fil (shr a (p * 4 + q)) sh 48) 48 i = shr a (u * 4 + q) i := fil_in _ _ (by omega) (by omega)
                      have hs2 : ot2 i = shr a (p * 4 + q) i := by rw [hot, show j = 48 by omega]; exact fil_in _ _ (by omega) (by omega)
                      have g1 := shr_rng hI hr (p := i) (by omega)
                      have g2 := shr_rng hI hr2 (p := i) (by omega)
                      refine V.iload (q := 94) F dX7_unlike_92 rfl rfl ?_
                      refine V.aload_n (q := 95) F dX7_unlike_94 rfl rfl rfl ?_
                      refine V.get (q := 98) F 0 8 dX7_unlike_95 rfl rfl rfl inX7_unlike_X7 (by decide) (List.mem_of_getElem? (i := 2) rfl) rfl ?_
                      refine V.iload (q := 100) F dX7_unlike_98 rfl rfl ?_
                      refine V.iald (q := 101) F 6 dX7_unlike_100 rfl rfl (by decide) (by omega) ?_
                      refine V.aload_n (q := 102) F dX7_unlike_101 rfl rfl rfl ?_
                      refine V.get (q := 105) F 0 9 dX7_unlike_102 rfl rfl rfl inX7_unlike_X7 (by decide) (List.mem_of_getElem? (i := 1) rfl) rfl ?_
                      refine V.iload (q := 107) F dX7_unlike_105 rfl rfl ?_
                      refine V.iald (q := 108) F 7 dX7_unlike_107 rfl rfl (by decide) (by omega) ?_
                      refine V.icmp_ge (q := 111) (tgt := 129) F dX7_unlike_108 rfl (by decide) (by omega) (fun k108 => ?_) (fun k108 => ?_)
                      · refine V.aload_n (q := 130) F dX7_unlike_129 rfl rfl rfl ?_
                        refine V.get (q := 133) F 0 8 dX7_unlike_130 rfl rfl rfl inX7_unlike_X7 (by decide) (List.mem_of_getElem? (i := 2) rfl) rfl ?_
                        refine V.iload (q := 135) F dX7_unlike_133 rfl rfl ?_
                        refine V.iald (q := 136) F 6 dX7_unlike_135 rfl rfl (by decide) (by omega) ?_
                        refine V.aload_n (q := 137) F dX7_unlike_136 rfl rfl rfl ?_
                        refine V.get (q := 140) F 0 9 dX7_unlike_137 rfl rfl rfl inX7_unlike_X7 (by decide) (List.mem_of_getElem? (i := 1) rfl) rfl ?_
                        refine V.iload (q := 142) F dX7_unlike_140 rfl rfl ?_
                        refine V.iald (q := 143) F 7 dX7_unlike_142 rfl rfl (by decide) (by omega) ?_
                        refine V.isub (q := 144) F dX7_unlike_143 rfl ?_
                        exact J144 _ (by unfold absz; omega)
                      · refine V.aload_n (q := 112) F dX7_unlike_111 rfl rfl rfl ?_
                        refine V.get (q := 115) F 0 9 dX7_unlike_112 rfl rfl rfl inX7_unlike_X7 (by decide) (List.mem_of_getElem? (i := 1) rfl) rfl ?_
                        refine V.iload (q := 117) F dX7_unlike_115 rfl rfl ?_
                        refine V.iald (q := 118) F 7 dX7_unlike_117 rfl rfl (by decide) (by omega) ?_
                        refine V.aload_n (q := 119) F dX7_unlike_118 rfl rfl rfl ?_
                        refine V.get (q := 122) F 0 8 dX7_unlike_119 rfl rfl rfl inX7_unlike_X7 (by decide) (List.mem_of_getElem? (i := 2) rfl) rfl ?_
                        refine V.iload (q := 124) F dX7_unlike_122 rfl rfl ?_
                        refine V.iald (q := 125) F 6 dX7_unlike_124 rfl rfl (by decide) (by omega) ?_
                        refine V.isub (q := 126) F dX7_unlike_125 rfl ?_
                        refine V.goto (tgt := 144) F dX7_unlike_126 (by decide) ?_
                        exact J144 _ (by unfold absz; omega)
                exact L85 _ 0 0 (by omega) (sz_self _ _).symm (Nat.lt_succ_self _)
              · refine V.aload_n (q := 51) F dX7_unlike_50 rfl rfl rfl ?_
                refine V.get (q := 54) F 0 9 dX7_unlike_51 rfl rfl rfl inX7_unlike_X7 (by decide) (List.mem_of_getElem? (i := 1) rfl) rfl ?_
                refine V.iload (q := 56) F dX7_unlike_54 rfl rfl ?_
                refine V.aload_n (q := 57) F dX7_unlike_56 rfl rfl rfl ?_
                refine V.get (q := 60) F 0 8 dX7_unlike_57 rfl rfl rfl inX7_unlike_X7 (by decide) (List.mem_of_getElem? (i := 2) rfl) rfl ?_
                refine V.iload (q := 62) F dX7_unlike_60 rfl rfl ?_
                refine V.iald (q := 63) F 6 dX7_unlike_62 rfl rfl (by decide) (by omega) ?_
                rw [fil_in _ _ (by omega) (by omega)]
                refine V.iast (q := 64) (ws' := [_, _, _, _, _, _, _, _, _]) F 7 dX7_unlike_63 rfl rfl (by decide) (by omega) rfl ?_
                refine V.iinc (q := 67) (lo' := [_, _, _, _, _, _]) F dX7_unlike_64 rfl rfl (Nat.le_of_ble_eq_true rfl) rfl rfl ?_
                refine V.goto (tgt := 43) F dX7_unlike_67 (by decide) ?_
                exact ih43 (j + 1) _ (by omega) (by rw [hot]; exact fil_s _ _ hj.1 rfl) (by omega)
          exact L43 _ 0 _ (by omega) (fil_0 _ _).symm (Nat.lt_succ_self _)
        · refine V.bipush (q := 30) F dX7_unlike_28 rfl (by decide) ?_
          exact V.iret F T dX7_unlike_30 ⟨_, _, _, _, (iEq (by unfold rUnl; omega)), rfl⟩ [hm, ms, mp, mq, mt, mpa, msh, mo, mtu] rfl rfl
      · refine V.iconst (q := 22) F dX7_unlike_21 rfl ?_
        exact V.iret F T dX7_unlike_22 ⟨_, _, _, _, (iEq (by unfold rUnl; omega)), rfl⟩ [hm, ms, mp, mq, mt, mpa, msh, mo, mtu] rfl rfl

abbrev YX7_seasonOf (l : Launch) (G : Gx) : Sx := (cX7_seasonOf, 8, RX7, wsX7_seasonOf, rmD 3, l, G)
theorem ydX7_seasonOf : ydOk yX7_seasonOf 2 := by decide +kernel
set_option maxHeartbeats 1000000 in
set_option maxRecDepth 20000 in
theorem c_X7_seasonOf (l : Launch) (G : Gx) (hm ms mp mq mt mpa msh mo mtu : Nat) (a sv past sq t pa sh ot tu : Int → Int) (kn kp n p k : Int) (hR : Rel a sv) (hI : Inv a) (hkn : 0 ≤ kn ∧ kn ≤ 4) (hkp : 0 ≤ kp ∧ kp ≤ 1) (hn : 0 ≤ n ∧ n ≤ 80) (ht : ∀ j, 0 ≤ t j ∧ t j < 65536) (hrp : -2147483648 ≤ p ∧ p < 2147483648) (hrk : -2147483648 ≤ k ∧ k < 2147483648) : Ct l G yX7_seasonOf wsX7_seasonOf (rmD 3) [.ref hm, .int (zI p), .int (zI k)] [(hm, .inr (7, [.ref ms, .ref mp, .int (zI kn), .ref mq, .int (zI kp), .ref mt, .int (zI n), .ref mpa, .ref msh, .ref mo, .ref mtu])), (ms, aJ G 7157 sv), (mp, aJ G 28628 past), (mq, aJ G 7157 sq), (mt, aI G 80 t), (mpa, aI G 48 pa), (msh, aI G 48 sh), (mo, aI G 48 ot), (mtu, aI G 16 tu)] (RdM hm ms mp mq mt mpa msh mo mtu G sv past kn sq kp t n (rSea a p k)) := by
  refine Ct.intro (cc := cX7_seasonOf) (maxL := 8) (ret := (some .int)) (lo0 := [some (.ref hm), some (.int (zI p)), some (.int (zI k)), none, none, none, none, none]) (by decide +kernel) rfl ⟨rfl, rfl⟩ (Nat.le_of_ble_eq_true rfl) rfl ?_
  intro X F T
  change Fx X (YX7_seasonOf l G) at F
  change V X (YX7_seasonOf l G) 0 0 0 _ _ _
  refine V.iload_n (q := 1) F dX7_seasonOf_0 rfl rfl rfl ?_
  refine V.callS (q := 4) F [] dX7_seasonOf_1 rfl (c_X7_isFour l G  _ (by omega)) gX7_seasonOf_X7_isFour rfl ydX7_isFour ⟨Nat.le_of_ble_eq_true rfl, Nat.le_of_ble_eq_true rfl⟩ rfl rfl (Nat.le_of_ble_eq_true rfl) rfl rfl ⟨Nat.zero_le _, Nat.zero_le _⟩ (kkf (st' := [_]) (ws' := [_, _, _, _, _, _, _, _, _]) rfl rfl ?_)
  refine V.if_eq (q := 7) (tgt := 16) F dX7_seasonOf_4 rfl (by decide) (by omega) (fun k4 => ?_) (fun k4 => ?_)
  · refine V.iconst (q := 17) F dX7_seasonOf_16 rfl ?_
    exact V.iret F T dX7_seasonOf_17 ⟨_, _, _, _, (iEq (by unfold rSea; omega)), rfl⟩ [hm, ms, mp, mq, mt, mpa, msh, mo, mtu] rfl rfl
  · refine V.iload_n (q := 8) F dX7_seasonOf_7 rfl rfl rfl ?_
    refine V.iconst (q := 9) F dX7_seasonOf_8 rfl ?_
    refine V.iconst (q := 10) F dX7_seasonOf_9 rfl ?_
    refine V.callS (q := 13) F [] dX7_seasonOf_10 rfl (c_X7_in l G  _ _ _ (by omega) (by omega) (by omega)) gX7_seasonOf_X7_in rfl ydX7_in ⟨Nat.le_of_ble_eq_true rfl, Nat.le_of_ble_eq_true rfl⟩ rfl rfl (Nat.le_of_ble_eq_true rfl) rfl rfl ⟨Nat.zero_le _, Nat.zero_le _⟩ (kkf (st' := [_]) (ws' := [_, _, _, _, _, _, _, _, _]) rfl rfl ?_)
    refine V.if_ne (q := 16) (tgt := 18) F dX7_seasonOf_13 rfl (by decide) (by omega) (fun k13 => ?_) (fun k13 => ?_)
    · refine V.bipush (q := 20) F dX7_seasonOf_18 rfl (by decide) ?_
      refine V.istore_n (q := 21) (lo' := [_, _, _, _, _, _, _, _]) F dX7_seasonOf_20 rfl rfl (Nat.le_of_ble_eq_true rfl) rfl rfl ?_
      refine V.iconst (q := 22) F dX7_seasonOf_21 rfl ?_
      refine V.istore (q := 24) (lo' := [_, _, _, _, _, _, _, _]) F dX7_seasonOf_22 rfl (Nat.le_of_ble_eq_true rfl) rfl rfl ?_
      refine V.iconst (q := 25) F dX7_seasonOf_24 rfl ?_
      refine V.istore (q := 27) (lo' := [_, _, _, _, _, _, _, _]) F dX7_seasonOf_25 rfl (Nat.le_of_ble_eq_true rfl) rfl rfl ?_
      have L27 : ∀ (nq : Nat) (i m b : Int) (pa2 : Int → Int) (hi : 0 ≤ i ∧ i ≤ 4) (hm9 : (m, b) = pvz (fun s => clz a (p * 4 + s) k) i.toNat) (hm2 : 0 ≤ m ∧ m ≤ 159984), (4 - i).toNat < nq → V X (YX7_seasonOf l G) 0 0 27 [some (.ref hm), some (.int (zI p)), some (.int (zI k)), some (.int (zI b)), some (.int (zI m)), some (.int (zI i)), none, none] [] [(hm, .inr (7, [.ref ms, .ref mp, .int (zI kn), .ref mq, .int (zI kp), .ref mt, .int (zI n), .ref mpa, .ref msh, .ref mo, .ref mtu])), (ms, aJ G 7157 sv), (mp, aJ G 28628 past), (mq, aJ G 7157 sq), (mt, aI G 80 t), (mpa, aI G 48 pa2), (msh, aI G 48 sh), (mo, aI G 48 ot), (mtu, aI G 16 tu)] := by
        intro n27
        induction n27 with
        | zero => intro i m b pa2 hi hm9 hm2 hm27; exact absurd hm27 (Nat.not_lt_zero _)
        | succ n27 ih27 =>
          intro i m b pa2 hi hm9 hm2 hm27
          have hset := hI.s
          have hb := fun h : i < 4 => clz_rng hI (r := p * 4 + i) (k := k) (by omega) (by omega)
          refine V.iload (q := 29) F dX7_seasonOf_27 rfl rfl ?_
          refine V.iconst (q := 30) F dX7_seasonOf_29 rfl ?_
          refine V.icmp_ge (q := 33) (tgt := 88) F dX7_seasonOf_30 rfl (by decide) (by omega) (fun k30 => ?_) (fun k30 => ?_)
          · refine V.iload_n (q := 89) F dX7_seasonOf_88 rfl rfl rfl ?_
            exact V.iret F T dX7_seasonOf_89 ⟨_, _, _, _, (iEq (by unfold rSea; rw [if_neg (by omega), show (4 : Nat) = i.toNat by omega, ← hm9])), rfl⟩ [hm, ms, mp, mq, mt, mpa, msh, mo, mtu] rfl rfl
          · refine V.aload_n (q := 34) F dX7_seasonOf_33 rfl rfl rfl ?_
            refine V.iconst (q := 35) F dX7_seasonOf_34 rfl ?_
            refine V.iload_n (q := 36) F dX7_seasonOf_35 rfl rfl rfl ?_
            refine V.imul (q := 37) F dX7_seasonOf_36 rfl ?_
            refine V.iload (q := 39) F dX7_seasonOf_37 rfl rfl ?_
            refine V.iadd (q := 40) F dX7_seasonOf_39 rfl ?_
            rw [show 4 * p + i = p * 4 + i by omega]
            refine V.callV (q := 43) F [0, 1, 5] 0 dX7_seasonOf_40 rfl (c_X7_looks l G hm ms mp mq mt mpa msh mo mtu _ _ _ _ _ _ _ hR hI (by omega)) gX7_seasonOf_X7_looks rfl rfl ydX7_looks ⟨Nat.le_of_ble_eq_true rfl, Nat.le_of_ble_eq_true rfl⟩ (ci := 7) rfl rfl rfl rfl (Nat.le_of_ble_eq_true rfl) rfl rfl ⟨Nat.zero_le _, Nat.zero_le _⟩ (kkf (st' := [_]) (ws' := [_, _, _, _, _, _, _, _, _]) rfl rfl ?_)
            refine V.istore (q := 45) (lo' := [_, _, _, _, _, _, _, _]) F dX7_seasonOf_43 rfl (Nat.le_of_ble_eq_true rfl) rfl rfl ?_
            refine V.aload_n (q := 46) F dX7_seasonOf_45 rfl rfl rfl ?_
            refine V.iload_n (q := 47) F dX7_seasonOf_46 rfl rfl rfl ?_
            refine V.callV (q := 50) F [0, 5] 0 dX7_seasonOf_47 rfl (c_X7_ofKind l G hm ms mp mq mt mpa msh mo mtu _ _ _ _ _ _ _ (by omega)) gX7_seasonOf_X7_ofKind rfl rfl ydX7_ofKind ⟨Nat.le_of_ble_eq_true rfl, Nat.le_of_ble_eq_true rfl⟩ (ci := 7) rfl rfl rfl rfl (Nat.le_of_ble_eq_true rfl) rfl rfl ⟨Nat.zero_le _, Nat.zero_le _⟩ (kkf (st' := [_]) (ws' := [_, _, _, _, _, _, _, _, _]) rfl rfl ?_)
            refine V.istore (q := 52) (lo' := [_, _, _, _, _, _, _, _]) F dX7_seasonOf_50 rfl (Nat.le_of_ble_eq_true rfl) rfl rfl ?_
            refine V.iload (q := 54) F dX7_seasonOf_52 rfl rfl ?_
            refine V.iload (q := 56) F dX7_seasonOf_54 rfl rfl ?_
            refine V.icmp_le (q := 59) (tgt := 64) F dX7_seasonOf_56 rfl (by decide) (by omega) (fun k56 => ?_) (fun k56 => ?_)
            · refine V.iload_n (q := 65) F dX7_seasonOf_64 rfl rfl rfl ?_
              refine V.istore_n (q := 66) (lo' := [_, _, _, _, _, _, _, _]) F dX7_seasonOf_65 rfl rfl (Nat.le_of_ble_eq_true rfl) rfl rfl ?_
              refine V.iload (q := 68) F dX7_seasonOf_66 rfl rfl ?_
              refine V.iload (q := 70) F dX7_seasonOf_68 rfl rfl ?_
              refine V.icmp_le (q := 73) (tgt := 78) F dX7_seasonOf_70 rfl (by decide) (by omega) (fun k70 => ?_) (fun k70 => ?_)
              · refine V.iload (q := 80) F dX7_seasonOf_78 rfl rfl ?_
                refine V.istore (q := 82) (lo' := [_, _, _, _, _, _, _, _]) F dX7_seasonOf_80 rfl (Nat.le_of_ble_eq_true rfl) rfl rfl ?_
                refine V.iinc (q := 85) (lo' := [_, _, _, _, _, _, _, _]) F dX7_seasonOf_82 rfl rfl (Nat.le_of_ble_eq_true rfl) rfl rfl ?_
                refine V.goto (tgt := 27) F dX7_seasonOf_85 (by decide) ?_
                refine V.mask [true, true, true, true, true, true, false, false] (lo' := [_, _, _, _, _, _, _, _]) rfl ?_
                exact ih27 (i + 1) _ _ _ (by omega) (by first | (exfalso; omega) | rw [pvz_s _ hi.1, ← hm9]; first | rw [if_pos (show m < clz a (p * 4 + i) k by omega)] | rw [if_neg (show ¬ m < clz a (p * 4 + i) k by omega)]) (by omega) (by omega)
              · refine V.iload (q := 75) F dX7_seasonOf_73 rfl rfl ?_
                refine V.goto (tgt := 80) F dX7_seasonOf_75 (by decide) ?_
                refine V.istore (q := 82) (lo' := [_, _, _, _, _, _, _, _]) F dX7_seasonOf_80 rfl (Nat.le_of_ble_eq_true rfl) rfl rfl ?_
                refine V.iinc (q := 85) (lo' := [_, _, _, _, _, _, _, _]) F dX7_seasonOf_82 rfl rfl (Nat.le_of_ble_eq_true rfl) rfl rfl ?_
                refine V.goto (tgt := 27) F dX7_seasonOf_85 (by decide) ?_
                refine V.mask [true, true, true, true, true, true, false, false] (lo' := [_, _, _, _, _, _, _, _]) rfl ?_
                exact ih27 (i + 1) _ _ _ (by omega) (by first | (exfalso; omega) | rw [pvz_s _ hi.1, ← hm9]; first | rw [if_pos (show m < clz a (p * 4 + i) k by omega)] | rw [if_neg (show ¬ m < clz a (p * 4 + i) k by omega)]) (by omega) (by omega)
            · refine V.iload (q := 61) F dX7_seasonOf_59 rfl rfl ?_
              refine V.goto (tgt := 65) F dX7_seasonOf_61 (by decide) ?_
              refine V.istore_n (q := 66) (lo' := [_, _, _, _, _, _, _, _]) F dX7_seasonOf_65 rfl rfl (Nat.le_of_ble_eq_true rfl) rfl rfl ?_
              refine V.iload (q := 68) F dX7_seasonOf_66 rfl rfl ?_
              refine V.iload (q := 70) F dX7_seasonOf_68 rfl rfl ?_
              refine V.icmp_le (q := 73) (tgt := 78) F dX7_seasonOf_70 rfl (by decide) (by omega) (fun k70 => ?_) (fun k70 => ?_)
              · refine V.iload (q := 80) F dX7_seasonOf_78 rfl rfl ?_
                refine V.istore (q := 82) (lo' := [_, _, _, _, _, _, _, _]) F dX7_seasonOf_80 rfl (Nat.le_of_ble_eq_true rfl) rfl rfl ?_
                refine V.iinc (q := 85) (lo' := [_, _, _, _, _, _, _, _]) F dX7_seasonOf_82 rfl rfl (Nat.le_of_ble_eq_true rfl) rfl rfl ?_
                refine V.goto (tgt := 27) F dX7_seasonOf_85 (by decide) ?_
                refine V.mask [true, true, true, true, true, true, false, false] (lo' := [_, _, _, _, _, _, _, _]) rfl ?_
                exact ih27 (i + 1) _ _ _ (by omega) (by first | (exfalso; omega) | rw [pvz_s _ hi.1, ← hm9]; first | rw [if_pos (show m < clz a (p * 4 + i) k by omega)] | rw [if_neg (show ¬ m < clz a (p * 4 + i) k by omega)]) (by omega) (by omega)
              · refine V.iload (q := 75) F dX7_seasonOf_73 rfl rfl ?_
                refine V.goto (tgt := 80) F dX7_seasonOf_75 (by decide) ?_
                refine V.istore (q := 82) (lo' := [_, _, _, _, _, _, _, _]) F dX7_seasonOf_80 rfl (Nat.le_of_ble_eq_true rfl) rfl rfl ?_
                refine V.iinc (q := 85) (lo' := [_, _, _, _, _, _, _, _]) F dX7_seasonOf_82 rfl rfl (Nat.le_of_ble_eq_true rfl) rfl rfl ?_
                refine V.goto (tgt := 27) F dX7_seasonOf_85 (by decide) ?_
                refine V.mask [true, true, true, true, true, true, false, false] (lo' := [_, _, _, _, _, _, _, _]) rfl ?_
                exact ih27 (i + 1) _ _ _ (by omega) (by first | (exfalso; omega) | rw [pvz_s _ hi.1, ← hm9]; first | rw [if_pos (show m < clz a (p * 4 + i) k by omega)] | rw [if_neg (show ¬ m < clz a (p * 4 + i) k by omega)]) (by omega) (by omega)
      refine V.mask [true, true, true, true, true, true, false, false] (lo' := [_, _, _, _, _, _, _, _]) rfl ?_
      exact L27 _ 0 0 (-5) _ (by omega) rfl (by omega) (Nat.lt_succ_self _)
    · refine V.iconst (q := 17) F dX7_seasonOf_16 rfl ?_
      exact V.iret F T dX7_seasonOf_17 ⟨_, _, _, _, (iEq (by unfold rSea; omega)), rfl⟩ [hm, ms, mp, mq, mt, mpa, msh, mo, mtu] rfl rfl

abbrev YX7_plate (l : Launch) (G : Gx) : Sx := (cX7_plate, 5, RX7, wsX7_plate, rmD 6, l, G)
theorem ydX7_plate : ydOk yX7_plate 3 := by decide +kernel
set_option maxHeartbeats 1000000 in
set_option maxRecDepth 20000 in
theorem c_X7_plate (l : Launch) (G : Gx) (hm ms mp mq mt mpa msh mo mtu : Nat) (a sv past sq t pa sh ot tu : Int → Int) (kn kp n p q w : Int) (hR : Rel a sv) (hI : Inv a) (hkn : 0 ≤ kn ∧ kn ≤ 4) (hkp : 0 ≤ kp ∧ kp ≤ 1) (hn : 0 ≤ n ∧ n ≤ 80) (ht : ∀ j, 0 ≤ t j ∧ t j < 65536) (hrp : -2147483648 ≤ p ∧ p < 2147483648) (hrq : -2147483648 ≤ q ∧ q < 2147483648) (hrw : -2147483648 ≤ w ∧ w < 2147483648) : Ct l G yX7_plate wsX7_plate (rmD 6) [.ref hm, .int (zI p), .int (zI q), .int (zI w)] [(hm, .inr (7, [.ref ms, .ref mp, .int (zI kn), .ref mq, .int (zI kp), .ref mt, .int (zI n), .ref mpa, .ref msh, .ref mo, .ref mtu])), (ms, aJ G 7157 sv), (mp, aJ G 28628 past), (mq, aJ G 7157 sq), (mt, aI G 80 t), (mpa, aI G 48 pa), (msh, aI G 48 sh), (mo, aI G 48 ot), (mtu, aI G 16 tu)] (RdM hm ms mp mq mt mpa msh mo mtu G sv past kn sq kp t n (rPlate a p q w)) := by
  refine Ct.intro (cc := cX7_plate) (maxL := 5) (ret := (some .int)) (lo0 := [some (.ref hm), some (.int (zI p)), some (.int (zI q)), some (.int (zI w)), none]) (by decide +kernel) rfl ⟨rfl, rfl⟩ (Nat.le_of_ble_eq_true rfl) rfl ?_
  intro X F T
  change Fx X (YX7_plate l G) at F
  change V X (YX7_plate l G) 0 0 0 _ _ _
  have J5 : ∀ (x : Int) (hx : x = if (0 ≤ p ∧ p ≤ 3) ∧ (0 ≤ q ∧ q ≤ 3) then p * 4 + q else -1), V X (YX7_plate l G) 0 0 5 [some (.ref hm), some (.int (zI p)), some (.int (zI q)), some (.int (zI w)), none] [.int (zI x)] [(hm, .inr (7, [.ref ms, .ref mp, .int (zI kn), .ref mq, .int (zI kp), .ref mt, .int (zI n), .ref mpa, .ref msh, .ref mo, .ref mtu])), (ms, aJ G 7157 sv), (mp, aJ G 28628 past), (mq, aJ G 7157 sq), (mt, aI G 80 t), (mpa, aI G 48 pa), (msh, aI G 48 sh), (mo, aI G 48 ot), (mtu, aI G 16 tu)] := by
    intro x hx
    refine V.istore (q := 7) (lo' := [_, _, _, _, _]) F dX7_plate_5 rfl (Nat.le_of_ble_eq_true rfl) rfl rfl ?_
    refine V.iload (q := 9) F dX7_plate_7 rfl rfl ?_
    refine V.if_ge (q := 12) (tgt := 14) F dX7_plate_9 rfl (by decide) (by omega) (fun k9 => ?_) (fun k9 => ?_)
    · have hx2 : x = p * 4 + q := by omega
      subst hx2
      have hr : 0 ≤ p * 4 + q ∧ p * 4 + q < 16 := by omega
      have hw := hI.w hr
      have hset := hI.s
      have hB := hI.bnd
      have c1 := hR.clm hr
      have c3 := hR.scr hr
      have c4 := hR.cir hr
      refine V.iload_n (q := 15) F dX7_plate_14 rfl rfl rfl ?_
      rcases (show w = 0 ∨ w = 1 ∨ w = 2 ∨ w = 3 ∨ w = 4 ∨ w = 5 ∨ (w < 0 ∨ 5 < w) by omega) with rfl | rfl | rfl | rfl | rfl | rfl | hsw
      · refine V.tswIn (tgt := 52) F dX7_plate_15 (by decide) (by decide) (by decide) rfl (by decide) ?_
        refine V.aload_n (q := 53) F dX7_plate_52 rfl rfl rfl ?_
        refine V.sipush (q := 56) F dX7_plate_53 rfl (by decide) ?_
        refine V.iload (q := 58) F dX7_plate_56 rfl rfl ?_
        refine V.iadd (q := 59) F dX7_plate_58 rfl ?_
        refine V.callV (q := 62) F [0, 1] 0 dX7_plate_59 rfl (c_X7_num l G hm ms mp mq mt mpa msh mo mtu _ _ _ _ _ (by omega)) gX7_plate_X7_num rfl rfl ydX7_num ⟨Nat.le_of_ble_eq_true rfl, Nat.le_of_ble_eq_true rfl⟩ (ci := 7) rfl rfl rfl rfl (Nat.le_of_ble_eq_true rfl) rfl rfl ⟨Nat.zero_le _, Nat.zero_le _⟩ (kkf (st' := [_]) (ws' := [_, _, _, _, _, _, _, _, _]) rfl rfl ?_)
        exact V.iret F T dX7_plate_62 ⟨_, _, _, _, (iEq (by unfold rPlate; first | omega | (simp; done) | (simp; omega))), rfl⟩ [hm, ms, mp, mq, mt, mpa, msh, mo, mtu] rfl rfl
      · refine V.tswIn (tgt := 63) F dX7_plate_15 (by decide) (by decide) (by decide) rfl (by decide) ?_
        refine V.aload_n (q := 64) F dX7_plate_63 rfl rfl rfl ?_
        refine V.sipush (q := 67) F dX7_plate_64 rfl (by decide) ?_
        refine V.iload (q := 69) F dX7_plate_67 rfl rfl ?_
        refine V.iadd (q := 70) F dX7_plate_69 rfl ?_
        refine V.callV (q := 73) F [0, 1] 0 dX7_plate_70 rfl (c_X7_num l G hm ms mp mq mt mpa msh mo mtu _ _ _ _ _ (by omega)) gX7_plate_X7_num rfl rfl ydX7_num ⟨Nat.le_of_ble_eq_true rfl, Nat.le_of_ble_eq_true rfl⟩ (ci := 7) rfl rfl rfl rfl (Nat.le_of_ble_eq_true rfl) rfl rfl ⟨Nat.zero_le _, Nat.zero_le _⟩ (kkf (st' := [_]) (ws' := [_, _, _, _, _, _, _, _, _]) rfl rfl ?_)
        exact V.iret F T dX7_plate_73 ⟨_, _, _, _, (iEq (by unfold rPlate; first | omega | (simp; done) | (simp; omega))), rfl⟩ [hm, ms, mp, mq, mt, mpa, msh, mo, mtu] rfl rfl
      · refine V.tswIn (tgt := 74) F dX7_plate_15 (by decide) (by decide) (by decide) rfl (by decide) ?_
        refine V.aload_n (q := 75) F dX7_plate_74 rfl rfl rfl ?_
        refine V.iload (q := 77) F dX7_plate_75 rfl rfl ?_
        refine V.callV (q := 80) F [0, 1] 0 dX7_plate_77 rfl (c_X7_petals l G hm ms mp mq mt mpa msh mo mtu _ _ _ _ _ _ hR hI (by omega)) gX7_plate_X7_petals rfl rfl ydX7_petals ⟨Nat.le_of_ble_eq_true rfl, Nat.le_of_ble_eq_true rfl⟩ (ci := 7) rfl rfl rfl rfl (Nat.le_of_ble_eq_true rfl) rfl rfl ⟨Nat.zero_le _, Nat.zero_le _⟩ (kkf (st' := [_]) (ws' := [_, _, _, _, _, _, _, _, _]) rfl rfl ?_)
        exact V.iret F T dX7_plate_80 ⟨_, _, _, _, (iEq (by unfold rPlate; first | omega | (simp; done) | (simp; omega))), rfl⟩ [hm, ms, mp, mq, mt, mpa, msh, mo, mtu] rfl rfl
      · refine V.tswIn (tgt := 81) F dX7_plate_15 (by decide) (by decide) (by decide) rfl (by decide) ?_
        refine V.aload_n (q := 82) F dX7_plate_81 rfl rfl rfl ?_
        refine V.iload (q := 84) F dX7_plate_82 rfl rfl ?_
        refine V.callV (q := 87) F [0, 1] 0 dX7_plate_84 rfl (c_X7_longest l G hm ms mp mq mt mpa msh mo mtu _ _ _ _ _ _ hR hI (by omega)) gX7_plate_X7_longest rfl rfl ydX7_longest ⟨Nat.le_of_ble_eq_true rfl, Nat.le_of_ble_eq_true rfl⟩ (ci := 7) rfl rfl rfl rfl (Nat.le_of_ble_eq_true rfl) rfl rfl ⟨Nat.zero_le _, Nat.zero_le _⟩ (kkf (st' := [_]) (ws' := [_, _, _, _, _, _, _, _, _]) rfl rfl ?_)
        exact V.iret F T dX7_plate_87 ⟨_, _, _, _, (iEq (by unfold rPlate; first | omega | (simp; done) | (simp; omega))), rfl⟩ [hm, ms, mp, mq, mt, mpa, msh, mo, mtu] rfl rfl
      · refine V.tswIn (tgt := 88) F dX7_plate_15 (by decide) (by decide) (by decide) rfl (by decide) ?_
        refine V.aload_n (q := 89) F dX7_plate_88 rfl rfl rfl ?_
        refine V.iload (q := 91) F dX7_plate_89 rfl rfl ?_
        refine V.callV (q := 94) F [0, 1, 5, 6] 0 dX7_plate_91 rfl (c_X7_farOff l G hm ms mp mq mt mpa msh mo mtu _ _ _ _ _ _ _ _ hR hI (by omega)) gX7_plate_X7_farOff rfl rfl ydX7_farOff ⟨Nat.le_of_ble_eq_true rfl, Nat.le_of_ble_eq_true rfl⟩ (ci := 7) rfl rfl rfl rfl (Nat.le_of_ble_eq_true rfl) rfl rfl ⟨Nat.zero_le _, Nat.zero_le _⟩ (kkf (st' := [_]) (ws' := [_, _, _, _, _, _, _, _, _]) rfl rfl ?_)
        exact V.iret F T dX7_plate_94 ⟨_, _, _, _, (iEq (by unfold rPlate; first | omega | (simp; done) | (simp; omega))), rfl⟩ [hm, ms, mp, mq, mt, mpa, msh, mo, mtu] rfl rfl
      · refine V.tswIn (tgt := 95) F dX7_plate_15 (by decide) (by decide) (by decide) rfl (by decide) ?_
        refine V.aload_n (q := 96) F dX7_plate_95 rfl rfl rfl ?_
        refine V.iload (q := 98) F dX7_plate_96 rfl rfl ?_
        refine V.callV (q := 101) F [0, 1, 5, 6] 0 dX7_plate_98 rfl (c_X7_needs l G hm ms mp mq mt mpa msh mo mtu _ _ _ _ _ _ _ _ hR hI (by omega)) gX7_plate_X7_needs rfl rfl ydX7_needs ⟨Nat.le_of_ble_eq_true rfl, Nat.le_of_ble_eq_true rfl⟩ (ci := 7) rfl rfl rfl rfl (Nat.le_of_ble_eq_true rfl) rfl rfl ⟨Nat.zero_le _, Nat.zero_le _⟩ (kkf (st' := [_]) (ws' := [_, _, _, _, _, _, _, _, _]) rfl rfl ?_)
        exact V.iret F T dX7_plate_101 ⟨_, _, _, _, (iEq (by unfold rPlate; first | omega | (simp; done) | (simp; omega))), rfl⟩ [hm, ms, mp, mq, mt, mpa, msh, mo, mtu] rfl rfl
      · refine V.tswOut (tgt := 102) F dX7_plate_15 (by omega) hsw (by decide) ?_
        refine V.bipush (q := 104) F dX7_plate_102 rfl (by decide) ?_
        exact V.iret F T dX7_plate_104 ⟨_, _, _, _, (iEq (by unfold rPlate; first | omega | (simp; done) | (simp; omega))), rfl⟩ [hm, ms, mp, mq, mt, mpa, msh, mo, mtu] rfl rfl
    · refine V.iconst (q := 13) F dX7_plate_12 rfl ?_
      exact V.iret F T dX7_plate_13 ⟨_, _, _, _, (iEq (by unfold rPlate; first | omega | (simp; done) | (simp; omega))), rfl⟩ [hm, ms, mp, mq, mt, mpa, msh, mo, mtu] rfl rfl
  refine V.iload_n (q := 1) F dX7_plate_0 rfl rfl rfl ?_
  refine V.iload_n (q := 2) F dX7_plate_1 rfl rfl rfl ?_
  refine V.callS (q := 5) F [] dX7_plate_2 rfl (c_X7_roseOf l G  _ _ (by omega) (by omega)) gX7_plate_X7_roseOf rfl ydX7_roseOf ⟨Nat.le_of_ble_eq_true rfl, Nat.le_of_ble_eq_true rfl⟩ rfl rfl (Nat.le_of_ble_eq_true rfl) rfl rfl ⟨Nat.zero_le _, Nat.zero_le _⟩ (kkf (st' := [_]) (ws' := [_, _, _, _, _, _, _, _, _]) rfl rfl ?_)
  exact J5 _ (by omega)

abbrev YX7_petal (l : Launch) (G : Gx) : Sx := (cX7_petal, 6, RX7, wsX7_petal, rmD 3, l, G)
theorem ydX7_petal : ydOk yX7_petal 4 := by decide +kernel
set_option maxHeartbeats 1000000 in
set_option maxRecDepth 20000 in
theorem c_X7_petal (l : Launch) (G : Gx) (hm ms mp mq mt mpa msh mo mtu : Nat) (a sv past sq t pa sh ot tu : Int → Int) (kn kp n p q d k : Int) (hR : Rel a sv) (hI : Inv a) (hkn : 0 ≤ kn ∧ kn ≤ 4) (hkp : 0 ≤ kp ∧ kp ≤ 1) (hn : 0 ≤ n ∧ n ≤ 80) (ht : ∀ j, 0 ≤ t j ∧ t j < 65536) (hrp : -2147483648 ≤ p ∧ p < 2147483648) (hrq : -2147483648 ≤ q ∧ q < 2147483648) (hrd : -2147483648 ≤ d ∧ d < 2147483648) (hrk : -2147483648 ≤ k ∧ k < 2147483648) : Ct l G yX7_petal wsX7_petal (rmD 3) [.ref hm, .int (zI p), .int (zI q), .int (zI d), .int (zI k)] [(hm, .inr (7, [.ref ms, .ref mp, .int (zI kn), .ref mq, .int (zI kp), .ref mt, .int (zI n), .ref mpa, .ref msh, .ref mo, .ref mtu])), (ms, aJ G 7157 sv), (mp, aJ G 28628 past), (mq, aJ G 7157 sq), (mt, aI G 80 t), (mpa, aI G 48 pa), (msh, aI G 48 sh), (mo, aI G 48 ot), (mtu, aI G 16 tu)] (RdM hm ms mp mq mt mpa msh mo mtu G sv past kn sq kp t n (rPetal a p q d k)) := by
  refine Ct.intro (cc := cX7_petal) (maxL := 6) (ret := (some .int)) (lo0 := [some (.ref hm), some (.int (zI p)), some (.int (zI q)), some (.int (zI d)), some (.int (zI k)), none]) (by decide +kernel) rfl ⟨rfl, rfl⟩ (Nat.le_of_ble_eq_true rfl) rfl ?_
  intro X F T
  change Fx X (YX7_petal l G) at F
  change V X (YX7_petal l G) 0 0 0 _ _ _
  have J5 : ∀ (x : Int) (hx : x = if (0 ≤ p ∧ p ≤ 3) ∧ (0 ≤ q ∧ q ≤ 3) then p * 4 + q else -1), V X (YX7_petal l G) 0 0 5 [some (.ref hm), some (.int (zI p)), some (.int (zI q)), some (.int (zI d)), some (.int (zI k)), none] [.int (zI x)] [(hm, .inr (7, [.ref ms, .ref mp, .int (zI kn), .ref mq, .int (zI kp), .ref mt, .int (zI n), .ref mpa, .ref msh, .ref mo, .ref mtu])), (ms, aJ G 7157 sv), (mp, aJ G 28628 past), (mq, aJ G 7157 sq), (mt, aI G 80 t), (mpa, aI G 48 pa), (msh, aI G 48 sh), (mo, aI G 48 ot), (mtu, aI G 16 tu)] := by
    intro x hx
    refine V.istore (q := 7) (lo' := [_, _, _, _, _, _]) F dX7_petal_5 rfl (Nat.le_of_ble_eq_true rfl) rfl rfl ?_
    refine V.iload (q := 9) F dX7_petal_7 rfl rfl ?_
    refine V.if_lt (q := 12) (tgt := 36) F dX7_petal_9 rfl (by decide) (by omega) (fun k9 => ?_) (fun k9 => ?_)
    · refine V.iconst (q := 37) F dX7_petal_36 rfl ?_
      exact V.iret F T dX7_petal_37 ⟨_, _, _, _, (iEq (by unfold rPetal; omega)), rfl⟩ [hm, ms, mp, mq, mt, mpa, msh, mo, mtu] rfl rfl
    · have hx2 : x = p * 4 + q := by omega
      subst hx2
      have hr : 0 ≤ p * 4 + q ∧ p * 4 + q < 16 := by omega
      have hw := hI.w hr
      have hset := hI.s
      have hB := hI.bnd
      have c1 := hR.clm hr
      refine V.iload_n (q := 13) F dX7_petal_12 rfl rfl rfl ?_
      refine V.iload (q := 15) F dX7_petal_13 rfl rfl ?_
      refine V.callS (q := 18) F [] dX7_petal_15 rfl (c_X7_isPart l G  _ _ (by omega) (by omega)) gX7_petal_X7_isPart rfl ydX7_isPart ⟨Nat.le_of_ble_eq_true rfl, Nat.le_of_ble_eq_true rfl⟩ rfl rfl (Nat.le_of_ble_eq_true rfl) rfl rfl ⟨Nat.zero_le _, Nat.zero_le _⟩ (kkf (st' := [_]) (ws' := [_, _, _, _, _, _, _, _, _]) rfl rfl ?_)
      refine V.if_eq (q := 21) (tgt := 36) F dX7_petal_18 rfl (by decide) (by omega) (fun k18 => ?_) (fun k18 => ?_)
      · refine V.iconst (q := 37) F dX7_petal_36 rfl ?_
        exact V.iret F T dX7_petal_37 ⟨_, _, _, _, (iEq (by unfold rPetal; omega)), rfl⟩ [hm, ms, mp, mq, mt, mpa, msh, mo, mtu] rfl rfl
      · refine V.aload_n (q := 22) F dX7_petal_21 rfl rfl rfl ?_
        refine V.iload (q := 24) F dX7_petal_22 rfl rfl ?_
        refine V.iconst (q := 25) F dX7_petal_24 rfl ?_
        refine V.iload_n (q := 26) F dX7_petal_25 rfl rfl rfl ?_
        refine V.imul (q := 27) F dX7_petal_26 rfl ?_
        refine V.iload (q := 29) F dX7_petal_27 rfl rfl ?_
        refine V.iadd (q := 30) F dX7_petal_29 rfl ?_
        rw [show 3 * d + k = d * 3 + k by omega]
        refine V.callV (q := 33) F [0, 1] 0 dX7_petal_30 rfl (c_X7_petalOf l G hm ms mp mq mt mpa msh mo mtu _ _ _ _ _ _ _ hR (by omega) (by omega)) gX7_petal_X7_petalOf rfl rfl ydX7_petalOf ⟨Nat.le_of_ble_eq_true rfl, Nat.le_of_ble_eq_true rfl⟩ (ci := 7) rfl rfl rfl rfl (Nat.le_of_ble_eq_true rfl) rfl rfl ⟨Nat.zero_le _, Nat.zero_le _⟩ (kkf (st' := [_]) (ws' := [_, _, _, _, _, _, _, _, _]) rfl rfl ?_)
        refine V.goto (tgt := 37) F dX7_petal_33 (by decide) ?_
        exact V.iret F T dX7_petal_37 ⟨_, _, _, _, (iEq (by unfold rPetal; omega)), rfl⟩ [hm, ms, mp, mq, mt, mpa, msh, mo, mtu] rfl rfl
  refine V.iload_n (q := 1) F dX7_petal_0 rfl rfl rfl ?_
  refine V.iload_n (q := 2) F dX7_petal_1 rfl rfl rfl ?_
  refine V.callS (q := 5) F [] dX7_petal_2 rfl (c_X7_roseOf l G  _ _ (by omega) (by omega)) gX7_petal_X7_roseOf rfl ydX7_roseOf ⟨Nat.le_of_ble_eq_true rfl, Nat.le_of_ble_eq_true rfl⟩ rfl rfl (Nat.le_of_ble_eq_true rfl) rfl rfl ⟨Nat.zero_le _, Nat.zero_le _⟩ (kkf (st' := [_]) (ws' := [_, _, _, _, _, _, _, _, _]) rfl rfl ?_)
  exact J5 _ (by omega)

abbrev YX7_reason (l : Launch) (G : Gx) : Sx := (cX7_reason, 4, RX7, wsX7_reason, rmD 8, l, G)
theorem ydX7_reason : ydOk yX7_reason 2 := by decide +kernel
set_option maxHeartbeats 1000000 in
set_option maxRecDepth 20000 in
theorem c_X7_reason (l : Launch) (G : Gx) (hm ms mp mq mt mpa msh mo mtu : Nat) (a sv past sq t pa sh ot tu : Int → Int) (kn kp n p q : Int) (hR : Rel a sv) (hI : Inv a) (hkn : 0 ≤ kn ∧ kn ≤ 4) (hkp : 0 ≤ kp ∧ kp ≤ 1) (hn : 0 ≤ n ∧ n ≤ 80) (ht : ∀ j, 0 ≤ t j ∧ t j < 65536) (hrp : -2147483648 ≤ p ∧ p < 2147483648) (hrq : -2147483648 ≤ q ∧ q < 2147483648) : Ct l G yX7_reason wsX7_reason (rmD 8) [.ref hm, .int (zI p), .int (zI q)] [(hm, .inr (7, [.ref ms, .ref mp, .int (zI kn), .ref mq, .int (zI kp), .ref mt, .int (zI n), .ref mpa, .ref msh, .ref mo, .ref mtu])), (ms, aJ G 7157 sv), (mp, aJ G 28628 past), (mq, aJ G 7157 sq), (mt, aI G 80 t), (mpa, aI G 48 pa), (msh, aI G 48 sh), (mo, aI G 48 ot), (mtu, aI G 16 tu)] (RdM hm ms mp mq mt mpa msh mo mtu G sv past kn sq kp t n (rReas a p q)) := by
  refine Ct.intro (cc := cX7_reason) (maxL := 4) (ret := (some .int)) (lo0 := [some (.ref hm), some (.int (zI p)), some (.int (zI q)), none]) (by decide +kernel) rfl ⟨rfl, rfl⟩ (Nat.le_of_ble_eq_true rfl) rfl ?_
  intro X F T
  change Fx X (YX7_reason l G) at F
  change V X (YX7_reason l G) 0 0 0 _ _ _
  have J5 : ∀ (x : Int) (hx : x = if (0 ≤ p ∧ p ≤ 3) ∧ (0 ≤ q ∧ q ≤ 3) then p * 4 + q else -1), V X (YX7_reason l G) 0 0 5 [some (.ref hm), some (.int (zI p)), some (.int (zI q)), none] [.int (zI x)] [(hm, .inr (7, [.ref ms, .ref mp, .int (zI kn), .ref mq, .int (zI kp), .ref mt, .int (zI n), .ref mpa, .ref msh, .ref mo, .ref mtu])), (ms, aJ G 7157 sv), (mp, aJ G 28628 past), (mq, aJ G 7157 sq), (mt, aI G 80 t), (mpa, aI G 48 pa), (msh, aI G 48 sh), (mo, aI G 48 ot), (mtu, aI G 16 tu)] := by
    intro x hx
    refine V.istore_n (q := 6) (lo' := [_, _, _, _]) F dX7_reason_5 rfl rfl (Nat.le_of_ble_eq_true rfl) rfl rfl ?_
    refine V.iload_n (q := 7) F dX7_reason_6 rfl rfl rfl ?_
    refine V.if_ge (q := 10) (tgt := 14) F dX7_reason_7 rfl (by decide) (by omega) (fun k7 => ?_) (fun k7 => ?_)
    · have hx2 : x = p * 4 + q := by omega
      subst hx2
      have hr : 0 ≤ p * 4 + q ∧ p * 4 + q < 16 := by omega
      have hw := hI.w hr
      have hset := hI.s
      have hB := hI.bnd
      have c1 := hR.clm hr
      refine V.aload_n (q := 15) F dX7_reason_14 rfl rfl rfl ?_
      refine V.iload_n (q := 16) F dX7_reason_15 rfl rfl rfl ?_
      refine V.callV (q := 19) F [0, 1, 5, 6] 0 dX7_reason_16 rfl (c_X7_reasonOf l G hm ms mp mq mt mpa msh mo mtu _ _ _ _ _ _ _ _ hR hI (by omega)) gX7_reason_X7_reasonOf rfl rfl ydX7_reasonOf ⟨Nat.le_of_ble_eq_true rfl, Nat.le_of_ble_eq_true rfl⟩ (ci := 7) rfl rfl rfl rfl (Nat.le_of_ble_eq_true rfl) rfl rfl ⟨Nat.zero_le _, Nat.zero_le _⟩ (fun r9 w9 h9 _ => ?_)
      obtain ⟨pa, sh, rfl, rfl⟩ := h9
      refine V.eq (pc' := 19) (st' := [_]) (ws' := [_, _, _, _, _, _, _, _, _]) rfl rfl rfl rfl ?_
      exact V.iret F T dX7_reason_19 ⟨_, _, _, _, (iEq (by unfold rReas; omega)), rfl⟩ [hm, ms, mp, mq, mt, mpa, msh, mo, mtu] rfl rfl
    · refine V.iconst (q := 11) F dX7_reason_10 rfl ?_
      refine V.goto (tgt := 19) F dX7_reason_11 (by decide) ?_
      exact V.iret F T dX7_reason_19 ⟨_, _, _, _, (iEq (by unfold rReas; omega)), rfl⟩ [hm, ms, mp, mq, mt, mpa, msh, mo, mtu] rfl rfl
  refine V.iload_n (q := 1) F dX7_reason_0 rfl rfl rfl ?_
  refine V.iload_n (q := 2) F dX7_reason_1 rfl rfl rfl ?_
  refine V.callS (q := 5) F [] dX7_reason_2 rfl (c_X7_roseOf l G  _ _ (by omega) (by omega)) gX7_reason_X7_roseOf rfl ydX7_roseOf ⟨Nat.le_of_ble_eq_true rfl, Nat.le_of_ble_eq_true rfl⟩ rfl rfl (Nat.le_of_ble_eq_true rfl) rfl rfl ⟨Nat.zero_le _, Nat.zero_le _⟩ (kkf (st' := [_]) (ws' := [_, _, _, _, _, _, _, _, _]) rfl rfl ?_)
  exact J5 _ (by omega)

abbrev YX7_nextPlate (l : Launch) (G : Gx) : Sx := (cX7_nextPlate, 5, RX7, wsX7_nextPlate, rmD 8, l, G)
theorem ydX7_nextPlate : ydOk yX7_nextPlate 0 := by decide +kernel
set_option maxHeartbeats 1000000 in
set_option maxRecDepth 20000 in
theorem c_X7_nextPlate (l : Launch) (G : Gx) (hm ms mp mq mt mpa msh mo mtu : Nat) (a sv past sq t pa sh ot tu : Int → Int) (kn kp n : Int) (hR : Rel a sv) (hI : Inv a) (hkn : 0 ≤ kn ∧ kn ≤ 4) (hkp : 0 ≤ kp ∧ kp ≤ 1) (hn : 0 ≤ n ∧ n ≤ 80) (ht : ∀ j, 0 ≤ t j ∧ t j < 65536) : Ct l G yX7_nextPlate wsX7_nextPlate (rmD 8) [.ref hm] [(hm, .inr (7, [.ref ms, .ref mp, .int (zI kn), .ref mq, .int (zI kp), .ref mt, .int (zI n), .ref mpa, .ref msh, .ref mo, .ref mtu])), (ms, aJ G 7157 sv), (mp, aJ G 28628 past), (mq, aJ G 7157 sq), (mt, aI G 80 t), (mpa, aI G 48 pa), (msh, aI G 48 sh), (mo, aI G 48 ot), (mtu, aI G 16 tu)] (RdM hm ms mp mq mt mpa msh mo mtu G sv past kn sq kp t n (rNext a)) := by
  refine Ct.intro (cc := cX7_nextPlate) (maxL := 5) (ret := (some .int)) (lo0 := [some (.ref hm), none, none, none, none]) (by decide +kernel) rfl ⟨rfl, rfl⟩ (Nat.le_of_ble_eq_true rfl) rfl ?_
  intro X F T
  change Fx X (YX7_nextPlate l G) at F
  change V X (YX7_nextPlate l G) 0 0 0 _ _ _
  refine V.bipush (q := 2) F dX7_nextPlate_0 rfl (by decide) ?_
  refine V.istore_n (q := 3) (lo' := [_, _, _, _, _]) F dX7_nextPlate_2 rfl rfl (Nat.le_of_ble_eq_true rfl) rfl rfl ?_
  refine V.iconst (q := 4) F dX7_nextPlate_3 rfl ?_
  refine V.istore_n (q := 5) (lo' := [_, _, _, _, _]) F dX7_nextPlate_4 rfl rfl (Nat.le_of_ble_eq_true rfl) rfl rfl ?_
  refine V.iconst (q := 6) F dX7_nextPlate_5 rfl ?_
  refine V.istore_n (q := 7) (lo' := [_, _, _, _, _]) F dX7_nextPlate_6 rfl rfl (Nat.le_of_ble_eq_true rfl) rfl rfl ?_
  have L7 : ∀ (nq : Nat) (i m b : Int) (pa2 sh2 : Int → Int) (hi : 0 ≤ i ∧ i ≤ 16) (hm9 : (m, b) = pvz (nxf a) i.toNat) (hm2 : 0 ≤ m ∧ m ≤ 1000000), (16 - i).toNat < nq → V X (YX7_nextPlate l G) 0 0 7 [some (.ref hm), some (.int (zI b)), some (.int (zI m)), some (.int (zI i)), none] [] [(hm, .inr (7, [.ref ms, .ref mp, .int (zI kn), .ref mq, .int (zI kp), .ref mt, .int (zI n), .ref mpa, .ref msh, .ref mo, .ref mtu])), (ms, aJ G 7157 sv), (mp, aJ G 28628 past), (mq, aJ G 7157 sq), (mt, aI G 80 t), (mpa, aI G 48 pa2), (msh, aI G 48 sh2), (mo, aI G 48 ot), (mtu, aI G 16 tu)] := by
    intro n7
    induction n7 with
    | zero => intro i m b pa2 sh2 hi hm9 hm2 hm7; exact absurd hm7 (Nat.not_lt_zero _)
    | succ n7 ih7 =>
      intro i m b pa2 sh2 hi hm9 hm2 hm7
      have hb := fun h : i < 16 => nxf_rng hI (r := i) (by omega)
      have hob : 0 ≤ obsz a i ∧ obsz a i ≤ 3 := by unfold obsz; omega
      have hnx : nxf a i = if obsz a i = 0 then disz a i else 0 := rfl
      refine V.iload_n (q := 8) F dX7_nextPlate_7 rfl rfl rfl ?_
      refine V.bipush (q := 10) F dX7_nextPlate_8 rfl (by decide) ?_
      refine V.icmp_ge (q := 13) (tgt := 63) F dX7_nextPlate_10 rfl (by decide) (by omega) (fun k10 => ?_) (fun k10 => ?_)
      · refine V.iload_n (q := 64) F dX7_nextPlate_63 rfl rfl rfl ?_
        exact V.iret F T dX7_nextPlate_64 ⟨_, _, _, _, (iEq (by unfold rNext; rw [show (16 : Nat) = i.toNat by omega, ← hm9])), rfl⟩ [hm, ms, mp, mq, mt, mpa, msh, mo, mtu] rfl rfl
      · have J30 : ∀ (y : Int) (pa2 sh2 : Int → Int) (hy : y = nxf a i), V X (YX7_nextPlate l G) 0 0 30 [some (.ref hm), some (.int (zI b)), some (.int (zI m)), some (.int (zI i)), none] [.int (zI y)] [(hm, .inr (7, [.ref ms, .ref mp, .int (zI kn), .ref mq, .int (zI kp), .ref mt, .int (zI n), .ref mpa, .ref msh, .ref mo, .ref mtu])), (ms, aJ G 7157 sv), (mp, aJ G 28628 past), (mq, aJ G 7157 sq), (mt, aI G 80 t), (mpa, aI G 48 pa2), (msh, aI G 48 sh2), (mo, aI G 48 ot), (mtu, aI G 16 tu)] := by
          intro y pa2 sh2 hy
          subst hy
          refine V.istore (q := 32) (lo' := [_, _, _, _, _]) F dX7_nextPlate_30 rfl (Nat.le_of_ble_eq_true rfl) rfl rfl ?_
          refine V.iload (q := 34) F dX7_nextPlate_32 rfl rfl ?_
          refine V.iload_n (q := 35) F dX7_nextPlate_34 rfl rfl rfl ?_
          refine V.icmp_le (q := 38) (tgt := 42) F dX7_nextPlate_35 rfl (by decide) (by omega) (fun k35 => ?_) (fun k35 => ?_)
          · refine V.iload_n (q := 43) F dX7_nextPlate_42 rfl rfl rfl ?_
            refine V.istore_n (q := 44) (lo' := [_, _, _, _, _]) F dX7_nextPlate_43 rfl rfl (Nat.le_of_ble_eq_true rfl) rfl rfl ?_
            refine V.iload (q := 46) F dX7_nextPlate_44 rfl rfl ?_
            refine V.iload_n (q := 47) F dX7_nextPlate_46 rfl rfl rfl ?_
            refine V.icmp_le (q := 50) (tgt := 55) F dX7_nextPlate_47 rfl (by decide) (by omega) (fun k47 => ?_) (fun k47 => ?_)
            · refine V.iload_n (q := 56) F dX7_nextPlate_55 rfl rfl rfl ?_
              refine V.istore_n (q := 57) (lo' := [_, _, _, _, _]) F dX7_nextPlate_56 rfl rfl (Nat.le_of_ble_eq_true rfl) rfl rfl ?_
              refine V.iinc (q := 60) (lo' := [_, _, _, _, _]) F dX7_nextPlate_57 rfl rfl (Nat.le_of_ble_eq_true rfl) rfl rfl ?_
              refine V.goto (tgt := 7) F dX7_nextPlate_60 (by decide) ?_
              refine V.mask [true, true, true, true, false] (lo' := [_, _, _, _, _]) rfl ?_
              exact ih7 (i + 1) _ _ _ _ (by omega) (by first | (exfalso; omega) | rw [pvz_s _ hi.1, ← hm9]; first | rw [if_pos (show m < nxf a i by omega)] | rw [if_neg (show ¬ m < nxf a i by omega)]) (by omega) (by omega)
            · refine V.iload (q := 52) F dX7_nextPlate_50 rfl rfl ?_
              refine V.goto (tgt := 56) F dX7_nextPlate_52 (by decide) ?_
              refine V.istore_n (q := 57) (lo' := [_, _, _, _, _]) F dX7_nextPlate_56 rfl rfl (Nat.le_of_ble_eq_true rfl) rfl rfl ?_
              refine V.iinc (q := 60) (lo' := [_, _, _, _, _]) F dX7_nextPlate_57 rfl rfl (Nat.le_of_ble_eq_true rfl) rfl rfl ?_
              refine V.goto (tgt := 7) F dX7_nextPlate_60 (by decide) ?_
              refine V.mask [true, true, true, true, false] (lo' := [_, _, _, _, _]) rfl ?_
              exact ih7 (i + 1) _ _ _ _ (by omega) (by first | (exfalso; omega) | rw [pvz_s _ hi.1, ← hm9]; first | rw [if_pos (show m < nxf a i by omega)] | rw [if_neg (show ¬ m < nxf a i by omega)]) (by omega) (by omega)
          · refine V.iload_n (q := 39) F dX7_nextPlate_38 rfl rfl rfl ?_
            refine V.goto (tgt := 43) F dX7_nextPlate_39 (by decide) ?_
            refine V.istore_n (q := 44) (lo' := [_, _, _, _, _]) F dX7_nextPlate_43 rfl rfl (Nat.le_of_ble_eq_true rfl) rfl rfl ?_
            refine V.iload (q := 46) F dX7_nextPlate_44 rfl rfl ?_
            refine V.iload_n (q := 47) F dX7_nextPlate_46 rfl rfl rfl ?_
            refine V.icmp_le (q := 50) (tgt := 55) F dX7_nextPlate_47 rfl (by decide) (by omega) (fun k47 => ?_) (fun k47 => ?_)
            · refine V.iload_n (q := 56) F dX7_nextPlate_55 rfl rfl rfl ?_
              refine V.istore_n (q := 57) (lo' := [_, _, _, _, _]) F dX7_nextPlate_56 rfl rfl (Nat.le_of_ble_eq_true rfl) rfl rfl ?_
              refine V.iinc (q := 60) (lo' := [_, _, _, _, _]) F dX7_nextPlate_57 rfl rfl (Nat.le_of_ble_eq_true rfl) rfl rfl ?_
              refine V.goto (tgt := 7) F dX7_nextPlate_60 (by decide) ?_
              refine V.mask [true, true, true, true, false] (lo' := [_, _, _, _, _]) rfl ?_
              exact ih7 (i + 1) _ _ _ _ (by omega) (by first | (exfalso; omega) | rw [pvz_s _ hi.1, ← hm9]; first | rw [if_pos (show m < nxf a i by omega)] | rw [if_neg (show ¬ m < nxf a i by omega)]) (by omega) (by omega)
            · refine V.iload (q := 52) F dX7_nextPlate_50 rfl rfl ?_
              refine V.goto (tgt := 56) F dX7_nextPlate_52 (by decide) ?_
              refine V.istore_n (q := 57) (lo' := [_, _, _, _, _]) F dX7_nextPlate_56 rfl rfl (Nat.le_of_ble_eq_true rfl) rfl rfl ?_
              refine V.iinc (q := 60) (lo' := [_, _, _, _, _]) F dX7_nextPlate_57 rfl rfl (Nat.le_of_ble_eq_true rfl) rfl rfl ?_
              refine V.goto (tgt := 7) F dX7_nextPlate_60 (by decide) ?_
              refine V.mask [true, true, true, true, false] (lo' := [_, _, _, _, _]) rfl ?_
              exact ih7 (i + 1) _ _ _ _ (by omega) (by first | (exfalso; omega) | rw [pvz_s _ hi.1, ← hm9]; first | rw [if_pos (show m < nxf a i by omega)] | rw [if_neg (show ¬ m < nxf a i by omega)]) (by omega) (by omega)
        refine V.aload_n (q := 14) F dX7_nextPlate_13 rfl rfl rfl ?_
        refine V.iload_n (q := 15) F dX7_nextPlate_14 rfl rfl rfl ?_
        refine V.callV (q := 18) F [0, 1, 5, 6] 0 dX7_nextPlate_15 rfl (c_X7_reasonOf l G hm ms mp mq mt mpa msh mo mtu _ _ _ _ _ _ _ _ hR hI (by omega)) gX7_nextPlate_X7_reasonOf rfl rfl ydX7_reasonOf ⟨Nat.le_of_ble_eq_true rfl, Nat.le_of_ble_eq_true rfl⟩ (ci := 7) rfl rfl rfl rfl (Nat.le_of_ble_eq_true rfl) rfl rfl ⟨Nat.zero_le _, Nat.zero_le _⟩ (fun r9 w9 h9 _ => ?_)
        obtain ⟨pa, sh, rfl, rfl⟩ := h9
        refine V.eq (pc' := 18) (st' := [_]) (ws' := [_, _, _, _, _, _, _, _, _]) rfl rfl rfl rfl ?_
        refine V.if_ne (q := 21) (tgt := 29) F dX7_nextPlate_18 rfl (by decide) (by omega) (fun k18 => ?_) (fun k18 => ?_)
        · refine V.iconst (q := 30) F dX7_nextPlate_29 rfl ?_
          exact J30 _ _ _ (by omega)
        · refine V.aload_n (q := 22) F dX7_nextPlate_21 rfl rfl rfl ?_
          refine V.iload_n (q := 23) F dX7_nextPlate_22 rfl rfl rfl ?_
          refine V.callV (q := 26) F [0, 1, 5, 6] 0 dX7_nextPlate_23 rfl (c_X7_farOff l G hm ms mp mq mt mpa msh mo mtu _ _ _ _ _ _ _ _ hR hI (by omega)) gX7_nextPlate_X7_farOff rfl rfl ydX7_farOff ⟨Nat.le_of_ble_eq_true rfl, Nat.le_of_ble_eq_true rfl⟩ (ci := 7) rfl rfl rfl rfl (Nat.le_of_ble_eq_true rfl) rfl rfl ⟨Nat.zero_le _, Nat.zero_le _⟩ (kkf (st' := [_]) (ws' := [_, _, _, _, _, _, _, _, _]) rfl rfl ?_)
          refine V.goto (tgt := 30) F dX7_nextPlate_26 (by decide) ?_
          exact J30 _ _ _ (by omega)
  refine V.mask [true, true, true, true, false] (lo' := [_, _, _, _, _]) rfl ?_
  exact L7 _ 0 0 (-5) _ _ (by omega) rfl (by omega) (Nat.lt_succ_self _)

abbrev YX7_count (l : Launch) (G : Gx) : Sx := (cX7_count, 2, RX7, wsX7_count, rmD 7, l, G)
theorem ydX7_count : ydOk yX7_count 1 := by decide +kernel
theorem inX7_count_X7 : ∀ w ∈ wsX70, w ∈ wsX7_count := fun _ h => List.mem_cons_of_mem _ (List.mem_append_right _ h)
set_option maxHeartbeats 1000000 in
set_option maxRecDepth 20000 in
theorem c_X7_count (l : Launch) (G : Gx) (hm ms mp mq mt mpa msh mo mtu : Nat) (a sv past sq t pa sh ot tu : Int → Int) (kn kp n w : Int) (hR : Rel a sv) (hI : Inv a) (hkn : 0 ≤ kn ∧ kn ≤ 4) (hkp : 0 ≤ kp ∧ kp ≤ 1) (hn : 0 ≤ n ∧ n ≤ 80) (ht : ∀ j, 0 ≤ t j ∧ t j < 65536) (hrw : -2147483648 ≤ w ∧ w < 2147483648) : Ct l G yX7_count wsX7_count (rmD 7) [.ref hm, .int (zI w)] [(hm, .inr (7, [.ref ms, .ref mp, .int (zI kn), .ref mq, .int (zI kp), .ref mt, .int (zI n), .ref mpa, .ref msh, .ref mo, .ref mtu])), (ms, aJ G 7157 sv), (mp, aJ G 28628 past), (mq, aJ G 7157 sq), (mt, aI G 80 t), (mpa, aI G 48 pa), (msh, aI G 48 sh), (mo, aI G 48 ot), (mtu, aI G 16 tu)] (RdM hm ms mp mq mt mpa msh mo mtu G sv past kn sq kp t n (rCount a kn n w)) := by
  refine Ct.intro (cc := cX7_count) (maxL := 2) (ret := (some .int)) (lo0 := [some (.ref hm), some (.int (zI w))]) (by decide +kernel) rfl ⟨rfl, rfl⟩ (Nat.le_of_ble_eq_true rfl) rfl ?_
  intro X F T
  change Fx X (YX7_count l G) at F
  change V X (YX7_count l G) 0 0 0 _ _ _
  have hset := hI.s
  have hs2 := hI.2.2.1.2.2.2
  refine V.iload_n (q := 1) F dX7_count_0 rfl rfl rfl ?_
  rcases (show w = 0 ∨ w = 1 ∨ w = 2 ∨ w = 3 ∨ w = 4 ∨ w = 5 ∨ w = 6 ∨ w = 7 ∨ w = 8 ∨ w = 9 ∨ w = 10 ∨ (w < 0 ∨ 10 < w) by omega) with rfl | rfl | rfl | rfl | rfl | rfl | rfl | rfl | rfl | rfl | rfl | hsw
  · refine V.tswIn (tgt := 60) F dX7_count_1 (by decide) (by decide) (by decide) rfl (by decide) ?_
    refine V.aload_n (q := 61) F dX7_count_60 rfl rfl rfl ?_
    refine V.iload_n (q := 62) F dX7_count_61 rfl rfl rfl ?_
    refine V.callV (q := 65) F [0, 1, 5] 0 dX7_count_62 rfl (c_X7_allHours l G hm ms mp mq mt mpa msh mo mtu _ _ _ _ _ _ _ hR hI (by omega)) gX7_count_X7_allHours rfl rfl ydX7_allHours ⟨Nat.le_of_ble_eq_true rfl, Nat.le_of_ble_eq_true rfl⟩ (ci := 7) rfl rfl rfl rfl (Nat.le_of_ble_eq_true rfl) rfl rfl ⟨Nat.zero_le _, Nat.zero_le _⟩ (fun r9 w9 h9 _ => ?_)
    obtain ⟨pa, rfl, rfl⟩ := h9
    refine V.eq (pc' := 65) (st' := [_]) (ws' := [_, _, _, _, _, _, _, _, _]) rfl rfl rfl rfl ?_
    exact V.iret F T dX7_count_65 ⟨_, _, _, _, (iEq (by unfold rCount; first | omega | (simp; done) | (simp; omega))), rfl⟩ [hm, ms, mp, mq, mt, mpa, msh, mo, mtu] rfl rfl
  · refine V.tswIn (tgt := 60) F dX7_count_1 (by decide) (by decide) (by decide) rfl (by decide) ?_
    refine V.aload_n (q := 61) F dX7_count_60 rfl rfl rfl ?_
    refine V.iload_n (q := 62) F dX7_count_61 rfl rfl rfl ?_
    refine V.callV (q := 65) F [0, 1, 5] 0 dX7_count_62 rfl (c_X7_allHours l G hm ms mp mq mt mpa msh mo mtu _ _ _ _ _ _ _ hR hI (by omega)) gX7_count_X7_allHours rfl rfl ydX7_allHours ⟨Nat.le_of_ble_eq_true rfl, Nat.le_of_ble_eq_true rfl⟩ (ci := 7) rfl rfl rfl rfl (Nat.le_of_ble_eq_true rfl) rfl rfl ⟨Nat.zero_le _, Nat.zero_le _⟩ (fun r9 w9 h9 _ => ?_)
    obtain ⟨pa, rfl, rfl⟩ := h9
    refine V.eq (pc' := 65) (st' := [_]) (ws' := [_, _, _, _, _, _, _, _, _]) rfl rfl rfl rfl ?_
    exact V.iret F T dX7_count_65 ⟨_, _, _, _, (iEq (by unfold rCount; first | omega | (simp; done) | (simp; omega))), rfl⟩ [hm, ms, mp, mq, mt, mpa, msh, mo, mtu] rfl rfl
  · refine V.tswIn (tgt := 66) F dX7_count_1 (by decide) (by decide) (by decide) rfl (by decide) ?_
    refine V.aload_n (q := 67) F dX7_count_66 rfl rfl rfl ?_
    refine V.iload_n (q := 68) F dX7_count_67 rfl rfl rfl ?_
    refine V.callV (q := 71) F [0, 1, 5, 6] 0 dX7_count_68 rfl (c_X7_ofPlates l G hm ms mp mq mt mpa msh mo mtu _ _ _ _ _ _ _ _ hR hI (by omega)) gX7_count_X7_ofPlates rfl rfl ydX7_ofPlates ⟨Nat.le_of_ble_eq_true rfl, Nat.le_of_ble_eq_true rfl⟩ (ci := 7) rfl rfl rfl rfl (Nat.le_of_ble_eq_true rfl) rfl rfl ⟨Nat.zero_le _, Nat.zero_le _⟩ (fun r9 w9 h9 _ => ?_)
    obtain ⟨pa, sh, rfl, rfl⟩ := h9
    refine V.eq (pc' := 71) (st' := [_]) (ws' := [_, _, _, _, _, _, _, _, _]) rfl rfl rfl rfl ?_
    exact V.iret F T dX7_count_71 ⟨_, _, _, _, (iEq (by unfold rCount; first | omega | (simp; done) | (simp; omega))), rfl⟩ [hm, ms, mp, mq, mt, mpa, msh, mo, mtu] rfl rfl
  · refine V.tswIn (tgt := 66) F dX7_count_1 (by decide) (by decide) (by decide) rfl (by decide) ?_
    refine V.aload_n (q := 67) F dX7_count_66 rfl rfl rfl ?_
    refine V.iload_n (q := 68) F dX7_count_67 rfl rfl rfl ?_
    refine V.callV (q := 71) F [0, 1, 5, 6] 0 dX7_count_68 rfl (c_X7_ofPlates l G hm ms mp mq mt mpa msh mo mtu _ _ _ _ _ _ _ _ hR hI (by omega)) gX7_count_X7_ofPlates rfl rfl ydX7_ofPlates ⟨Nat.le_of_ble_eq_true rfl, Nat.le_of_ble_eq_true rfl⟩ (ci := 7) rfl rfl rfl rfl (Nat.le_of_ble_eq_true rfl) rfl rfl ⟨Nat.zero_le _, Nat.zero_le _⟩ (fun r9 w9 h9 _ => ?_)
    obtain ⟨pa, sh, rfl, rfl⟩ := h9
    refine V.eq (pc' := 71) (st' := [_]) (ws' := [_, _, _, _, _, _, _, _, _]) rfl rfl rfl rfl ?_
    exact V.iret F T dX7_count_71 ⟨_, _, _, _, (iEq (by unfold rCount; first | omega | (simp; done) | (simp; omega))), rfl⟩ [hm, ms, mp, mq, mt, mpa, msh, mo, mtu] rfl rfl
  · refine V.tswIn (tgt := 72) F dX7_count_1 (by decide) (by decide) (by decide) rfl (by decide) ?_
    refine V.aload_n (q := 73) F dX7_count_72 rfl rfl rfl ?_
    refine V.sipush (q := 76) F dX7_count_73 rfl (by decide) ?_
    refine V.iload_n (q := 77) F dX7_count_76 rfl rfl rfl ?_
    refine V.iadd (q := 78) F dX7_count_77 rfl ?_
    refine V.iconst (q := 79) F dX7_count_78 rfl ?_
    refine V.isub (q := 80) F dX7_count_79 rfl ?_
    refine V.callV (q := 83) F [0, 1] 0 dX7_count_80 rfl (c_X7_num l G hm ms mp mq mt mpa msh mo mtu _ _ _ _ _ (by omega)) gX7_count_X7_num rfl rfl ydX7_num ⟨Nat.le_of_ble_eq_true rfl, Nat.le_of_ble_eq_true rfl⟩ (ci := 7) rfl rfl rfl rfl (Nat.le_of_ble_eq_true rfl) rfl rfl ⟨Nat.zero_le _, Nat.zero_le _⟩ (kkf (st' := [_]) (ws' := [_, _, _, _, _, _, _, _, _]) rfl rfl ?_)
    exact V.iret F T dX7_count_83 ⟨_, _, _, _, (iEq (by unfold rCount; rw [hR.at (by omega)]; simp)), rfl⟩ [hm, ms, mp, mq, mt, mpa, msh, mo, mtu] rfl rfl
  · refine V.tswIn (tgt := 72) F dX7_count_1 (by decide) (by decide) (by decide) rfl (by decide) ?_
    refine V.aload_n (q := 73) F dX7_count_72 rfl rfl rfl ?_
    refine V.sipush (q := 76) F dX7_count_73 rfl (by decide) ?_
    refine V.iload_n (q := 77) F dX7_count_76 rfl rfl rfl ?_
    refine V.iadd (q := 78) F dX7_count_77 rfl ?_
    refine V.iconst (q := 79) F dX7_count_78 rfl ?_
    refine V.isub (q := 80) F dX7_count_79 rfl ?_
    refine V.callV (q := 83) F [0, 1] 0 dX7_count_80 rfl (c_X7_num l G hm ms mp mq mt mpa msh mo mtu _ _ _ _ _ (by omega)) gX7_count_X7_num rfl rfl ydX7_num ⟨Nat.le_of_ble_eq_true rfl, Nat.le_of_ble_eq_true rfl⟩ (ci := 7) rfl rfl rfl rfl (Nat.le_of_ble_eq_true rfl) rfl rfl ⟨Nat.zero_le _, Nat.zero_le _⟩ (kkf (st' := [_]) (ws' := [_, _, _, _, _, _, _, _, _]) rfl rfl ?_)
    exact V.iret F T dX7_count_83 ⟨_, _, _, _, (iEq (by unfold rCount; rw [hR.at (by omega)]; simp)), rfl⟩ [hm, ms, mp, mq, mt, mpa, msh, mo, mtu] rfl rfl
  · refine V.tswIn (tgt := 84) F dX7_count_1 (by decide) (by decide) (by decide) rfl (by decide) ?_
    refine V.aload_n (q := 85) F dX7_count_84 rfl rfl rfl ?_
    refine V.sipush (q := 88) F dX7_count_85 rfl (by decide) ?_
    refine V.iload_n (q := 89) F dX7_count_88 rfl rfl rfl ?_
    refine V.iadd (q := 90) F dX7_count_89 rfl ?_
    refine V.bipush (q := 92) F dX7_count_90 rfl (by decide) ?_
    refine V.isub (q := 93) F dX7_count_92 rfl ?_
    refine V.callV (q := 96) F [0, 1] 0 dX7_count_93 rfl (c_X7_num l G hm ms mp mq mt mpa msh mo mtu _ _ _ _ _ (by omega)) gX7_count_X7_num rfl rfl ydX7_num ⟨Nat.le_of_ble_eq_true rfl, Nat.le_of_ble_eq_true rfl⟩ (ci := 7) rfl rfl rfl rfl (Nat.le_of_ble_eq_true rfl) rfl rfl ⟨Nat.zero_le _, Nat.zero_le _⟩ (kkf (st' := [_]) (ws' := [_, _, _, _, _, _, _, _, _]) rfl rfl ?_)
    exact V.iret F T dX7_count_96 ⟨_, _, _, _, (iEq (by unfold rCount; rw [hR.at (by omega)]; simp)), rfl⟩ [hm, ms, mp, mq, mt, mpa, msh, mo, mtu] rfl rfl
  · refine V.tswIn (tgt := 84) F dX7_count_1 (by decide) (by decide) (by decide) rfl (by decide) ?_
    refine V.aload_n (q := 85) F dX7_count_84 rfl rfl rfl ?_
    refine V.sipush (q := 88) F dX7_count_85 rfl (by decide) ?_
    refine V.iload_n (q := 89) F dX7_count_88 rfl rfl rfl ?_
    refine V.iadd (q := 90) F dX7_count_89 rfl ?_
    refine V.bipush (q := 92) F dX7_count_90 rfl (by decide) ?_
    refine V.isub (q := 93) F dX7_count_92 rfl ?_
    refine V.callV (q := 96) F [0, 1] 0 dX7_count_93 rfl (c_X7_num l G hm ms mp mq mt mpa msh mo mtu _ _ _ _ _ (by omega)) gX7_count_X7_num rfl rfl ydX7_num ⟨Nat.le_of_ble_eq_true rfl, Nat.le_of_ble_eq_true rfl⟩ (ci := 7) rfl rfl rfl rfl (Nat.le_of_ble_eq_true rfl) rfl rfl ⟨Nat.zero_le _, Nat.zero_le _⟩ (kkf (st' := [_]) (ws' := [_, _, _, _, _, _, _, _, _]) rfl rfl ?_)
    exact V.iret F T dX7_count_96 ⟨_, _, _, _, (iEq (by unfold rCount; rw [hR.at (by omega)]; simp)), rfl⟩ [hm, ms, mp, mq, mt, mpa, msh, mo, mtu] rfl rfl
  · refine V.tswIn (tgt := 84) F dX7_count_1 (by decide) (by decide) (by decide) rfl (by decide) ?_
    refine V.aload_n (q := 85) F dX7_count_84 rfl rfl rfl ?_
    refine V.sipush (q := 88) F dX7_count_85 rfl (by decide) ?_
    refine V.iload_n (q := 89) F dX7_count_88 rfl rfl rfl ?_
    refine V.iadd (q := 90) F dX7_count_89 rfl ?_
    refine V.bipush (q := 92) F dX7_count_90 rfl (by decide) ?_
    refine V.isub (q := 93) F dX7_count_92 rfl ?_
    refine V.callV (q := 96) F [0, 1] 0 dX7_count_93 rfl (c_X7_num l G hm ms mp mq mt mpa msh mo mtu _ _ _ _ _ (by omega)) gX7_count_X7_num rfl rfl ydX7_num ⟨Nat.le_of_ble_eq_true rfl, Nat.le_of_ble_eq_true rfl⟩ (ci := 7) rfl rfl rfl rfl (Nat.le_of_ble_eq_true rfl) rfl rfl ⟨Nat.zero_le _, Nat.zero_le _⟩ (kkf (st' := [_]) (ws' := [_, _, _, _, _, _, _, _, _]) rfl rfl ?_)
    exact V.iret F T dX7_count_96 ⟨_, _, _, _, (iEq (by unfold rCount; rw [hR.at (by omega)]; simp)), rfl⟩ [hm, ms, mp, mq, mt, mpa, msh, mo, mtu] rfl rfl
  · refine V.tswIn (tgt := 97) F dX7_count_1 (by decide) (by decide) (by decide) rfl (by decide) ?_
    refine V.aload_n (q := 98) F dX7_count_97 rfl rfl rfl ?_
    refine V.get (q := 101) F 0 2 dX7_count_98 rfl rfl rfl inX7_count_X7 (by decide) (List.mem_of_getElem? (i := 1) rfl) rfl ?_
    exact V.iret F T dX7_count_101 ⟨_, _, _, _, (iEq (by unfold rCount; first | omega | (simp; done) | (simp; omega))), rfl⟩ [hm, ms, mp, mq, mt, mpa, msh, mo, mtu] rfl rfl
  · refine V.tswIn (tgt := 102) F dX7_count_1 (by decide) (by decide) (by decide) rfl (by decide) ?_
    refine V.aload_n (q := 103) F dX7_count_102 rfl rfl rfl ?_
    refine V.get (q := 106) F 0 6 dX7_count_103 rfl rfl rfl inX7_count_X7 (by decide) (List.mem_of_getElem? (i := 2) rfl) rfl ?_
    exact V.iret F T dX7_count_106 ⟨_, _, _, _, (iEq (by unfold rCount; first | omega | (simp; done) | (simp; omega))), rfl⟩ [hm, ms, mp, mq, mt, mpa, msh, mo, mtu] rfl rfl
  · refine V.tswOut (tgt := 107) F dX7_count_1 (by omega) hsw (by decide) ?_
    refine V.bipush (q := 109) F dX7_count_107 rfl (by decide) ?_
    exact V.iret F T dX7_count_109 ⟨_, _, _, _, (iEq (by unfold rCount; first | omega | (simp; done) | (simp; omega))), rfl⟩ [hm, ms, mp, mq, mt, mpa, msh, mo, mtu] rfl rfl

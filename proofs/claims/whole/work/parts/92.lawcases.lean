abbrev YL (l : Launch) (G : Gx) : Sx := (cL_law, 4, RL, wsL_law, room_1, l, G)
def KN (X : Cx) (l : Launch) (G : Gx) (A : Nat → Nat) (hm ms mp mq mt mpa msh mo mtu b : Nat) (i : Int) : Prop := ∀ (a R sn t sv past sq pa sh ot tu : Int → Int) (o s bb n : Int) (κ : Scr), LI a o s R bb sn t n sv past sq → V X (YL l G) 36 202478 1072 [some (.ref b), some (.ref (A 0)), some (.ref hm), some (.int (zI i))] [] (WX A G a o s R bb sn t n κ ++ WM hm ms mp mq mt mpa msh mo mtu G sv past s sq bb t n pa sh ot tu)
set_option maxHeartbeats 4000000 in
set_option maxRecDepth 20000 in
theorem lcase_24 {X : Cx} {l : Launch} {G : Gx} {A : Nat → Nat} {hm ms mp mq mt mpa msh mo mtu b L : Nat} {xs : Nat → Int32} (F : Fx X (YL l G)) (S : SX X b L xs) (hL : L ≤ 3072) {i : Int} (hi : 0 ≤ i ∧ i + 6 ≤ (L : Int)) {a R sn t sv past sq pa sh ot tu : Int → Int} {o s bb n : Int} {κ : Scr} (h : LI a o s R bb sn t n sv past sq) (kk : KN X l G A hm ms mp mq mt mpa msh mo mtu b i) : V X (YL l G) 36 202478 1036 [some (.ref b), some (.ref (A 0)), some (.ref hm), some (.int (zI i))] [] (WX A G a o s R bb sn t n κ ++ WM hm ms mp mq mt mpa msh mo mtu G sv past s sq bb t n pa sh ot tu) := by
  refine V.aload_n (q := 1037) F dL_law_1036 rfl rfl rfl ?_
  refine V.callX (q := 1040) F 27 rfl nd27 dL_law_1037 rfl (c_X6_nextPlate l G A a κ.1.1 R sn t κ.1.2.1 κ.1.2.2.1 κ.1.2.2.2.1 κ.1.2.2.2.2 κ.2.1.1 κ.2.1.2.1 κ.2.1.2.2 κ.2.2.1.1 κ.2.2.1.2.1 κ.2.2.1.2.2 κ.2.2.2.1.1 κ.2.2.2.1.2.1 κ.2.2.2.1.2.2 o s bb n κ.2.2.2.2.1 κ.2.2.2.2.2.1 κ.2.2.2.2.2.2.1 κ.2.2.2.2.2.2.2.1 κ.2.2.2.2.2.2.2.2.1 κ.2.2.2.2.2.2.2.2.2.1 κ.2.2.2.2.2.2.2.2.2.2.1 κ.2.2.2.2.2.2.2.2.2.2.2 h.1 h.2.2.1 h.2.2.2.1 h.2.2.2.2.1 h.2.2.2.2.2.2.2.1 h.2.2.2.2.2.2.2.2.1) gL_law_X6_nextPlate rfl rfl ydX6_nextPlate ⟨Nat.le_of_ble_eq_true rfl, Nat.le_of_ble_eq_true rfl⟩ (ci := 6) rfl rfl rfl rfl (Nat.le_of_ble_eq_true rfl) ⟨Nat.le_of_ble_eq_true rfl, Nat.le_of_ble_eq_true rfl⟩ (fun r9 w9 h9 => ?_)
  obtain ⟨κ, rfl, rfl⟩ := h9
  refine V.eq (pc' := 1040) (st' := [_]) (ws' := WX A G a o s R bb sn t n κ ++ WM hm ms mp mq mt mpa msh mo mtu G sv past s sq bb t n pa sh ot tu) rfl rfl rfl rfl ?_
  refine V.aload_n (q := 1041) F dL_law_1040 rfl rfl rfl ?_
  refine V.callM (q := 1044) F 27 9 rfl rfl nd9 dL_law_1041 rfl (c_X7_nextPlate l G hm ms mp mq mt mpa msh mo mtu a sv past sq t pa sh ot tu s bb n h.2.1 h.1 h.2.2.2.1 h.2.2.2.2.1 h.2.2.2.2.2.2.2.1 h.2.2.2.2.2.2.2.2.1) gL_law_X7_nextPlate rfl rfl ydX7_nextPlate ⟨Nat.le_of_ble_eq_true rfl, Nat.le_of_ble_eq_true rfl⟩ (ci := 7) rfl rfl rfl rfl (Nat.le_of_ble_eq_true rfl) ⟨Nat.le_of_ble_eq_true rfl, Nat.le_of_ble_eq_true rfl⟩ (fun r9 w9 h9 => ?_)
  obtain ⟨pa, sh, ot, tu, rfl, rfl⟩ := h9
  refine V.eq (pc' := 1044) (st' := [_, _]) (ws' := WX A G a o s R bb sn t n κ ++ WM hm ms mp mq mt mpa msh mo mtu G sv past s sq bb t n pa sh ot tu) rfl rfl rfl rfl ?_
  refine V.isame (tgt := 1072) F dL_law_1044 (by decide) ?_
  exact kk _ _ _ _ _ _ _ _ _ _ _ _ _ _ _ _ h

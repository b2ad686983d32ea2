abbrev YL (l : Launch) (G : Gx) : Sx := (cL_law, 4, RL, wsL_law, room_1, l, G)
def KN (X : Cx) (l : Launch) (G : Gx) (A : Nat → Nat) (hm ms mp mq mt mpa msh mo mtu b : Nat) (i : Int) : Prop := ∀ (a R sn t sv past sq pa sh ot tu : Int → Int) (o s bb n : Int) (κ : Scr), LI a o s R bb sn t n sv past sq → V X (YL l G) 36 202478 1072 [some (.ref b), some (.ref (A 0)), some (.ref hm), some (.int (zI i))] [] (WX A G a o s R bb sn t n κ ++ WM hm ms mp mq mt mpa msh mo mtu G sv past s sq bb t n pa sh ot tu)
set_option maxHeartbeats 4000000 in
set_option maxRecDepth 20000 in
theorem lcase_0 {X : Cx} {l : Launch} {G : Gx} {A : Nat → Nat} {hm ms mp mq mt mpa msh mo mtu b L : Nat} {xs : Nat → Int32} (F : Fx X (YL l G)) (S : SX X b L xs) (hL : L ≤ 3072) {i : Int} (hi : 0 ≤ i ∧ i + 6 ≤ (L : Int)) {a R sn t sv past sq pa sh ot tu : Int → Int} {o s bb n : Int} {κ : Scr} (h : LI a o s R bb sn t n sv past sq) (kk : KN X l G A hm ms mp mq mt mpa msh mo mtu b i) : V X (YL l G) 36 202478 152 [some (.ref b), some (.ref (A 0)), some (.ref hm), some (.int (zI i))] [] (WX A G a o s R bb sn t n κ ++ WM hm ms mp mq mt mpa msh mo mtu G sv past s sq bb t n pa sh ot tu) := by
  refine V.aload_n (q := 153) F dL_law_152 rfl rfl rfl ?_
  refine V.aload_n (q := 154) F dL_law_153 rfl rfl rfl ?_
  refine V.iload_n (q := 155) F dL_law_154 rfl rfl rfl ?_
  refine V.iconst (q := 156) F dL_law_155 rfl ?_
  refine V.iadd (q := 157) F dL_law_156 rfl ?_
  refine V.sld (q := 158) F S dL_law_157 rfl hL (by omega) ?_
  refine V.aload_n (q := 159) F dL_law_158 rfl rfl rfl ?_
  refine V.iload_n (q := 160) F dL_law_159 rfl rfl rfl ?_
  refine V.iconst (q := 161) F dL_law_160 rfl ?_
  refine V.iadd (q := 162) F dL_law_161 rfl ?_
  refine V.sld (q := 163) F S dL_law_162 rfl hL (by omega) ?_
  refine V.aload_n (q := 164) F dL_law_163 rfl rfl rfl ?_
  refine V.iload_n (q := 165) F dL_law_164 rfl rfl rfl ?_
  refine V.iconst (q := 166) F dL_law_165 rfl ?_
  refine V.iadd (q := 167) F dL_law_166 rfl ?_
  refine V.sld (q := 168) F S dL_law_167 rfl hL (by omega) ?_
  refine V.aload_n (q := 169) F dL_law_168 rfl rfl rfl ?_
  refine V.iload_n (q := 170) F dL_law_169 rfl rfl rfl ?_
  refine V.iconst (q := 171) F dL_law_170 rfl ?_
  refine V.iadd (q := 172) F dL_law_171 rfl ?_
  refine V.sld (q := 173) F S dL_law_172 rfl hL (by omega) ?_
  refine V.aload_n (q := 174) F dL_law_173 rfl rfl rfl ?_
  refine V.iload_n (q := 175) F dL_law_174 rfl rfl rfl ?_
  refine V.iconst (q := 176) F dL_law_175 rfl ?_
  refine V.iadd (q := 177) F dL_law_176 rfl ?_
  refine V.sld (q := 178) F S dL_law_177 rfl hL (by omega) ?_
  refine V.callX (q := 181) F 27 rfl nd27 dL_law_178 rfl (c_X6_log l G A a κ.1.1 R sn t κ.1.2.1 κ.1.2.2.1 κ.1.2.2.2.1 κ.1.2.2.2.2 κ.2.1.1 κ.2.1.2.1 κ.2.1.2.2 κ.2.2.1.1 κ.2.2.1.2.1 κ.2.2.1.2.2 κ.2.2.2.1.1 κ.2.2.2.1.2.1 κ.2.2.2.1.2.2 o s bb n κ.2.2.2.2.1 κ.2.2.2.2.2.1 κ.2.2.2.2.2.2.1 κ.2.2.2.2.2.2.2.1 κ.2.2.2.2.2.2.2.2.1 κ.2.2.2.2.2.2.2.2.2.1 κ.2.2.2.2.2.2.2.2.2.2.1 κ.2.2.2.2.2.2.2.2.2.2.2 (scz xs (i + 1)) (scz xs (i + 2)) (scz xs (i + 3)) (scz xs (i + 4)) (scz xs (i + 5)) h.1 h.2.2.1 h.2.2.2.1 h.2.2.2.2.1 h.2.2.2.2.2.2.2.1 h.2.2.2.2.2.2.2.2.1 (scz_rng xs _) (scz_rng xs _) (scz_rng xs _) (scz_rng xs _) (scz_rng xs _)) gL_law_X6_log rfl rfl ydX6_log ⟨Nat.le_of_ble_eq_true rfl, Nat.le_of_ble_eq_true rfl⟩ (ci := 6) rfl rfl rfl rfl (Nat.le_of_ble_eq_true rfl) ⟨Nat.le_of_ble_eq_true rfl, Nat.le_of_ble_eq_true rfl⟩ (fun r9 w9 h9 => ?_)
  obtain ⟨κ, rfl, hneg, hpos⟩ := h9
  rcases Int.lt_or_le (rLog a (scz xs (i + 1)) (scz xs (i + 2)) (scz xs (i + 3)) (scz xs (i + 4)) (scz xs (i + 5))) 0 with hs | hs
  · have e9 := hneg hs
    subst e9
    refine V.eq (pc' := 181) (st' := [_]) (ws' := WX A G a o s R bb sn t n κ ++ WM hm ms mp mq mt mpa msh mo mtu G sv past s sq bb t n pa sh ot tu) rfl rfl rfl rfl ?_
    refine V.aload_n (q := 182) F dL_law_181 rfl rfl rfl ?_
    refine V.aload_n (q := 183) F dL_law_182 rfl rfl rfl ?_
    refine V.iload_n (q := 184) F dL_law_183 rfl rfl rfl ?_
    refine V.iconst (q := 185) F dL_law_184 rfl ?_
    refine V.iadd (q := 186) F dL_law_185 rfl ?_
    refine V.sld (q := 187) F S dL_law_186 rfl hL (by omega) ?_
    refine V.aload_n (q := 188) F dL_law_187 rfl rfl rfl ?_
    refine V.iload_n (q := 189) F dL_law_188 rfl rfl rfl ?_
    refine V.iconst (q := 190) F dL_law_189 rfl ?_
    refine V.iadd (q := 191) F dL_law_190 rfl ?_
    refine V.sld (q := 192) F S dL_law_191 rfl hL (by omega) ?_
    refine V.aload_n (q := 193) F dL_law_192 rfl rfl rfl ?_
    refine V.iload_n (q := 194) F dL_law_193 rfl rfl rfl ?_
    refine V.iconst (q := 195) F dL_law_194 rfl ?_
    refine V.iadd (q := 196) F dL_law_195 rfl ?_
    refine V.sld (q := 197) F S dL_law_196 rfl hL (by omega) ?_
    refine V.aload_n (q := 198) F dL_law_197 rfl rfl rfl ?_
    refine V.iload_n (q := 199) F dL_law_198 rfl rfl rfl ?_
    refine V.iconst (q := 200) F dL_law_199 rfl ?_
    refine V.iadd (q := 201) F dL_law_200 rfl ?_
    refine V.sld (q := 202) F S dL_law_201 rfl hL (by omega) ?_
    refine V.aload_n (q := 203) F dL_law_202 rfl rfl rfl ?_
    refine V.iload_n (q := 204) F dL_law_203 rfl rfl rfl ?_
    refine V.iconst (q := 205) F dL_law_204 rfl ?_
    refine V.iadd (q := 206) F dL_law_205 rfl ?_
    refine V.sld (q := 207) F S dL_law_206 rfl hL (by omega) ?_
    refine V.callM (q := 210) F 27 9 rfl rfl nd9 dL_law_207 rfl (c_X7_log l G hm ms mp mq mt mpa msh mo mtu a sv past sq t pa sh ot tu s bb n (scz xs (i + 1)) (scz xs (i + 2)) (scz xs (i + 3)) (scz xs (i + 4)) (scz xs (i + 5)) h.2.1 h.1 h.2.2.2.1 h.2.2.2.2.1 h.2.2.2.2.2.2.2.1 h.2.2.2.2.2.2.2.2.1 (scz_rng xs _) (scz_rng xs _) (scz_rng xs _) (scz_rng xs _) (scz_rng xs _)) gL_law_X7_log rfl rfl ydX7_log ⟨Nat.le_of_ble_eq_true rfl, Nat.le_of_ble_eq_true rfl⟩ (ci := 7) rfl rfl rfl rfl (Nat.le_of_ble_eq_true rfl) ⟨Nat.le_of_ble_eq_true rfl, Nat.le_of_ble_eq_true rfl⟩ (fun r9 w9 h9 => ?_)
    obtain ⟨sv', pa, sh, ot, tu, rfl, hneg2, hpos2⟩ := h9
    have e9 := hneg2 hs
    subst e9
    refine V.eq (pc' := 210) (st' := [_, _]) (ws' := WX A G a o s R bb sn t n κ ++ WM hm ms mp mq mt mpa msh mo mtu G sv past s sq bb t n pa sh ot tu) rfl rfl rfl rfl ?_
    refine V.isame (tgt := 1072) F dL_law_210 (by decide) ?_
    exact kk _ _ _ _ _ _ _ _ _ _ _ _ _ _ _ _ h
  · have e9 := hpos hs
    subst e9
    refine V.eq (pc' := 181) (st' := [_]) (ws' := WX A G (addW a ((scz xs (i + 1)) * 4 + (scz xs (i + 2))) (scz xs (i + 3)) (scz xs (i + 4)) (scz xs (i + 5))) (oN o s) (sN s) (RN a o s R) bb sn t n κ ++ WM hm ms mp mq mt mpa msh mo mtu G sv past s sq bb t n pa sh ot tu) rfl rfl rfl rfl ?_
    refine V.aload_n (q := 182) F dL_law_181 rfl rfl rfl ?_
    refine V.aload_n (q := 183) F dL_law_182 rfl rfl rfl ?_
    refine V.iload_n (q := 184) F dL_law_183 rfl rfl rfl ?_
    refine V.iconst (q := 185) F dL_law_184 rfl ?_
    refine V.iadd (q := 186) F dL_law_185 rfl ?_
    refine V.sld (q := 187) F S dL_law_186 rfl hL (by omega) ?_
    refine V.aload_n (q := 188) F dL_law_187 rfl rfl rfl ?_
    refine V.iload_n (q := 189) F dL_law_188 rfl rfl rfl ?_
    refine V.iconst (q := 190) F dL_law_189 rfl ?_
    refine V.iadd (q := 191) F dL_law_190 rfl ?_
    refine V.sld (q := 192) F S dL_law_191 rfl hL (by omega) ?_
    refine V.aload_n (q := 193) F dL_law_192 rfl rfl rfl ?_
    refine V.iload_n (q := 194) F dL_law_193 rfl rfl rfl ?_
    refine V.iconst (q := 195) F dL_law_194 rfl ?_
    refine V.iadd (q := 196) F dL_law_195 rfl ?_
    refine V.sld (q := 197) F S dL_law_196 rfl hL (by omega) ?_
    refine V.aload_n (q := 198) F dL_law_197 rfl rfl rfl ?_
    refine V.iload_n (q := 199) F dL_law_198 rfl rfl rfl ?_
    refine V.iconst (q := 200) F dL_law_199 rfl ?_
    refine V.iadd (q := 201) F dL_law_200 rfl ?_
    refine V.sld (q := 202) F S dL_law_201 rfl hL (by omega) ?_
    refine V.aload_n (q := 203) F dL_law_202 rfl rfl rfl ?_
    refine V.iload_n (q := 204) F dL_law_203 rfl rfl rfl ?_
    refine V.iconst (q := 205) F dL_law_204 rfl ?_
    refine V.iadd (q := 206) F dL_law_205 rfl ?_
    refine V.sld (q := 207) F S dL_law_206 rfl hL (by omega) ?_
    refine V.callM (q := 210) F 27 9 rfl rfl nd9 dL_law_207 rfl (c_X7_log l G hm ms mp mq mt mpa msh mo mtu a sv past sq t pa sh ot tu s bb n (scz xs (i + 1)) (scz xs (i + 2)) (scz xs (i + 3)) (scz xs (i + 4)) (scz xs (i + 5)) h.2.1 h.1 h.2.2.2.1 h.2.2.2.2.1 h.2.2.2.2.2.2.2.1 h.2.2.2.2.2.2.2.2.1 (scz_rng xs _) (scz_rng xs _) (scz_rng xs _) (scz_rng xs _) (scz_rng xs _)) gL_law_X7_log rfl rfl ydX7_log ⟨Nat.le_of_ble_eq_true rfl, Nat.le_of_ble_eq_true rfl⟩ (ci := 7) rfl rfl rfl rfl (Nat.le_of_ble_eq_true rfl) ⟨Nat.le_of_ble_eq_true rfl, Nat.le_of_ble_eq_true rfl⟩ (fun r9 w9 h9 => ?_)
    obtain ⟨sv', pa, sh, ot, tu, rfl, hneg2, hpos2⟩ := h9
    obtain ⟨hR9, e9⟩ := hpos2 hs
    subst e9
    refine V.eq (pc' := 210) (st' := [_, _]) (ws' := WX A G (addW a ((scz xs (i + 1)) * 4 + (scz xs (i + 2))) (scz xs (i + 3)) (scz xs (i + 4)) (scz xs (i + 5))) (oN o s) (sN s) (RN a o s R) bb sn t n κ ++ WM hm ms mp mq mt mpa msh mo mtu G sv' (PN sv s past) (sN s) sq bb t n pa sh ot tu) rfl rfl rfl rfl ?_
    refine V.isame (tgt := 1072) F dL_law_210 (by decide) ?_
    exact kk _ _ _ _ _ _ _ _ _ _ _ _ _ _ _ _ (h.rem (inv_log h.1 hs) hR9)
set_option maxHeartbeats 4000000 in
set_option maxRecDepth 20000 in
theorem lcase_1 {X : Cx} {l : Launch} {G : Gx} {A : Nat → Nat} {hm ms mp mq mt mpa msh mo mtu b L : Nat} {xs : Nat → Int32} (F : Fx X (YL l G)) (S : SX X b L xs) (hL : L ≤ 3072) {i : Int} (hi : 0 ≤ i ∧ i + 6 ≤ (L : Int)) {a R sn t sv past sq pa sh ot tu : Int → Int} {o s bb n : Int} {κ : Scr} (h : LI a o s R bb sn t n sv past sq) (kk : KN X l G A hm ms mp mq mt mpa msh mo mtu b i) : V X (YL l G) 36 202478 215 [some (.ref b), some (.ref (A 0)), some (.ref hm), some (.int (zI i))] [] (WX A G a o s R bb sn t n κ ++ WM hm ms mp mq mt mpa msh mo mtu G sv past s sq bb t n pa sh ot tu) := by
  refine V.aload_n (q := 216) F dL_law_215 rfl rfl rfl ?_
  refine V.aload_n (q := 217) F dL_law_216 rfl rfl rfl ?_
  refine V.iload_n (q := 218) F dL_law_217 rfl rfl rfl ?_
  refine V.iconst (q := 219) F dL_law_218 rfl ?_
  refine V.iadd (q := 220) F dL_law_219 rfl ?_
  refine V.sld (q := 221) F S dL_law_220 rfl hL (by omega) ?_
  refine V.aload_n (q := 222) F dL_law_221 rfl rfl rfl ?_
  refine V.iload_n (q := 223) F dL_law_222 rfl rfl rfl ?_
  refine V.iconst (q := 224) F dL_law_223 rfl ?_
  refine V.iadd (q := 225) F dL_law_224 rfl ?_
  refine V.sld (q := 226) F S dL_law_225 rfl hL (by omega) ?_
  refine V.aload_n (q := 227) F dL_law_226 rfl rfl rfl ?_
  refine V.iload_n (q := 228) F dL_law_227 rfl rfl rfl ?_
  refine V.iconst (q := 229) F dL_law_228 rfl ?_
  refine V.iadd (q := 230) F dL_law_229 rfl ?_
  refine V.sld (q := 231) F S dL_law_230 rfl hL (by omega) ?_
  refine V.callX (q := 234) F 27 rfl nd27 dL_law_231 rfl (c_X6_calm l G A a κ.1.1 R sn t κ.1.2.1 κ.1.2.2.1 κ.1.2.2.2.1 κ.1.2.2.2.2 κ.2.1.1 κ.2.1.2.1 κ.2.1.2.2 κ.2.2.1.1 κ.2.2.1.2.1 κ.2.2.1.2.2 κ.2.2.2.1.1 κ.2.2.2.1.2.1 κ.2.2.2.1.2.2 o s bb n κ.2.2.2.2.1 κ.2.2.2.2.2.1 κ.2.2.2.2.2.2.1 κ.2.2.2.2.2.2.2.1 κ.2.2.2.2.2.2.2.2.1 κ.2.2.2.2.2.2.2.2.2.1 κ.2.2.2.2.2.2.2.2.2.2.1 κ.2.2.2.2.2.2.2.2.2.2.2 (scz xs (i + 1)) (scz xs (i + 2)) (scz xs (i + 3)) h.1 h.2.2.1 h.2.2.2.1 h.2.2.2.2.1 h.2.2.2.2.2.2.2.1 h.2.2.2.2.2.2.2.2.1 (scz_rng xs _) (scz_rng xs _) (scz_rng xs _)) gL_law_X6_calm rfl rfl ydX6_calm ⟨Nat.le_of_ble_eq_true rfl, Nat.le_of_ble_eq_true rfl⟩ (ci := 6) rfl rfl rfl rfl (Nat.le_of_ble_eq_true rfl) ⟨Nat.le_of_ble_eq_true rfl, Nat.le_of_ble_eq_true rfl⟩ (fun r9 w9 h9 => ?_)
  obtain ⟨κ, rfl, hneg, hpos⟩ := h9
  rcases Int.lt_or_le (rCalm a (scz xs (i + 1)) (scz xs (i + 2)) (scz xs (i + 3))) 0 with hs | hs
  · have e9 := hneg hs
    subst e9
    refine V.eq (pc' := 234) (st' := [_]) (ws' := WX A G a o s R bb sn t n κ ++ WM hm ms mp mq mt mpa msh mo mtu G sv past s sq bb t n pa sh ot tu) rfl rfl rfl rfl ?_
    refine V.aload_n (q := 235) F dL_law_234 rfl rfl rfl ?_
    refine V.aload_n (q := 236) F dL_law_235 rfl rfl rfl ?_
    refine V.iload_n (q := 237) F dL_law_236 rfl rfl rfl ?_
    refine V.iconst (q := 238) F dL_law_237 rfl ?_
    refine V.iadd (q := 239) F dL_law_238 rfl ?_
    refine V.sld (q := 240) F S dL_law_239 rfl hL (by omega) ?_
    refine V.aload_n (q := 241) F dL_law_240 rfl rfl rfl ?_
    refine V.iload_n (q := 242) F dL_law_241 rfl rfl rfl ?_
    refine V.iconst (q := 243) F dL_law_242 rfl ?_
    refine V.iadd (q := 244) F dL_law_243 rfl ?_
    refine V.sld (q := 245) F S dL_law_244 rfl hL (by omega) ?_
    refine V.aload_n (q := 246) F dL_law_245 rfl rfl rfl ?_
    refine V.iload_n (q := 247) F dL_law_246 rfl rfl rfl ?_
    refine V.iconst (q := 248) F dL_law_247 rfl ?_
    refine V.iadd (q := 249) F dL_law_248 rfl ?_
    refine V.sld (q := 250) F S dL_law_249 rfl hL (by omega) ?_
    refine V.callM (q := 253) F 27 9 rfl rfl nd9 dL_law_250 rfl (c_X7_calm l G hm ms mp mq mt mpa msh mo mtu a sv past sq t pa sh ot tu s bb n (scz xs (i + 1)) (scz xs (i + 2)) (scz xs (i + 3)) h.2.1 h.1 h.2.2.2.1 h.2.2.2.2.1 h.2.2.2.2.2.2.2.1 h.2.2.2.2.2.2.2.2.1 (scz_rng xs _) (scz_rng xs _) (scz_rng xs _)) gL_law_X7_calm rfl rfl ydX7_calm ⟨Nat.le_of_ble_eq_true rfl, Nat.le_of_ble_eq_true rfl⟩ (ci := 7) rfl rfl rfl rfl (Nat.le_of_ble_eq_true rfl) ⟨Nat.le_of_ble_eq_true rfl, Nat.le_of_ble_eq_true rfl⟩ (fun r9 w9 h9 => ?_)
    obtain ⟨sv', pa, sh, ot, tu, rfl, hneg2, hpos2⟩ := h9
    have e9 := hneg2 hs
    subst e9
    refine V.eq (pc' := 253) (st' := [_, _]) (ws' := WX A G a o s R bb sn t n κ ++ WM hm ms mp mq mt mpa msh mo mtu G sv past s sq bb t n pa sh ot tu) rfl rfl rfl rfl ?_
    refine V.isame (tgt := 1072) F dL_law_253 (by decide) ?_
    exact kk _ _ _ _ _ _ _ _ _ _ _ _ _ _ _ _ h
  · have e9 := hpos hs
    subst e9
    refine V.eq (pc' := 234) (st' := [_]) (ws' := WX A G (upz a (25360 + ((scz xs (i + 1)) * 4 + (scz xs (i + 2)))) (a (25360 + ((scz xs (i + 1)) * 4 + (scz xs (i + 2)))) + (scz xs (i + 3)))) (oN o s) (sN s) (RN a o s R) bb sn t n κ ++ WM hm ms mp mq mt mpa msh mo mtu G sv past s sq bb t n pa sh ot tu) rfl rfl rfl rfl ?_
    refine V.aload_n (q := 235) F dL_law_234 rfl rfl rfl ?_
    refine V.aload_n (q := 236) F dL_law_235 rfl rfl rfl ?_
    refine V.iload_n (q := 237) F dL_law_236 rfl rfl rfl ?_
    refine V.iconst (q := 238) F dL_law_237 rfl ?_
    refine V.iadd (q := 239) F dL_law_238 rfl ?_
    refine V.sld (q := 240) F S dL_law_239 rfl hL (by omega) ?_
    refine V.aload_n (q := 241) F dL_law_240 rfl rfl rfl ?_
    refine V.iload_n (q := 242) F dL_law_241 rfl rfl rfl ?_
    refine V.iconst (q := 243) F dL_law_242 rfl ?_
    refine V.iadd (q := 244) F dL_law_243 rfl ?_
    refine V.sld (q := 245) F S dL_law_244 rfl hL (by omega) ?_
    refine V.aload_n (q := 246) F dL_law_245 rfl rfl rfl ?_
    refine V.iload_n (q := 247) F dL_law_246 rfl rfl rfl ?_
    refine V.iconst (q := 248) F dL_law_247 rfl ?_
    refine V.iadd (q := 249) F dL_law_248 rfl ?_
    refine V.sld (q := 250) F S dL_law_249 rfl hL (by omega) ?_
    refine V.callM (q := 253) F 27 9 rfl rfl nd9 dL_law_250 rfl (c_X7_calm l G hm ms mp mq mt mpa msh mo mtu a sv past sq t pa sh ot tu s bb n (scz xs (i + 1)) (scz xs (i + 2)) (scz xs (i + 3)) h.2.1 h.1 h.2.2.2.1 h.2.2.2.2.1 h.2.2.2.2.2.2.2.1 h.2.2.2.2.2.2.2.2.1 (scz_rng xs _) (scz_rng xs _) (scz_rng xs _)) gL_law_X7_calm rfl rfl ydX7_calm ⟨Nat.le_of_ble_eq_true rfl, Nat.le_of_ble_eq_true rfl⟩ (ci := 7) rfl rfl rfl rfl (Nat.le_of_ble_eq_true rfl) ⟨Nat.le_of_ble_eq_true rfl, Nat.le_of_ble_eq_true rfl⟩ (fun r9 w9 h9 => ?_)
    obtain ⟨sv', pa, sh, ot, tu, rfl, hneg2, hpos2⟩ := h9
    obtain ⟨hR9, e9⟩ := hpos2 hs
    subst e9
    refine V.eq (pc' := 253) (st' := [_, _]) (ws' := WX A G (upz a (25360 + ((scz xs (i + 1)) * 4 + (scz xs (i + 2)))) (a (25360 + ((scz xs (i + 1)) * 4 + (scz xs (i + 2)))) + (scz xs (i + 3)))) (oN o s) (sN s) (RN a o s R) bb sn t n κ ++ WM hm ms mp mq mt mpa msh mo mtu G sv' (PN sv s past) (sN s) sq bb t n pa sh ot tu) rfl rfl rfl rfl ?_
    refine V.isame (tgt := 1072) F dL_law_253 (by decide) ?_
    exact kk _ _ _ _ _ _ _ _ _ _ _ _ _ _ _ _ (h.rem (inv_calm h.1 hs) hR9)
set_option maxHeartbeats 4000000 in
set_option maxRecDepth 20000 in
theorem lcase_2 {X : Cx} {l : Launch} {G : Gx} {A : Nat → Nat} {hm ms mp mq mt mpa msh mo mtu b L : Nat} {xs : Nat → Int32} (F : Fx X (YL l G)) (S : SX X b L xs) (hL : L ≤ 3072) {i : Int} (hi : 0 ≤ i ∧ i + 6 ≤ (L : Int)) {a R sn t sv past sq pa sh ot tu : Int → Int} {o s bb n : Int} {κ : Scr} (h : LI a o s R bb sn t n sv past sq) (kk : KN X l G A hm ms mp mq mt mpa msh mo mtu b i) : V X (YL l G) 36 202478 258 [some (.ref b), some (.ref (A 0)), some (.ref hm), some (.int (zI i))] [] (WX A G a o s R bb sn t n κ ++ WM hm ms mp mq mt mpa msh mo mtu G sv past s sq bb t n pa sh ot tu) := by
  refine V.aload_n (q := 259) F dL_law_258 rfl rfl rfl ?_
  refine V.aload_n (q := 260) F dL_law_259 rfl rfl rfl ?_
  refine V.iload_n (q := 261) F dL_law_260 rfl rfl rfl ?_
  refine V.iconst (q := 262) F dL_law_261 rfl ?_
  refine V.iadd (q := 263) F dL_law_262 rfl ?_
  refine V.sld (q := 264) F S dL_law_263 rfl hL (by omega) ?_
  refine V.aload_n (q := 265) F dL_law_264 rfl rfl rfl ?_
  refine V.iload_n (q := 266) F dL_law_265 rfl rfl rfl ?_
  refine V.iconst (q := 267) F dL_law_266 rfl ?_
  refine V.iadd (q := 268) F dL_law_267 rfl ?_
  refine V.sld (q := 269) F S dL_law_268 rfl hL (by omega) ?_
  refine V.aload_n (q := 270) F dL_law_269 rfl rfl rfl ?_
  refine V.iload_n (q := 271) F dL_law_270 rfl rfl rfl ?_
  refine V.iconst (q := 272) F dL_law_271 rfl ?_
  refine V.iadd (q := 273) F dL_law_272 rfl ?_
  refine V.sld (q := 274) F S dL_law_273 rfl hL (by omega) ?_
  refine V.aload_n (q := 275) F dL_law_274 rfl rfl rfl ?_
  refine V.iload_n (q := 276) F dL_law_275 rfl rfl rfl ?_
  refine V.iconst (q := 277) F dL_law_276 rfl ?_
  refine V.iadd (q := 278) F dL_law_277 rfl ?_
  refine V.sld (q := 279) F S dL_law_278 rfl hL (by omega) ?_
  refine V.callX (q := 282) F 27 rfl nd27 dL_law_279 rfl (c_X6_strike l G A a κ.1.1 R sn t κ.1.2.1 κ.1.2.2.1 κ.1.2.2.2.1 κ.1.2.2.2.2 κ.2.1.1 κ.2.1.2.1 κ.2.1.2.2 κ.2.2.1.1 κ.2.2.1.2.1 κ.2.2.1.2.2 κ.2.2.2.1.1 κ.2.2.2.1.2.1 κ.2.2.2.1.2.2 o s bb n κ.2.2.2.2.1 κ.2.2.2.2.2.1 κ.2.2.2.2.2.2.1 κ.2.2.2.2.2.2.2.1 κ.2.2.2.2.2.2.2.2.1 κ.2.2.2.2.2.2.2.2.2.1 κ.2.2.2.2.2.2.2.2.2.2.1 κ.2.2.2.2.2.2.2.2.2.2.2 (scz xs (i + 1)) (scz xs (i + 2)) (scz xs (i + 3)) (scz xs (i + 4)) h.1 h.2.2.1 h.2.2.2.1 h.2.2.2.2.1 h.2.2.2.2.2.2.2.1 h.2.2.2.2.2.2.2.2.1 (scz_rng xs _) (scz_rng xs _) (scz_rng xs _) (scz_rng xs _)) gL_law_X6_strike rfl rfl ydX6_strike ⟨Nat.le_of_ble_eq_true rfl, Nat.le_of_ble_eq_true rfl⟩ (ci := 6) rfl rfl rfl rfl (Nat.le_of_ble_eq_true rfl) ⟨Nat.le_of_ble_eq_true rfl, Nat.le_of_ble_eq_true rfl⟩ (fun r9 w9 h9 => ?_)
  obtain ⟨κ, rfl, hneg, hpos⟩ := h9
  rcases Int.lt_or_le (rStrike a (scz xs (i + 1)) (scz xs (i + 2)) (scz xs (i + 3)) (scz xs (i + 4))) 0 with hs | hs
  · have e9 := hneg hs
    subst e9
    refine V.eq (pc' := 282) (st' := [_]) (ws' := WX A G a o s R bb sn t n κ ++ WM hm ms mp mq mt mpa msh mo mtu G sv past s sq bb t n pa sh ot tu) rfl rfl rfl rfl ?_
    refine V.aload_n (q := 283) F dL_law_282 rfl rfl rfl ?_
    refine V.aload_n (q := 284) F dL_law_283 rfl rfl rfl ?_
    refine V.iload_n (q := 285) F dL_law_284 rfl rfl rfl ?_
    refine V.iconst (q := 286) F dL_law_285 rfl ?_
    refine V.iadd (q := 287) F dL_law_286 rfl ?_
    refine V.sld (q := 288) F S dL_law_287 rfl hL (by omega) ?_
    refine V.aload_n (q := 289) F dL_law_288 rfl rfl rfl ?_
    refine V.iload_n (q := 290) F dL_law_289 rfl rfl rfl ?_
    refine V.iconst (q := 291) F dL_law_290 rfl ?_
    refine V.iadd (q := 292) F dL_law_291 rfl ?_
    refine V.sld (q := 293) F S dL_law_292 rfl hL (by omega) ?_
    refine V.aload_n (q := 294) F dL_law_293 rfl rfl rfl ?_
    refine V.iload_n (q := 295) F dL_law_294 rfl rfl rfl ?_
    refine V.iconst (q := 296) F dL_law_295 rfl ?_
    refine V.iadd (q := 297) F dL_law_296 rfl ?_
    refine V.sld (q := 298) F S dL_law_297 rfl hL (by omega) ?_
    refine V.aload_n (q := 299) F dL_law_298 rfl rfl rfl ?_
    refine V.iload_n (q := 300) F dL_law_299 rfl rfl rfl ?_
    refine V.iconst (q := 301) F dL_law_300 rfl ?_
    refine V.iadd (q := 302) F dL_law_301 rfl ?_
    refine V.sld (q := 303) F S dL_law_302 rfl hL (by omega) ?_
    refine V.callM (q := 306) F 27 9 rfl rfl nd9 dL_law_303 rfl (c_X7_strike l G hm ms mp mq mt mpa msh mo mtu a sv past sq t pa sh ot tu s bb n (scz xs (i + 1)) (scz xs (i + 2)) (scz xs (i + 3)) (scz xs (i + 4)) h.2.1 h.1 h.2.2.2.1 h.2.2.2.2.1 h.2.2.2.2.2.2.2.1 h.2.2.2.2.2.2.2.2.1 (scz_rng xs _) (scz_rng xs _) (scz_rng xs _) (scz_rng xs _)) gL_law_X7_strike rfl rfl ydX7_strike ⟨Nat.le_of_ble_eq_true rfl, Nat.le_of_ble_eq_true rfl⟩ (ci := 7) rfl rfl rfl rfl (Nat.le_of_ble_eq_true rfl) ⟨Nat.le_of_ble_eq_true rfl, Nat.le_of_ble_eq_true rfl⟩ (fun r9 w9 h9 => ?_)
    obtain ⟨sv', pa, sh, ot, tu, rfl, hneg2, hpos2⟩ := h9
    have e9 := hneg2 hs
    subst e9
    refine V.eq (pc' := 306) (st' := [_, _]) (ws' := WX A G a o s R bb sn t n κ ++ WM hm ms mp mq mt mpa msh mo mtu G sv past s sq bb t n pa sh ot tu) rfl rfl rfl rfl ?_
    refine V.isame (tgt := 1072) F dL_law_306 (by decide) ?_
    exact kk _ _ _ _ _ _ _ _ _ _ _ _ _ _ _ _ h
  · have e9 := hpos hs
    subst e9
    refine V.eq (pc' := 282) (st' := [_]) (ws' := WX A G (addW a ((scz xs (i + 1)) * 4 + (scz xs (i + 2))) (scz xs (i + 3)) (scz xs (i + 4)) (-(a (((scz xs (i + 1)) * 4 + (scz xs (i + 2))) * 1584 + (scz xs (i + 3)) * 99 + (scz xs (i + 4)) - 1)))) (oN o s) (sN s) (RN a o s R) bb sn t n κ ++ WM hm ms mp mq mt mpa msh mo mtu G sv past s sq bb t n pa sh ot tu) rfl rfl rfl rfl ?_
    refine V.aload_n (q := 283) F dL_law_282 rfl rfl rfl ?_
    refine V.aload_n (q := 284) F dL_law_283 rfl rfl rfl ?_
    refine V.iload_n (q := 285) F dL_law_284 rfl rfl rfl ?_
    refine V.iconst (q := 286) F dL_law_285 rfl ?_
    refine V.iadd (q := 287) F dL_law_286 rfl ?_
    refine V.sld (q := 288) F S dL_law_287 rfl hL (by omega) ?_
    refine V.aload_n (q := 289) F dL_law_288 rfl rfl rfl ?_
    refine V.iload_n (q := 290) F dL_law_289 rfl rfl rfl ?_
    refine V.iconst (q := 291) F dL_law_290 rfl ?_
    refine V.iadd (q := 292) F dL_law_291 rfl ?_
    refine V.sld (q := 293) F S dL_law_292 rfl hL (by omega) ?_
    refine V.aload_n (q := 294) F dL_law_293 rfl rfl rfl ?_
    refine V.iload_n (q := 295) F dL_law_294 rfl rfl rfl ?_
    refine V.iconst (q := 296) F dL_law_295 rfl ?_
    refine V.iadd (q := 297) F dL_law_296 rfl ?_
    refine V.sld (q := 298) F S dL_law_297 rfl hL (by omega) ?_
    refine V.aload_n (q := 299) F dL_law_298 rfl rfl rfl ?_
    refine V.iload_n (q := 300) F dL_law_299 rfl rfl rfl ?_
    refine V.iconst (q := 301) F dL_law_300 rfl ?_
    refine V.iadd (q := 302) F dL_law_301 rfl ?_
    refine V.sld (q := 303) F S dL_law_302 rfl hL (by omega) ?_
    refine V.callM (q := 306) F 27 9 rfl rfl nd9 dL_law_303 rfl (c_X7_strike l G hm ms mp mq mt mpa msh mo mtu a sv past sq t pa sh ot tu s bb n (scz xs (i + 1)) (scz xs (i + 2)) (scz xs (i + 3)) (scz xs (i + 4)) h.2.1 h.1 h.2.2.2.1 h.2.2.2.2.1 h.2.2.2.2.2.2.2.1 h.2.2.2.2.2.2.2.2.1 (scz_rng xs _) (scz_rng xs _) (scz_rng xs _) (scz_rng xs _)) gL_law_X7_strike rfl rfl ydX7_strike ⟨Nat.le_of_ble_eq_true rfl, Nat.le_of_ble_eq_true rfl⟩ (ci := 7) rfl rfl rfl rfl (Nat.le_of_ble_eq_true rfl) ⟨Nat.le_of_ble_eq_true rfl, Nat.le_of_ble_eq_true rfl⟩ (fun r9 w9 h9 => ?_)
    obtain ⟨sv', pa, sh, ot, tu, rfl, hneg2, hpos2⟩ := h9
    obtain ⟨hR9, e9⟩ := hpos2 hs
    subst e9
    refine V.eq (pc' := 306) (st' := [_, _]) (ws' := WX A G (addW a ((scz xs (i + 1)) * 4 + (scz xs (i + 2))) (scz xs (i + 3)) (scz xs (i + 4)) (-(a (((scz xs (i + 1)) * 4 + (scz xs (i + 2))) * 1584 + (scz xs (i + 3)) * 99 + (scz xs (i + 4)) - 1)))) (oN o s) (sN s) (RN a o s R) bb sn t n κ ++ WM hm ms mp mq mt mpa msh mo mtu G sv' (PN sv s past) (sN s) sq bb t n pa sh ot tu) rfl rfl rfl rfl ?_
    refine V.isame (tgt := 1072) F dL_law_306 (by decide) ?_
    exact kk _ _ _ _ _ _ _ _ _ _ _ _ _ _ _ _ (h.rem (inv_strike h.1 hs) hR9)
set_option maxHeartbeats 4000000 in
set_option maxRecDepth 20000 in
theorem lcase_3 {X : Cx} {l : Launch} {G : Gx} {A : Nat → Nat} {hm ms mp mq mt mpa msh mo mtu b L : Nat} {xs : Nat → Int32} (F : Fx X (YL l G)) (S : SX X b L xs) (hL : L ≤ 3072) {i : Int} (hi : 0 ≤ i ∧ i + 6 ≤ (L : Int)) {a R sn t sv past sq pa sh ot tu : Int → Int} {o s bb n : Int} {κ : Scr} (h : LI a o s R bb sn t n sv past sq) (kk : KN X l G A hm ms mp mq mt mpa msh mo mtu b i) : V X (YL l G) 36 202478 311 [some (.ref b), some (.ref (A 0)), some (.ref hm), some (.int (zI i))] [] (WX A G a o s R bb sn t n κ ++ WM hm ms mp mq mt mpa msh mo mtu G sv past s sq bb t n pa sh ot tu) := by
  refine V.aload_n (q := 312) F dL_law_311 rfl rfl rfl ?_
  refine V.aload_n (q := 313) F dL_law_312 rfl rfl rfl ?_
  refine V.iload_n (q := 314) F dL_law_313 rfl rfl rfl ?_
  refine V.iconst (q := 315) F dL_law_314 rfl ?_
  refine V.iadd (q := 316) F dL_law_315 rfl ?_
  refine V.sld (q := 317) F S dL_law_316 rfl hL (by omega) ?_
  refine V.aload_n (q := 318) F dL_law_317 rfl rfl rfl ?_
  refine V.iload_n (q := 319) F dL_law_318 rfl rfl rfl ?_
  refine V.iconst (q := 320) F dL_law_319 rfl ?_
  refine V.iadd (q := 321) F dL_law_320 rfl ?_
  refine V.sld (q := 322) F S dL_law_321 rfl hL (by omega) ?_
  refine V.aload_n (q := 323) F dL_law_322 rfl rfl rfl ?_
  refine V.iload_n (q := 324) F dL_law_323 rfl rfl rfl ?_
  refine V.iconst (q := 325) F dL_law_324 rfl ?_
  refine V.iadd (q := 326) F dL_law_325 rfl ?_
  refine V.sld (q := 327) F S dL_law_326 rfl hL (by omega) ?_
  refine V.callX (q := 330) F 27 rfl nd27 dL_law_327 rfl (c_X6_turn l G A a κ.1.1 R sn t κ.1.2.1 κ.1.2.2.1 κ.1.2.2.2.1 κ.1.2.2.2.2 κ.2.1.1 κ.2.1.2.1 κ.2.1.2.2 κ.2.2.1.1 κ.2.2.1.2.1 κ.2.2.1.2.2 κ.2.2.2.1.1 κ.2.2.2.1.2.1 κ.2.2.2.1.2.2 o s bb n κ.2.2.2.2.1 κ.2.2.2.2.2.1 κ.2.2.2.2.2.2.1 κ.2.2.2.2.2.2.2.1 κ.2.2.2.2.2.2.2.2.1 κ.2.2.2.2.2.2.2.2.2.1 κ.2.2.2.2.2.2.2.2.2.2.1 κ.2.2.2.2.2.2.2.2.2.2.2 (scz xs (i + 1)) (scz xs (i + 2)) (scz xs (i + 3)) h.1 h.2.2.1 h.2.2.2.1 h.2.2.2.2.1 h.2.2.2.2.2.2.2.1 h.2.2.2.2.2.2.2.2.1 (scz_rng xs _) (scz_rng xs _) (scz_rng xs _)) gL_law_X6_turn rfl rfl ydX6_turn ⟨Nat.le_of_ble_eq_true rfl, Nat.le_of_ble_eq_true rfl⟩ (ci := 6) rfl rfl rfl rfl (Nat.le_of_ble_eq_true rfl) ⟨Nat.le_of_ble_eq_true rfl, Nat.le_of_ble_eq_true rfl⟩ (fun r9 w9 h9 => ?_)
  obtain ⟨κ, rfl, hneg, hpos⟩ := h9
  rcases Int.lt_or_le (rTurn a (scz xs (i + 1)) (scz xs (i + 2)) (scz xs (i + 3))) 0 with hs | hs
  · have e9 := hneg hs
    subst e9
    refine V.eq (pc' := 330) (st' := [_]) (ws' := WX A G a o s R bb sn t n κ ++ WM hm ms mp mq mt mpa msh mo mtu G sv past s sq bb t n pa sh ot tu) rfl rfl rfl rfl ?_
    refine V.aload_n (q := 331) F dL_law_330 rfl rfl rfl ?_
    refine V.aload_n (q := 332) F dL_law_331 rfl rfl rfl ?_
    refine V.iload_n (q := 333) F dL_law_332 rfl rfl rfl ?_
    refine V.iconst (q := 334) F dL_law_333 rfl ?_
    refine V.iadd (q := 335) F dL_law_334 rfl ?_
    refine V.sld (q := 336) F S dL_law_335 rfl hL (by omega) ?_
    refine V.aload_n (q := 337) F dL_law_336 rfl rfl rfl ?_
    refine V.iload_n (q := 338) F dL_law_337 rfl rfl rfl ?_
    refine V.iconst (q := 339) F dL_law_338 rfl ?_
    refine V.iadd (q := 340) F dL_law_339 rfl ?_
    refine V.sld (q := 341) F S dL_law_340 rfl hL (by omega) ?_
    refine V.aload_n (q := 342) F dL_law_341 rfl rfl rfl ?_
    refine V.iload_n (q := 343) F dL_law_342 rfl rfl rfl ?_
    refine V.iconst (q := 344) F dL_law_343 rfl ?_
    refine V.iadd (q := 345) F dL_law_344 rfl ?_
    refine V.sld (q := 346) F S dL_law_345 rfl hL (by omega) ?_
    refine V.callM (q := 349) F 27 9 rfl rfl nd9 dL_law_346 rfl (c_X7_turn l G hm ms mp mq mt mpa msh mo mtu a sv past sq t pa sh ot tu s bb n (scz xs (i + 1)) (scz xs (i + 2)) (scz xs (i + 3)) h.2.1 h.1 h.2.2.2.1 h.2.2.2.2.1 h.2.2.2.2.2.2.2.1 h.2.2.2.2.2.2.2.2.1 (scz_rng xs _) (scz_rng xs _) (scz_rng xs _)) gL_law_X7_turn rfl rfl ydX7_turn ⟨Nat.le_of_ble_eq_true rfl, Nat.le_of_ble_eq_true rfl⟩ (ci := 7) rfl rfl rfl rfl (Nat.le_of_ble_eq_true rfl) ⟨Nat.le_of_ble_eq_true rfl, Nat.le_of_ble_eq_true rfl⟩ (fun r9 w9 h9 => ?_)
    obtain ⟨sv', pa, sh, ot, tu, rfl, hneg2, hpos2⟩ := h9
    have e9 := hneg2 hs
    subst e9
    refine V.eq (pc' := 349) (st' := [_, _]) (ws' := WX A G a o s R bb sn t n κ ++ WM hm ms mp mq mt mpa msh mo mtu G sv past s sq bb t n pa sh ot tu) rfl rfl rfl rfl ?_
    refine V.isame (tgt := 1072) F dL_law_349 (by decide) ?_
    exact kk _ _ _ _ _ _ _ _ _ _ _ _ _ _ _ _ h
  · have e9 := hpos hs
    subst e9
    refine V.eq (pc' := 330) (st' := [_]) (ws' := WX A G (turnI a ((scz xs (i + 1)) * 4 + (scz xs (i + 2))) (scz xs (i + 3)) 16) (oN o s) (sN s) (RN a o s R) bb sn t n κ ++ WM hm ms mp mq mt mpa msh mo mtu G sv past s sq bb t n pa sh ot tu) rfl rfl rfl rfl ?_
    refine V.aload_n (q := 331) F dL_law_330 rfl rfl rfl ?_
    refine V.aload_n (q := 332) F dL_law_331 rfl rfl rfl ?_
    refine V.iload_n (q := 333) F dL_law_332 rfl rfl rfl ?_
    refine V.iconst (q := 334) F dL_law_333 rfl ?_
    refine V.iadd (q := 335) F dL_law_334 rfl ?_
    refine V.sld (q := 336) F S dL_law_335 rfl hL (by omega) ?_
    refine V.aload_n (q := 337) F dL_law_336 rfl rfl rfl ?_
    refine V.iload_n (q := 338) F dL_law_337 rfl rfl rfl ?_
    refine V.iconst (q := 339) F dL_law_338 rfl ?_
    refine V.iadd (q := 340) F dL_law_339 rfl ?_
    refine V.sld (q := 341) F S dL_law_340 rfl hL (by omega) ?_
    refine V.aload_n (q := 342) F dL_law_341 rfl rfl rfl ?_
    refine V.iload_n (q := 343) F dL_law_342 rfl rfl rfl ?_
    refine V.iconst (q := 344) F dL_law_343 rfl ?_
    refine V.iadd (q := 345) F dL_law_344 rfl ?_
    refine V.sld (q := 346) F S dL_law_345 rfl hL (by omega) ?_
    refine V.callM (q := 349) F 27 9 rfl rfl nd9 dL_law_346 rfl (c_X7_turn l G hm ms mp mq mt mpa msh mo mtu a sv past sq t pa sh ot tu s bb n (scz xs (i + 1)) (scz xs (i + 2)) (scz xs (i + 3)) h.2.1 h.1 h.2.2.2.1 h.2.2.2.2.1 h.2.2.2.2.2.2.2.1 h.2.2.2.2.2.2.2.2.1 (scz_rng xs _) (scz_rng xs _) (scz_rng xs _)) gL_law_X7_turn rfl rfl ydX7_turn ⟨Nat.le_of_ble_eq_true rfl, Nat.le_of_ble_eq_true rfl⟩ (ci := 7) rfl rfl rfl rfl (Nat.le_of_ble_eq_true rfl) ⟨Nat.le_of_ble_eq_true rfl, Nat.le_of_ble_eq_true rfl⟩ (fun r9 w9 h9 => ?_)
    obtain ⟨sv', pa, sh, ot, tu, rfl, hneg2, hpos2⟩ := h9
    obtain ⟨hR9, e9⟩ := hpos2 hs
    subst e9
    refine V.eq (pc' := 349) (st' := [_, _]) (ws' := WX A G (turnI a ((scz xs (i + 1)) * 4 + (scz xs (i + 2))) (scz xs (i + 3)) 16) (oN o s) (sN s) (RN a o s R) bb sn t n κ ++ WM hm ms mp mq mt mpa msh mo mtu G sv' (PN sv s past) (sN s) sq bb t n pa sh ot tu) rfl rfl rfl rfl ?_
    refine V.isame (tgt := 1072) F dL_law_349 (by decide) ?_
    exact kk _ _ _ _ _ _ _ _ _ _ _ _ _ _ _ _ (h.rem (inv_turn h.1 hs) hR9)
set_option maxHeartbeats 4000000 in
set_option maxRecDepth 20000 in
theorem lcase_4 {X : Cx} {l : Launch} {G : Gx} {A : Nat → Nat} {hm ms mp mq mt mpa msh mo mtu b L : Nat} {xs : Nat → Int32} (F : Fx X (YL l G)) (S : SX X b L xs) (hL : L ≤ 3072) {i : Int} (hi : 0 ≤ i ∧ i + 6 ≤ (L : Int)) {a R sn t sv past sq pa sh ot tu : Int → Int} {o s bb n : Int} {κ : Scr} (h : LI a o s R bb sn t n sv past sq) (kk : KN X l G A hm ms mp mq mt mpa msh mo mtu b i) : V X (YL l G) 36 202478 354 [some (.ref b), some (.ref (A 0)), some (.ref hm), some (.int (zI i))] [] (WX A G a o s R bb sn t n κ ++ WM hm ms mp mq mt mpa msh mo mtu G sv past s sq bb t n pa sh ot tu) := by
  refine V.aload_n (q := 355) F dL_law_354 rfl rfl rfl ?_
  refine V.aload_n (q := 356) F dL_law_355 rfl rfl rfl ?_
  refine V.iload_n (q := 357) F dL_law_356 rfl rfl rfl ?_
  refine V.iconst (q := 358) F dL_law_357 rfl ?_
  refine V.iadd (q := 359) F dL_law_358 rfl ?_
  refine V.sld (q := 360) F S dL_law_359 rfl hL (by omega) ?_
  refine V.aload_n (q := 361) F dL_law_360 rfl rfl rfl ?_
  refine V.iload_n (q := 362) F dL_law_361 rfl rfl rfl ?_
  refine V.iconst (q := 363) F dL_law_362 rfl ?_
  refine V.iadd (q := 364) F dL_law_363 rfl ?_
  refine V.sld (q := 365) F S dL_law_364 rfl hL (by omega) ?_
  refine V.callX (q := 368) F 27 rfl nd27 dL_law_365 rfl (c_X6_set l G A a κ.1.1 R sn t κ.1.2.1 κ.1.2.2.1 κ.1.2.2.2.1 κ.1.2.2.2.2 κ.2.1.1 κ.2.1.2.1 κ.2.1.2.2 κ.2.2.1.1 κ.2.2.1.2.1 κ.2.2.1.2.2 κ.2.2.2.1.1 κ.2.2.2.1.2.1 κ.2.2.2.1.2.2 o s bb n κ.2.2.2.2.1 κ.2.2.2.2.2.1 κ.2.2.2.2.2.2.1 κ.2.2.2.2.2.2.2.1 κ.2.2.2.2.2.2.2.2.1 κ.2.2.2.2.2.2.2.2.2.1 κ.2.2.2.2.2.2.2.2.2.2.1 κ.2.2.2.2.2.2.2.2.2.2.2 (scz xs (i + 1)) (scz xs (i + 2)) h.1 h.2.2.1 h.2.2.2.1 h.2.2.2.2.1 h.2.2.2.2.2.2.2.1 h.2.2.2.2.2.2.2.2.1 (scz_rng xs _) (scz_rng xs _)) gL_law_X6_set rfl rfl ydX6_set ⟨Nat.le_of_ble_eq_true rfl, Nat.le_of_ble_eq_true rfl⟩ (ci := 6) rfl rfl rfl rfl (Nat.le_of_ble_eq_true rfl) ⟨Nat.le_of_ble_eq_true rfl, Nat.le_of_ble_eq_true rfl⟩ (fun r9 w9 h9 => ?_)
  obtain ⟨κ, rfl, hneg, hpos⟩ := h9
  rcases Int.lt_or_le (rSet a (scz xs (i + 1)) (scz xs (i + 2))) 0 with hs | hs
  · have e9 := hneg hs
    subst e9
    refine V.eq (pc' := 368) (st' := [_]) (ws' := WX A G a o s R bb sn t n κ ++ WM hm ms mp mq mt mpa msh mo mtu G sv past s sq bb t n pa sh ot tu) rfl rfl rfl rfl ?_
    refine V.aload_n (q := 369) F dL_law_368 rfl rfl rfl ?_
    refine V.aload_n (q := 370) F dL_law_369 rfl rfl rfl ?_
    refine V.iload_n (q := 371) F dL_law_370 rfl rfl rfl ?_
    refine V.iconst (q := 372) F dL_law_371 rfl ?_
    refine V.iadd (q := 373) F dL_law_372 rfl ?_
    refine V.sld (q := 374) F S dL_law_373 rfl hL (by omega) ?_
    refine V.aload_n (q := 375) F dL_law_374 rfl rfl rfl ?_
    refine V.iload_n (q := 376) F dL_law_375 rfl rfl rfl ?_
    refine V.iconst (q := 377) F dL_law_376 rfl ?_
    refine V.iadd (q := 378) F dL_law_377 rfl ?_
    refine V.sld (q := 379) F S dL_law_378 rfl hL (by omega) ?_
    refine V.callM (q := 382) F 27 9 rfl rfl nd9 dL_law_379 rfl (c_X7_set l G hm ms mp mq mt mpa msh mo mtu a sv past sq t pa sh ot tu s bb n (scz xs (i + 1)) (scz xs (i + 2)) h.2.1 h.1 h.2.2.2.1 h.2.2.2.2.1 h.2.2.2.2.2.2.2.1 h.2.2.2.2.2.2.2.2.1 (scz_rng xs _) (scz_rng xs _)) gL_law_X7_set rfl rfl ydX7_set ⟨Nat.le_of_ble_eq_true rfl, Nat.le_of_ble_eq_true rfl⟩ (ci := 7) rfl rfl rfl rfl (Nat.le_of_ble_eq_true rfl) ⟨Nat.le_of_ble_eq_true rfl, Nat.le_of_ble_eq_true rfl⟩ (fun r9 w9 h9 => ?_)
    obtain ⟨sv', pa, sh, ot, tu, rfl, hneg2, hpos2⟩ := h9
    have e9 := hneg2 hs
    subst e9
    refine V.eq (pc' := 382) (st' := [_, _]) (ws' := WX A G a o s R bb sn t n κ ++ WM hm ms mp mq mt mpa msh mo mtu G sv past s sq bb t n pa sh ot tu) rfl rfl rfl rfl ?_
    refine V.isame (tgt := 1072) F dL_law_382 (by decide) ?_
    exact kk _ _ _ _ _ _ _ _ _ _ _ _ _ _ _ _ h
  · have e9 := hpos hs
    subst e9
    refine V.eq (pc' := 368) (st' := [_]) (ws' := WX A G (upz a (26176 + (scz xs (i + 1))) (scz xs (i + 2))) (oN o s) (sN s) (RN a o s R) bb sn t n κ ++ WM hm ms mp mq mt mpa msh mo mtu G sv past s sq bb t n pa sh ot tu) rfl rfl rfl rfl ?_
    refine V.aload_n (q := 369) F dL_law_368 rfl rfl rfl ?_
    refine V.aload_n (q := 370) F dL_law_369 rfl rfl rfl ?_
    refine V.iload_n (q := 371) F dL_law_370 rfl rfl rfl ?_
    refine V.iconst (q := 372) F dL_law_371 rfl ?_
    refine V.iadd (q := 373) F dL_law_372 rfl ?_
    refine V.sld (q := 374) F S dL_law_373 rfl hL (by omega) ?_
    refine V.aload_n (q := 375) F dL_law_374 rfl rfl rfl ?_
    refine V.iload_n (q := 376) F dL_law_375 rfl rfl rfl ?_
    refine V.iconst (q := 377) F dL_law_376 rfl ?_
    refine V.iadd (q := 378) F dL_law_377 rfl ?_
    refine V.sld (q := 379) F S dL_law_378 rfl hL (by omega) ?_
    refine V.callM (q := 382) F 27 9 rfl rfl nd9 dL_law_379 rfl (c_X7_set l G hm ms mp mq mt mpa msh mo mtu a sv past sq t pa sh ot tu s bb n (scz xs (i + 1)) (scz xs (i + 2)) h.2.1 h.1 h.2.2.2.1 h.2.2.2.2.1 h.2.2.2.2.2.2.2.1 h.2.2.2.2.2.2.2.2.1 (scz_rng xs _) (scz_rng xs _)) gL_law_X7_set rfl rfl ydX7_set ⟨Nat.le_of_ble_eq_true rfl, Nat.le_of_ble_eq_true rfl⟩ (ci := 7) rfl rfl rfl rfl (Nat.le_of_ble_eq_true rfl) ⟨Nat.le_of_ble_eq_true rfl, Nat.le_of_ble_eq_true rfl⟩ (fun r9 w9 h9 => ?_)
    obtain ⟨sv', pa, sh, ot, tu, rfl, hneg2, hpos2⟩ := h9
    obtain ⟨hR9, e9⟩ := hpos2 hs
    subst e9
    refine V.eq (pc' := 382) (st' := [_, _]) (ws' := WX A G (upz a (26176 + (scz xs (i + 1))) (scz xs (i + 2))) (oN o s) (sN s) (RN a o s R) bb sn t n κ ++ WM hm ms mp mq mt mpa msh mo mtu G sv' (PN sv s past) (sN s) sq bb t n pa sh ot tu) rfl rfl rfl rfl ?_
    refine V.isame (tgt := 1072) F dL_law_382 (by decide) ?_
    exact kk _ _ _ _ _ _ _ _ _ _ _ _ _ _ _ _ (h.rem (h.1.set hs) hR9)
set_option maxHeartbeats 4000000 in
set_option maxRecDepth 20000 in
theorem lcase_5 {X : Cx} {l : Launch} {G : Gx} {A : Nat → Nat} {hm ms mp mq mt mpa msh mo mtu b L : Nat} {xs : Nat → Int32} (F : Fx X (YL l G)) (S : SX X b L xs) (hL : L ≤ 3072) {i : Int} (hi : 0 ≤ i ∧ i + 6 ≤ (L : Int)) {a R sn t sv past sq pa sh ot tu : Int → Int} {o s bb n : Int} {κ : Scr} (h : LI a o s R bb sn t n sv past sq) (kk : KN X l G A hm ms mp mq mt mpa msh mo mtu b i) : V X (YL l G) 36 202478 387 [some (.ref b), some (.ref (A 0)), some (.ref hm), some (.int (zI i))] [] (WX A G a o s R bb sn t n κ ++ WM hm ms mp mq mt mpa msh mo mtu G sv past s sq bb t n pa sh ot tu) := by
  refine V.aload_n (q := 388) F dL_law_387 rfl rfl rfl ?_
  refine V.aload_n (q := 389) F dL_law_388 rfl rfl rfl ?_
  refine V.iload_n (q := 390) F dL_law_389 rfl rfl rfl ?_
  refine V.iconst (q := 391) F dL_law_390 rfl ?_
  refine V.iadd (q := 392) F dL_law_391 rfl ?_
  refine V.sld (q := 393) F S dL_law_392 rfl hL (by omega) ?_
  refine V.aload_n (q := 394) F dL_law_393 rfl rfl rfl ?_
  refine V.iload_n (q := 395) F dL_law_394 rfl rfl rfl ?_
  refine V.iconst (q := 396) F dL_law_395 rfl ?_
  refine V.iadd (q := 397) F dL_law_396 rfl ?_
  refine V.sld (q := 398) F S dL_law_397 rfl hL (by omega) ?_
  refine V.callX (q := 401) F 27 rfl nd27 dL_law_398 rfl (c_X6_engrave l G A a κ.1.1 R sn t κ.1.2.1 κ.1.2.2.1 κ.1.2.2.2.1 κ.1.2.2.2.2 κ.2.1.1 κ.2.1.2.1 κ.2.1.2.2 κ.2.2.1.1 κ.2.2.1.2.1 κ.2.2.1.2.2 κ.2.2.2.1.1 κ.2.2.2.1.2.1 κ.2.2.2.1.2.2 o s bb n κ.2.2.2.2.1 κ.2.2.2.2.2.1 κ.2.2.2.2.2.2.1 κ.2.2.2.2.2.2.2.1 κ.2.2.2.2.2.2.2.2.1 κ.2.2.2.2.2.2.2.2.2.1 κ.2.2.2.2.2.2.2.2.2.2.1 κ.2.2.2.2.2.2.2.2.2.2.2 (scz xs (i + 1)) (scz xs (i + 2)) h.1 h.2.2.1 h.2.2.2.1 h.2.2.2.2.1 h.2.2.2.2.2.2.2.1 h.2.2.2.2.2.2.2.2.1 (scz_rng xs _) (scz_rng xs _)) gL_law_X6_engrave rfl rfl ydX6_engrave ⟨Nat.le_of_ble_eq_true rfl, Nat.le_of_ble_eq_true rfl⟩ (ci := 6) rfl rfl rfl rfl (Nat.le_of_ble_eq_true rfl) ⟨Nat.le_of_ble_eq_true rfl, Nat.le_of_ble_eq_true rfl⟩ (fun r9 w9 h9 => ?_)
  obtain ⟨κ, rfl, hneg, hpos⟩ := h9
  rcases Int.lt_or_le (rEng a (scz xs (i + 1)) (scz xs (i + 2))) 0 with hs | hs
  · have e9 := hneg hs
    subst e9
    refine V.eq (pc' := 401) (st' := [_]) (ws' := WX A G a o s R bb sn t n κ ++ WM hm ms mp mq mt mpa msh mo mtu G sv past s sq bb t n pa sh ot tu) rfl rfl rfl rfl ?_
    refine V.aload_n (q := 402) F dL_law_401 rfl rfl rfl ?_
    refine V.aload_n (q := 403) F dL_law_402 rfl rfl rfl ?_
    refine V.iload_n (q := 404) F dL_law_403 rfl rfl rfl ?_
    refine V.iconst (q := 405) F dL_law_404 rfl ?_
    refine V.iadd (q := 406) F dL_law_405 rfl ?_
    refine V.sld (q := 407) F S dL_law_406 rfl hL (by omega) ?_
    refine V.aload_n (q := 408) F dL_law_407 rfl rfl rfl ?_
    refine V.iload_n (q := 409) F dL_law_408 rfl rfl rfl ?_
    refine V.iconst (q := 410) F dL_law_409 rfl ?_
    refine V.iadd (q := 411) F dL_law_410 rfl ?_
    refine V.sld (q := 412) F S dL_law_411 rfl hL (by omega) ?_
    refine V.callM (q := 415) F 27 9 rfl rfl nd9 dL_law_412 rfl (c_X7_engrave l G hm ms mp mq mt mpa msh mo mtu a sv past sq t pa sh ot tu s bb n (scz xs (i + 1)) (scz xs (i + 2)) h.2.1 h.1 h.2.2.2.1 h.2.2.2.2.1 h.2.2.2.2.2.2.2.1 h.2.2.2.2.2.2.2.2.1 (scz_rng xs _) (scz_rng xs _)) gL_law_X7_engrave rfl rfl ydX7_engrave ⟨Nat.le_of_ble_eq_true rfl, Nat.le_of_ble_eq_true rfl⟩ (ci := 7) rfl rfl rfl rfl (Nat.le_of_ble_eq_true rfl) ⟨Nat.le_of_ble_eq_true rfl, Nat.le_of_ble_eq_true rfl⟩ (fun r9 w9 h9 => ?_)
    obtain ⟨sv', pa, sh, ot, tu, rfl, hneg2, hpos2⟩ := h9
    have e9 := hneg2 hs
    subst e9
    refine V.eq (pc' := 415) (st' := [_, _]) (ws' := WX A G a o s R bb sn t n κ ++ WM hm ms mp mq mt mpa msh mo mtu G sv past s sq bb t n pa sh ot tu) rfl rfl rfl rfl ?_
    refine V.isame (tgt := 1072) F dL_law_415 (by decide) ?_
    exact kk _ _ _ _ _ _ _ _ _ _ _ _ _ _ _ _ h
  · have e9 := hpos hs
    subst e9
    refine V.eq (pc' := 401) (st' := [_]) (ws' := WX A G (cutA a ((scz xs (i + 1)) * 4 + (scz xs (i + 2))) (shr a ((scz xs (i + 1)) * 4 + (scz xs (i + 2)))) (scrz a ((scz xs (i + 1)) * 4 + (scz xs (i + 2))))) (oN o s) (sN s) (RN a o s R) bb sn t n κ ++ WM hm ms mp mq mt mpa msh mo mtu G sv past s sq bb t n pa sh ot tu) rfl rfl rfl rfl ?_
    refine V.aload_n (q := 402) F dL_law_401 rfl rfl rfl ?_
    refine V.aload_n (q := 403) F dL_law_402 rfl rfl rfl ?_
    refine V.iload_n (q := 404) F dL_law_403 rfl rfl rfl ?_
    refine V.iconst (q := 405) F dL_law_404 rfl ?_
    refine V.iadd (q := 406) F dL_law_405 rfl ?_
    refine V.sld (q := 407) F S dL_law_406 rfl hL (by omega) ?_
    refine V.aload_n (q := 408) F dL_law_407 rfl rfl rfl ?_
    refine V.iload_n (q := 409) F dL_law_408 rfl rfl rfl ?_
    refine V.iconst (q := 410) F dL_law_409 rfl ?_
    refine V.iadd (q := 411) F dL_law_410 rfl ?_
    refine V.sld (q := 412) F S dL_law_411 rfl hL (by omega) ?_
    refine V.callM (q := 415) F 27 9 rfl rfl nd9 dL_law_412 rfl (c_X7_engrave l G hm ms mp mq mt mpa msh mo mtu a sv past sq t pa sh ot tu s bb n (scz xs (i + 1)) (scz xs (i + 2)) h.2.1 h.1 h.2.2.2.1 h.2.2.2.2.1 h.2.2.2.2.2.2.2.1 h.2.2.2.2.2.2.2.2.1 (scz_rng xs _) (scz_rng xs _)) gL_law_X7_engrave rfl rfl ydX7_engrave ⟨Nat.le_of_ble_eq_true rfl, Nat.le_of_ble_eq_true rfl⟩ (ci := 7) rfl rfl rfl rfl (Nat.le_of_ble_eq_true rfl) ⟨Nat.le_of_ble_eq_true rfl, Nat.le_of_ble_eq_true rfl⟩ (fun r9 w9 h9 => ?_)
    obtain ⟨sv', pa, sh, ot, tu, rfl, hneg2, hpos2⟩ := h9
    obtain ⟨hR9, e9⟩ := hpos2 hs
    subst e9
    refine V.eq (pc' := 415) (st' := [_, _]) (ws' := WX A G (cutA a ((scz xs (i + 1)) * 4 + (scz xs (i + 2))) (shr a ((scz xs (i + 1)) * 4 + (scz xs (i + 2)))) (scrz a ((scz xs (i + 1)) * 4 + (scz xs (i + 2))))) (oN o s) (sN s) (RN a o s R) bb sn t n κ ++ WM hm ms mp mq mt mpa msh mo mtu G sv' (PN sv s past) (sN s) sq bb t n pa sh ot tu) rfl rfl rfl rfl ?_
    refine V.isame (tgt := 1072) F dL_law_415 (by decide) ?_
    exact kk _ _ _ _ _ _ _ _ _ _ _ _ _ _ _ _ (h.rem (h.1.cut hs) hR9)
set_option maxHeartbeats 4000000 in
set_option maxRecDepth 20000 in
theorem lcase_6 {X : Cx} {l : Launch} {G : Gx} {A : Nat → Nat} {hm ms mp mq mt mpa msh mo mtu b L : Nat} {xs : Nat → Int32} (F : Fx X (YL l G)) (S : SX X b L xs) (hL : L ≤ 3072) {i : Int} (hi : 0 ≤ i ∧ i + 6 ≤ (L : Int)) {a R sn t sv past sq pa sh ot tu : Int → Int} {o s bb n : Int} {κ : Scr} (h : LI a o s R bb sn t n sv past sq) (kk : KN X l G A hm ms mp mq mt mpa msh mo mtu b i) : V X (YL l G) 36 202478 420 [some (.ref b), some (.ref (A 0)), some (.ref hm), some (.int (zI i))] [] (WX A G a o s R bb sn t n κ ++ WM hm ms mp mq mt mpa msh mo mtu G sv past s sq bb t n pa sh ot tu) := by
  refine V.aload_n (q := 421) F dL_law_420 rfl rfl rfl ?_
  refine V.aload_n (q := 422) F dL_law_421 rfl rfl rfl ?_
  refine V.iload_n (q := 423) F dL_law_422 rfl rfl rfl ?_
  refine V.iconst (q := 424) F dL_law_423 rfl ?_
  refine V.iadd (q := 425) F dL_law_424 rfl ?_
  refine V.sld (q := 426) F S dL_law_425 rfl hL (by omega) ?_
  refine V.aload_n (q := 427) F dL_law_426 rfl rfl rfl ?_
  refine V.iload_n (q := 428) F dL_law_427 rfl rfl rfl ?_
  refine V.iconst (q := 429) F dL_law_428 rfl ?_
  refine V.iadd (q := 430) F dL_law_429 rfl ?_
  refine V.sld (q := 431) F S dL_law_430 rfl hL (by omega) ?_
  refine V.callX (q := 434) F 27 rfl nd27 dL_law_431 rfl (c_X6_renew l G A a κ.1.1 R sn t κ.1.2.1 κ.1.2.2.1 κ.1.2.2.2.1 κ.1.2.2.2.2 κ.2.1.1 κ.2.1.2.1 κ.2.1.2.2 κ.2.2.1.1 κ.2.2.1.2.1 κ.2.2.1.2.2 κ.2.2.2.1.1 κ.2.2.2.1.2.1 κ.2.2.2.1.2.2 o s bb n κ.2.2.2.2.1 κ.2.2.2.2.2.1 κ.2.2.2.2.2.2.1 κ.2.2.2.2.2.2.2.1 κ.2.2.2.2.2.2.2.2.1 κ.2.2.2.2.2.2.2.2.2.1 κ.2.2.2.2.2.2.2.2.2.2.1 κ.2.2.2.2.2.2.2.2.2.2.2 (scz xs (i + 1)) (scz xs (i + 2)) h.1 h.2.2.1 h.2.2.2.1 h.2.2.2.2.1 h.2.2.2.2.2.2.2.1 h.2.2.2.2.2.2.2.2.1 (scz_rng xs _) (scz_rng xs _)) gL_law_X6_renew rfl rfl ydX6_renew ⟨Nat.le_of_ble_eq_true rfl, Nat.le_of_ble_eq_true rfl⟩ (ci := 6) rfl rfl rfl rfl (Nat.le_of_ble_eq_true rfl) ⟨Nat.le_of_ble_eq_true rfl, Nat.le_of_ble_eq_true rfl⟩ (fun r9 w9 h9 => ?_)
  obtain ⟨κ, rfl, hneg, hpos⟩ := h9
  rcases Int.lt_or_le (rRen a (scz xs (i + 1)) (scz xs (i + 2))) 0 with hs | hs
  · have e9 := hneg hs
    subst e9
    refine V.eq (pc' := 434) (st' := [_]) (ws' := WX A G a o s R bb sn t n κ ++ WM hm ms mp mq mt mpa msh mo mtu G sv past s sq bb t n pa sh ot tu) rfl rfl rfl rfl ?_
    refine V.aload_n (q := 435) F dL_law_434 rfl rfl rfl ?_
    refine V.aload_n (q := 436) F dL_law_435 rfl rfl rfl ?_
    refine V.iload_n (q := 437) F dL_law_436 rfl rfl rfl ?_
    refine V.iconst (q := 438) F dL_law_437 rfl ?_
    refine V.iadd (q := 439) F dL_law_438 rfl ?_
    refine V.sld (q := 440) F S dL_law_439 rfl hL (by omega) ?_
    refine V.aload_n (q := 441) F dL_law_440 rfl rfl rfl ?_
    refine V.iload_n (q := 442) F dL_law_441 rfl rfl rfl ?_
    refine V.iconst (q := 443) F dL_law_442 rfl ?_
    refine V.iadd (q := 444) F dL_law_443 rfl ?_
    refine V.sld (q := 445) F S dL_law_444 rfl hL (by omega) ?_
    refine V.callM (q := 448) F 27 9 rfl rfl nd9 dL_law_445 rfl (c_X7_renew l G hm ms mp mq mt mpa msh mo mtu a sv past sq t pa sh ot tu s bb n (scz xs (i + 1)) (scz xs (i + 2)) h.2.1 h.1 h.2.2.2.1 h.2.2.2.2.1 h.2.2.2.2.2.2.2.1 h.2.2.2.2.2.2.2.2.1 (scz_rng xs _) (scz_rng xs _)) gL_law_X7_renew rfl rfl ydX7_renew ⟨Nat.le_of_ble_eq_true rfl, Nat.le_of_ble_eq_true rfl⟩ (ci := 7) rfl rfl rfl rfl (Nat.le_of_ble_eq_true rfl) ⟨Nat.le_of_ble_eq_true rfl, Nat.le_of_ble_eq_true rfl⟩ (fun r9 w9 h9 => ?_)
    obtain ⟨sv', pa, sh, ot, tu, rfl, hneg2, hpos2⟩ := h9
    have e9 := hneg2 hs
    subst e9
    refine V.eq (pc' := 448) (st' := [_, _]) (ws' := WX A G a o s R bb sn t n κ ++ WM hm ms mp mq mt mpa msh mo mtu G sv past s sq bb t n pa sh ot tu) rfl rfl rfl rfl ?_
    refine V.isame (tgt := 1072) F dL_law_448 (by decide) ?_
    exact kk _ _ _ _ _ _ _ _ _ _ _ _ _ _ _ _ h
  · have e9 := hpos hs
    subst e9
    refine V.eq (pc' := 434) (st' := [_]) (ws' := WX A G (newA a ((scz xs (i + 1)) * 4 + (scz xs (i + 2)))) (oN o s) (sN s) (RN a o s R) bb sn t n κ ++ WM hm ms mp mq mt mpa msh mo mtu G sv past s sq bb t n pa sh ot tu) rfl rfl rfl rfl ?_
    refine V.aload_n (q := 435) F dL_law_434 rfl rfl rfl ?_
    refine V.aload_n (q := 436) F dL_law_435 rfl rfl rfl ?_
    refine V.iload_n (q := 437) F dL_law_436 rfl rfl rfl ?_
    refine V.iconst (q := 438) F dL_law_437 rfl ?_
    refine V.iadd (q := 439) F dL_law_438 rfl ?_
    refine V.sld (q := 440) F S dL_law_439 rfl hL (by omega) ?_
    refine V.aload_n (q := 441) F dL_law_440 rfl rfl rfl ?_
    refine V.iload_n (q := 442) F dL_law_441 rfl rfl rfl ?_
    refine V.iconst (q := 443) F dL_law_442 rfl ?_
    refine V.iadd (q := 444) F dL_law_443 rfl ?_
    refine V.sld (q := 445) F S dL_law_444 rfl hL (by omega) ?_
    refine V.callM (q := 448) F 27 9 rfl rfl nd9 dL_law_445 rfl (c_X7_renew l G hm ms mp mq mt mpa msh mo mtu a sv past sq t pa sh ot tu s bb n (scz xs (i + 1)) (scz xs (i + 2)) h.2.1 h.1 h.2.2.2.1 h.2.2.2.2.1 h.2.2.2.2.2.2.2.1 h.2.2.2.2.2.2.2.2.1 (scz_rng xs _) (scz_rng xs _)) gL_law_X7_renew rfl rfl ydX7_renew ⟨Nat.le_of_ble_eq_true rfl, Nat.le_of_ble_eq_true rfl⟩ (ci := 7) rfl rfl rfl rfl (Nat.le_of_ble_eq_true rfl) ⟨Nat.le_of_ble_eq_true rfl, Nat.le_of_ble_eq_true rfl⟩ (fun r9 w9 h9 => ?_)
    obtain ⟨sv', pa, sh, ot, tu, rfl, hneg2, hpos2⟩ := h9
    obtain ⟨hR9, e9⟩ := hpos2 hs
    subst e9
    refine V.eq (pc' := 448) (st' := [_, _]) (ws' := WX A G (newA a ((scz xs (i + 1)) * 4 + (scz xs (i + 2)))) (oN o s) (sN s) (RN a o s R) bb sn t n κ ++ WM hm ms mp mq mt mpa msh mo mtu G sv' (PN sv s past) (sN s) sq bb t n pa sh ot tu) rfl rfl rfl rfl ?_
    refine V.isame (tgt := 1072) F dL_law_448 (by decide) ?_
    exact kk _ _ _ _ _ _ _ _ _ _ _ _ _ _ _ _ (h.rem (inv_ren h.1 hs) hR9)
set_option maxHeartbeats 4000000 in
set_option maxRecDepth 20000 in
theorem lcase_7 {X : Cx} {l : Launch} {G : Gx} {A : Nat → Nat} {hm ms mp mq mt mpa msh mo mtu b L : Nat} {xs : Nat → Int32} (F : Fx X (YL l G)) (S : SX X b L xs) (hL : L ≤ 3072) {i : Int} (hi : 0 ≤ i ∧ i + 6 ≤ (L : Int)) {a R sn t sv past sq pa sh ot tu : Int → Int} {o s bb n : Int} {κ : Scr} (h : LI a o s R bb sn t n sv past sq) (kk : KN X l G A hm ms mp mq mt mpa msh mo mtu b i) : V X (YL l G) 36 202478 453 [some (.ref b), some (.ref (A 0)), some (.ref hm), some (.int (zI i))] [] (WX A G a o s R bb sn t n κ ++ WM hm ms mp mq mt mpa msh mo mtu G sv past s sq bb t n pa sh ot tu) := by
  refine V.aload_n (q := 454) F dL_law_453 rfl rfl rfl ?_
  refine V.aload_n (q := 455) F dL_law_454 rfl rfl rfl ?_
  refine V.iload_n (q := 456) F dL_law_455 rfl rfl rfl ?_
  refine V.iconst (q := 457) F dL_law_456 rfl ?_
  refine V.iadd (q := 458) F dL_law_457 rfl ?_
  refine V.sld (q := 459) F S dL_law_458 rfl hL (by omega) ?_
  refine V.i2cR (q := 460) F dL_law_459 rfl (zI_char _) ?_
  refine V.callX (q := 463) F 27 rfl nd27 dL_law_460 rfl (c_X6_type l G A a κ.1.1 R sn t κ.1.2.1 κ.1.2.2.1 κ.1.2.2.2.1 κ.1.2.2.2.2 κ.2.1.1 κ.2.1.2.1 κ.2.1.2.2 κ.2.2.1.1 κ.2.2.1.2.1 κ.2.2.1.2.2 κ.2.2.2.1.1 κ.2.2.2.1.2.1 κ.2.2.2.1.2.2 o s bb n κ.2.2.2.2.1 κ.2.2.2.2.2.1 κ.2.2.2.2.2.2.1 κ.2.2.2.2.2.2.2.1 κ.2.2.2.2.2.2.2.2.1 κ.2.2.2.2.2.2.2.2.2.1 κ.2.2.2.2.2.2.2.2.2.2.1 κ.2.2.2.2.2.2.2.2.2.2.2 ((scz xs (i + 1)) % 65536) h.1 h.2.2.1 h.2.2.2.1 h.2.2.2.2.1 h.2.2.2.2.2.2.2.1 h.2.2.2.2.2.2.2.2.1 (by omega) (by omega)) gL_law_X6_type rfl rfl ydX6_type ⟨Nat.le_of_ble_eq_true rfl, Nat.le_of_ble_eq_true rfl⟩ (ci := 6) rfl rfl rfl rfl (Nat.le_of_ble_eq_true rfl) ⟨Nat.le_of_ble_eq_true rfl, Nat.le_of_ble_eq_true rfl⟩ (fun r9 w9 h9 => ?_)
  obtain ⟨κ, rfl, hneg, hpos⟩ := h9
  rcases Int.lt_or_le (rType n) 0 with hs | hs
  · have e9 := hneg hs
    subst e9
    refine V.eq (pc' := 463) (st' := [_]) (ws' := WX A G a o s R bb sn t n κ ++ WM hm ms mp mq mt mpa msh mo mtu G sv past s sq bb t n pa sh ot tu) rfl rfl rfl rfl ?_
    refine V.aload_n (q := 464) F dL_law_463 rfl rfl rfl ?_
    refine V.aload_n (q := 465) F dL_law_464 rfl rfl rfl ?_
    refine V.iload_n (q := 466) F dL_law_465 rfl rfl rfl ?_
    refine V.iconst (q := 467) F dL_law_466 rfl ?_
    refine V.iadd (q := 468) F dL_law_467 rfl ?_
    refine V.sld (q := 469) F S dL_law_468 rfl hL (by omega) ?_
    refine V.i2cR (q := 470) F dL_law_469 rfl (zI_char _) ?_
    refine V.callM (q := 473) F 27 9 rfl rfl nd9 dL_law_470 rfl (c_X7_type l G hm ms mp mq mt mpa msh mo mtu a sv past sq t pa sh ot tu s bb n ((scz xs (i + 1)) % 65536) h.2.1 h.1 h.2.2.2.1 h.2.2.2.2.1 h.2.2.2.2.2.2.2.1 h.2.2.2.2.2.2.2.2.1 (by omega) (by omega)) gL_law_X7_type rfl rfl ydX7_type ⟨Nat.le_of_ble_eq_true rfl, Nat.le_of_ble_eq_true rfl⟩ (ci := 7) rfl rfl rfl rfl (Nat.le_of_ble_eq_true rfl) ⟨Nat.le_of_ble_eq_true rfl, Nat.le_of_ble_eq_true rfl⟩ (fun r9 w9 h9 => ?_)
    obtain ⟨sv', pa, sh, ot, tu, rfl, hneg2, hpos2⟩ := h9
    have e9 := hneg2 hs
    subst e9
    refine V.eq (pc' := 473) (st' := [_, _]) (ws' := WX A G a o s R bb sn t n κ ++ WM hm ms mp mq mt mpa msh mo mtu G sv past s sq bb t n pa sh ot tu) rfl rfl rfl rfl ?_
    refine V.isame (tgt := 1072) F dL_law_473 (by decide) ?_
    exact kk _ _ _ _ _ _ _ _ _ _ _ _ _ _ _ _ h
  · have e9 := hpos hs
    subst e9
    refine V.eq (pc' := 463) (st' := [_]) (ws' := WX A G a o s R bb sn (upz t n ((scz xs (i + 1)) % 65536)) (n + 1) κ ++ WM hm ms mp mq mt mpa msh mo mtu G sv past s sq bb t n pa sh ot tu) rfl rfl rfl rfl ?_
    refine V.aload_n (q := 464) F dL_law_463 rfl rfl rfl ?_
    refine V.aload_n (q := 465) F dL_law_464 rfl rfl rfl ?_
    refine V.iload_n (q := 466) F dL_law_465 rfl rfl rfl ?_
    refine V.iconst (q := 467) F dL_law_466 rfl ?_
    refine V.iadd (q := 468) F dL_law_467 rfl ?_
    refine V.sld (q := 469) F S dL_law_468 rfl hL (by omega) ?_
    refine V.i2cR (q := 470) F dL_law_469 rfl (zI_char _) ?_
    refine V.callM (q := 473) F 27 9 rfl rfl nd9 dL_law_470 rfl (c_X7_type l G hm ms mp mq mt mpa msh mo mtu a sv past sq t pa sh ot tu s bb n ((scz xs (i + 1)) % 65536) h.2.1 h.1 h.2.2.2.1 h.2.2.2.2.1 h.2.2.2.2.2.2.2.1 h.2.2.2.2.2.2.2.2.1 (by omega) (by omega)) gL_law_X7_type rfl rfl ydX7_type ⟨Nat.le_of_ble_eq_true rfl, Nat.le_of_ble_eq_true rfl⟩ (ci := 7) rfl rfl rfl rfl (Nat.le_of_ble_eq_true rfl) ⟨Nat.le_of_ble_eq_true rfl, Nat.le_of_ble_eq_true rfl⟩ (fun r9 w9 h9 => ?_)
    obtain ⟨sv', pa, sh, ot, tu, rfl, hneg2, hpos2⟩ := h9
    obtain ⟨hR9, e9⟩ := hpos2 hs
    subst e9
    refine V.eq (pc' := 473) (st' := [_, _]) (ws' := WX A G a o s R bb sn (upz t n ((scz xs (i + 1)) % 65536)) (n + 1) κ ++ WM hm ms mp mq mt mpa msh mo mtu G sv' past s sq bb (upz t n ((scz xs (i + 1)) % 65536)) (n + 1) pa sh ot tu) rfl rfl rfl rfl ?_
    refine V.isame (tgt := 1072) F dL_law_473 (by decide) ?_
    exact kk _ _ _ _ _ _ _ _ _ _ _ _ _ _ _ _ (by subst hR9; exact h.type (by omega) hs)
set_option maxHeartbeats 4000000 in
set_option maxRecDepth 20000 in
theorem lcase_8 {X : Cx} {l : Launch} {G : Gx} {A : Nat → Nat} {hm ms mp mq mt mpa msh mo mtu b L : Nat} {xs : Nat → Int32} (F : Fx X (YL l G)) (S : SX X b L xs) (hL : L ≤ 3072) {i : Int} (hi : 0 ≤ i ∧ i + 6 ≤ (L : Int)) {a R sn t sv past sq pa sh ot tu : Int → Int} {o s bb n : Int} {κ : Scr} (h : LI a o s R bb sn t n sv past sq) (kk : KN X l G A hm ms mp mq mt mpa msh mo mtu b i) : V X (YL l G) 36 202478 478 [some (.ref b), some (.ref (A 0)), some (.ref hm), some (.int (zI i))] [] (WX A G a o s R bb sn t n κ ++ WM hm ms mp mq mt mpa msh mo mtu G sv past s sq bb t n pa sh ot tu) := by
  refine V.aload_n (q := 479) F dL_law_478 rfl rfl rfl ?_
  refine V.callX (q := 482) F 27 rfl nd27 dL_law_479 rfl (c_X6_clearText l G A a κ.1.1 R sn t κ.1.2.1 κ.1.2.2.1 κ.1.2.2.2.1 κ.1.2.2.2.2 κ.2.1.1 κ.2.1.2.1 κ.2.1.2.2 κ.2.2.1.1 κ.2.2.1.2.1 κ.2.2.1.2.2 κ.2.2.2.1.1 κ.2.2.2.1.2.1 κ.2.2.2.1.2.2 o s bb n κ.2.2.2.2.1 κ.2.2.2.2.2.1 κ.2.2.2.2.2.2.1 κ.2.2.2.2.2.2.2.1 κ.2.2.2.2.2.2.2.2.1 κ.2.2.2.2.2.2.2.2.2.1 κ.2.2.2.2.2.2.2.2.2.2.1 κ.2.2.2.2.2.2.2.2.2.2.2 h.1 h.2.2.1 h.2.2.2.1 h.2.2.2.2.1 h.2.2.2.2.2.2.2.1 h.2.2.2.2.2.2.2.2.1) gL_law_X6_clearText rfl rfl ydX6_clearText ⟨Nat.le_of_ble_eq_true rfl, Nat.le_of_ble_eq_true rfl⟩ (ci := 6) rfl rfl rfl rfl (Nat.le_of_ble_eq_true rfl) ⟨Nat.le_of_ble_eq_true rfl, Nat.le_of_ble_eq_true rfl⟩ (fun r9 w9 h9 => ?_)
  obtain ⟨κ, rfl, hneg, hpos⟩ := h9
  rcases Int.lt_or_le (n) 0 with hs | hs
  · have e9 := hneg hs
    subst e9
    refine V.eq (pc' := 482) (st' := [_]) (ws' := WX A G a o s R bb sn t n κ ++ WM hm ms mp mq mt mpa msh mo mtu G sv past s sq bb t n pa sh ot tu) rfl rfl rfl rfl ?_
    refine V.aload_n (q := 483) F dL_law_482 rfl rfl rfl ?_
    refine V.callM (q := 486) F 27 9 rfl rfl nd9 dL_law_483 rfl (c_X7_clearText l G hm ms mp mq mt mpa msh mo mtu a sv past sq t pa sh ot tu s bb n h.2.1 h.1 h.2.2.2.1 h.2.2.2.2.1 h.2.2.2.2.2.2.2.1 h.2.2.2.2.2.2.2.2.1) gL_law_X7_clearText rfl rfl ydX7_clearText ⟨Nat.le_of_ble_eq_true rfl, Nat.le_of_ble_eq_true rfl⟩ (ci := 7) rfl rfl rfl rfl (Nat.le_of_ble_eq_true rfl) ⟨Nat.le_of_ble_eq_true rfl, Nat.le_of_ble_eq_true rfl⟩ (fun r9 w9 h9 => ?_)
    obtain ⟨sv', pa, sh, ot, tu, rfl, hneg2, hpos2⟩ := h9
    have e9 := hneg2 hs
    subst e9
    refine V.eq (pc' := 486) (st' := [_, _]) (ws' := WX A G a o s R bb sn t n κ ++ WM hm ms mp mq mt mpa msh mo mtu G sv past s sq bb t n pa sh ot tu) rfl rfl rfl rfl ?_
    refine V.isame (tgt := 1072) F dL_law_486 (by decide) ?_
    exact kk _ _ _ _ _ _ _ _ _ _ _ _ _ _ _ _ h
  · have e9 := hpos hs
    subst e9
    refine V.eq (pc' := 482) (st' := [_]) (ws' := WX A G a o s R bb sn t 0 κ ++ WM hm ms mp mq mt mpa msh mo mtu G sv past s sq bb t n pa sh ot tu) rfl rfl rfl rfl ?_
    refine V.aload_n (q := 483) F dL_law_482 rfl rfl rfl ?_
    refine V.callM (q := 486) F 27 9 rfl rfl nd9 dL_law_483 rfl (c_X7_clearText l G hm ms mp mq mt mpa msh mo mtu a sv past sq t pa sh ot tu s bb n h.2.1 h.1 h.2.2.2.1 h.2.2.2.2.1 h.2.2.2.2.2.2.2.1 h.2.2.2.2.2.2.2.2.1) gL_law_X7_clearText rfl rfl ydX7_clearText ⟨Nat.le_of_ble_eq_true rfl, Nat.le_of_ble_eq_true rfl⟩ (ci := 7) rfl rfl rfl rfl (Nat.le_of_ble_eq_true rfl) ⟨Nat.le_of_ble_eq_true rfl, Nat.le_of_ble_eq_true rfl⟩ (fun r9 w9 h9 => ?_)
    obtain ⟨sv', pa, sh, ot, tu, rfl, hneg2, hpos2⟩ := h9
    obtain ⟨hR9, e9⟩ := hpos2 hs
    subst e9
    refine V.eq (pc' := 486) (st' := [_, _]) (ws' := WX A G a o s R bb sn t 0 κ ++ WM hm ms mp mq mt mpa msh mo mtu G sv' past s sq bb t 0 pa sh ot tu) rfl rfl rfl rfl ?_
    refine V.isame (tgt := 1072) F dL_law_486 (by decide) ?_
    exact kk _ _ _ _ _ _ _ _ _ _ _ _ _ _ _ _ (by subst hR9; exact h.clear)
set_option maxHeartbeats 4000000 in
set_option maxRecDepth 20000 in
theorem lcase_9 {X : Cx} {l : Launch} {G : Gx} {A : Nat → Nat} {hm ms mp mq mt mpa msh mo mtu b L : Nat} {xs : Nat → Int32} (F : Fx X (YL l G)) (S : SX X b L xs) (hL : L ≤ 3072) {i : Int} (hi : 0 ≤ i ∧ i + 6 ≤ (L : Int)) {a R sn t sv past sq pa sh ot tu : Int → Int} {o s bb n : Int} {κ : Scr} (h : LI a o s R bb sn t n sv past sq) (kk : KN X l G A hm ms mp mq mt mpa msh mo mtu b i) : V X (YL l G) 36 202478 491 [some (.ref b), some (.ref (A 0)), some (.ref hm), some (.int (zI i))] [] (WX A G a o s R bb sn t n κ ++ WM hm ms mp mq mt mpa msh mo mtu G sv past s sq bb t n pa sh ot tu) := by
  obtain ⟨K, hK13, hK⟩ := par_ex t h.2.2.2.2.2.2.2.1
  refine V.aload_n (q := 492) F dL_law_491 rfl rfl rfl ?_
  refine V.callX (q := 495) F 27 rfl nd27 dL_law_492 rfl (c_X6_logAll l G A a κ.1.1 R sn t κ.1.2.1 κ.1.2.2.1 κ.1.2.2.2.1 κ.1.2.2.2.2 κ.2.1.1 κ.2.1.2.1 κ.2.1.2.2 κ.2.2.1.1 κ.2.2.1.2.1 κ.2.2.1.2.2 κ.2.2.2.1.1 κ.2.2.2.1.2.1 κ.2.2.2.1.2.2 o s bb n κ.2.2.2.2.1 κ.2.2.2.2.2.1 κ.2.2.2.2.2.2.1 κ.2.2.2.2.2.2.2.1 κ.2.2.2.2.2.2.2.2.1 κ.2.2.2.2.2.2.2.2.2.1 κ.2.2.2.2.2.2.2.2.2.2.1 κ.2.2.2.2.2.2.2.2.2.2.2 K h.1 h.2.2.1 h.2.2.2.1 h.2.2.2.2.1 h.2.2.2.2.2.2.2.1 h.2.2.2.2.2.2.2.2.1 hK hK13) gL_law_X6_logAll rfl rfl ydX6_logAll ⟨Nat.le_of_ble_eq_true rfl, Nat.le_of_ble_eq_true rfl⟩ (ci := 6) rfl rfl rfl rfl (Nat.le_of_ble_eq_true rfl) ⟨Nat.le_of_ble_eq_true rfl, Nat.le_of_ble_eq_true rfl⟩ (fun r9 w9 h9 => ?_)
  obtain ⟨κ, rfl, hneg, hpos⟩ := h9
  rcases Int.lt_or_le (rLA a t n K) 0 with hs | hs
  · have e9 := hneg hs
    subst e9
    refine V.eq (pc' := 495) (st' := [_]) (ws' := WX A G a o s R bb sn t n κ ++ WM hm ms mp mq mt mpa msh mo mtu G sv past s sq bb t n pa sh ot tu) rfl rfl rfl rfl ?_
    refine V.aload_n (q := 496) F dL_law_495 rfl rfl rfl ?_
    refine V.callM (q := 499) F 27 9 rfl rfl nd9 dL_law_496 rfl (c_X7_logAll l G hm ms mp mq mt mpa msh mo mtu a sv past sq t pa sh ot tu s bb n K h.2.1 h.1 h.2.2.2.1 h.2.2.2.2.1 h.2.2.2.2.2.2.2.1 h.2.2.2.2.2.2.2.2.1 hK hK13) gL_law_X7_logAll rfl rfl ydX7_logAll ⟨Nat.le_of_ble_eq_true rfl, Nat.le_of_ble_eq_true rfl⟩ (ci := 7) rfl rfl rfl rfl (Nat.le_of_ble_eq_true rfl) ⟨Nat.le_of_ble_eq_true rfl, Nat.le_of_ble_eq_true rfl⟩ (fun r9 w9 h9 => ?_)
    obtain ⟨sv', pa, sh, ot, tu, rfl, hneg2, hpos2⟩ := h9
    have e9 := hneg2 hs
    subst e9
    refine V.eq (pc' := 499) (st' := [_, _]) (ws' := WX A G a o s R bb sn t n κ ++ WM hm ms mp mq mt mpa msh mo mtu G sv past s sq bb t n pa sh ot tu) rfl rfl rfl rfl ?_
    refine V.isame (tgt := 1072) F dL_law_499 (by decide) ?_
    exact kk _ _ _ _ _ _ _ _ _ _ _ _ _ _ _ _ h
  · have e9 := hpos hs
    subst e9
    refine V.eq (pc' := 495) (st' := [_]) (ws' := WX A G (foA t n a (K + 1)) (oN o s) (sN s) (RN a o s R) bb sn t n κ ++ WM hm ms mp mq mt mpa msh mo mtu G sv past s sq bb t n pa sh ot tu) rfl rfl rfl rfl ?_
    refine V.aload_n (q := 496) F dL_law_495 rfl rfl rfl ?_
    refine V.callM (q := 499) F 27 9 rfl rfl nd9 dL_law_496 rfl (c_X7_logAll l G hm ms mp mq mt mpa msh mo mtu a sv past sq t pa sh ot tu s bb n K h.2.1 h.1 h.2.2.2.1 h.2.2.2.2.1 h.2.2.2.2.2.2.2.1 h.2.2.2.2.2.2.2.2.1 hK hK13) gL_law_X7_logAll rfl rfl ydX7_logAll ⟨Nat.le_of_ble_eq_true rfl, Nat.le_of_ble_eq_true rfl⟩ (ci := 7) rfl rfl rfl rfl (Nat.le_of_ble_eq_true rfl) ⟨Nat.le_of_ble_eq_true rfl, Nat.le_of_ble_eq_true rfl⟩ (fun r9 w9 h9 => ?_)
    obtain ⟨sv', pa, sh, ot, tu, rfl, hneg2, hpos2⟩ := h9
    obtain ⟨hR9, e9⟩ := hpos2 hs
    subst e9
    refine V.eq (pc' := 499) (st' := [_, _]) (ws' := WX A G (foA t n a (K + 1)) (oN o s) (sN s) (RN a o s R) bb sn t n κ ++ WM hm ms mp mq mt mpa msh mo mtu G sv' (PN sv s past) (sN s) sq bb t n pa sh ot tu) rfl rfl rfl rfl ?_
    refine V.isame (tgt := 1072) F dL_law_499 (by decide) ?_
    exact kk _ _ _ _ _ _ _ _ _ _ _ _ _ _ _ _ (h.rem (inv_all h.1 h.2.2.2.2.2.2.2.1 hK hK13 hs) hR9)
set_option maxHeartbeats 4000000 in
set_option maxRecDepth 20000 in
theorem lcase_10 {X : Cx} {l : Launch} {G : Gx} {A : Nat → Nat} {hm ms mp mq mt mpa msh mo mtu b L : Nat} {xs : Nat → Int32} (F : Fx X (YL l G)) (S : SX X b L xs) (hL : L ≤ 3072) {i : Int} (hi : 0 ≤ i ∧ i + 6 ≤ (L : Int)) {a R sn t sv past sq pa sh ot tu : Int → Int} {o s bb n : Int} {κ : Scr} (h : LI a o s R bb sn t n sv past sq) (kk : KN X l G A hm ms mp mq mt mpa msh mo mtu b i) : V X (YL l G) 36 202478 504 [some (.ref b), some (.ref (A 0)), some (.ref hm), some (.int (zI i))] [] (WX A G a o s R bb sn t n κ ++ WM hm ms mp mq mt mpa msh mo mtu G sv past s sq bb t n pa sh ot tu) := by
  refine V.aload_n (q := 505) F dL_law_504 rfl rfl rfl ?_
  refine V.callX (q := 508) F 27 rfl nd27 dL_law_505 rfl (c_X6_undo l G A a κ.1.1 R sn t κ.1.2.1 κ.1.2.2.1 κ.1.2.2.2.1 κ.1.2.2.2.2 κ.2.1.1 κ.2.1.2.1 κ.2.1.2.2 κ.2.2.1.1 κ.2.2.1.2.1 κ.2.2.1.2.2 κ.2.2.2.1.1 κ.2.2.2.1.2.1 κ.2.2.2.1.2.2 o s bb n κ.2.2.2.2.1 κ.2.2.2.2.2.1 κ.2.2.2.2.2.2.1 κ.2.2.2.2.2.2.2.1 κ.2.2.2.2.2.2.2.2.1 κ.2.2.2.2.2.2.2.2.2.1 κ.2.2.2.2.2.2.2.2.2.2.1 κ.2.2.2.2.2.2.2.2.2.2.2 h.1 h.2.2.1 h.2.2.2.1 h.2.2.2.2.1 h.2.2.2.2.2.2.2.1 h.2.2.2.2.2.2.2.2.1) gL_law_X6_undo rfl rfl ydX6_undo ⟨Nat.le_of_ble_eq_true rfl, Nat.le_of_ble_eq_true rfl⟩ (ci := 6) rfl rfl rfl rfl (Nat.le_of_ble_eq_true rfl) ⟨Nat.le_of_ble_eq_true rfl, Nat.le_of_ble_eq_true rfl⟩ (fun r9 w9 h9 => ?_)
  obtain ⟨κ, rfl, hneg, hpos⟩ := h9
  rcases Int.lt_or_le (rUndo s) 0 with hs | hs
  · have e9 := hneg hs
    subst e9
    refine V.eq (pc' := 508) (st' := [_]) (ws' := WX A G a o s R bb sn t n κ ++ WM hm ms mp mq mt mpa msh mo mtu G sv past s sq bb t n pa sh ot tu) rfl rfl rfl rfl ?_
    refine V.aload_n (q := 509) F dL_law_508 rfl rfl rfl ?_
    refine V.callM (q := 512) F 27 9 rfl rfl nd9 dL_law_509 rfl (c_X7_undo l G hm ms mp mq mt mpa msh mo mtu a sv past sq t pa sh ot tu s bb n h.2.1 h.1 h.2.2.2.1 h.2.2.2.2.1 h.2.2.2.2.2.2.2.1 h.2.2.2.2.2.2.2.2.1) gL_law_X7_undo rfl rfl ydX7_undo ⟨Nat.le_of_ble_eq_true rfl, Nat.le_of_ble_eq_true rfl⟩ (ci := 7) rfl rfl rfl rfl (Nat.le_of_ble_eq_true rfl) ⟨Nat.le_of_ble_eq_true rfl, Nat.le_of_ble_eq_true rfl⟩ (fun r9 w9 h9 => ?_)
    obtain ⟨sv', pa, sh, ot, tu, rfl, hneg2, hpos2⟩ := h9
    have e9 := hneg2 hs
    subst e9
    refine V.eq (pc' := 512) (st' := [_, _]) (ws' := WX A G a o s R bb sn t n κ ++ WM hm ms mp mq mt mpa msh mo mtu G sv past s sq bb t n pa sh ot tu) rfl rfl rfl rfl ?_
    refine V.isame (tgt := 1072) F dL_law_512 (by decide) ?_
    exact kk _ _ _ _ _ _ _ _ _ _ _ _ _ _ _ _ h
  · have e9 := hpos hs
    subst e9
    refine V.eq (pc' := 508) (st' := [_]) (ws' := WX A G (cpz R a ((o + (s - 1)) % 4 * 26181) 0 26181) o (s - 1) R bb sn t n κ ++ WM hm ms mp mq mt mpa msh mo mtu G sv past s sq bb t n pa sh ot tu) rfl rfl rfl rfl ?_
    refine V.aload_n (q := 509) F dL_law_508 rfl rfl rfl ?_
    refine V.callM (q := 512) F 27 9 rfl rfl nd9 dL_law_509 rfl (c_X7_undo l G hm ms mp mq mt mpa msh mo mtu a sv past sq t pa sh ot tu s bb n h.2.1 h.1 h.2.2.2.1 h.2.2.2.2.1 h.2.2.2.2.2.2.2.1 h.2.2.2.2.2.2.2.2.1) gL_law_X7_undo rfl rfl ydX7_undo ⟨Nat.le_of_ble_eq_true rfl, Nat.le_of_ble_eq_true rfl⟩ (ci := 7) rfl rfl rfl rfl (Nat.le_of_ble_eq_true rfl) ⟨Nat.le_of_ble_eq_true rfl, Nat.le_of_ble_eq_true rfl⟩ (fun r9 w9 h9 => ?_)
    obtain ⟨sv', pa, sh, ot, tu, rfl, hneg2, hpos2⟩ := h9
    obtain ⟨hR9, e9⟩ := hpos2 hs
    subst e9
    refine V.eq (pc' := 512) (st' := [_, _]) (ws' := WX A G (cpz R a ((o + (s - 1)) % 4 * 26181) 0 26181) o (s - 1) R bb sn t n κ ++ WM hm ms mp mq mt mpa msh mo mtu G sv' past (s - 1) sq bb t n pa sh ot tu) rfl rfl rfl rfl ?_
    refine V.isame (tgt := 1072) F dL_law_512 (by decide) ?_
    exact kk _ _ _ _ _ _ _ _ _ _ _ _ _ _ _ _ (h.undo hs hR9)
set_option maxHeartbeats 4000000 in
set_option maxRecDepth 20000 in
theorem lcase_11 {X : Cx} {l : Launch} {G : Gx} {A : Nat → Nat} {hm ms mp mq mt mpa msh mo mtu b L : Nat} {xs : Nat → Int32} (F : Fx X (YL l G)) (S : SX X b L xs) (hL : L ≤ 3072) {i : Int} (hi : 0 ≤ i ∧ i + 6 ≤ (L : Int)) {a R sn t sv past sq pa sh ot tu : Int → Int} {o s bb n : Int} {κ : Scr} (h : LI a o s R bb sn t n sv past sq) (kk : KN X l G A hm ms mp mq mt mpa msh mo mtu b i) : V X (YL l G) 36 202478 517 [some (.ref b), some (.ref (A 0)), some (.ref hm), some (.int (zI i))] [] (WX A G a o s R bb sn t n κ ++ WM hm ms mp mq mt mpa msh mo mtu G sv past s sq bb t n pa sh ot tu) := by
  refine V.aload_n (q := 518) F dL_law_517 rfl rfl rfl ?_
  refine V.callX (q := 521) F 27 rfl nd27 dL_law_518 rfl (c_X6_keep l G A a κ.1.1 R sn t κ.1.2.1 κ.1.2.2.1 κ.1.2.2.2.1 κ.1.2.2.2.2 κ.2.1.1 κ.2.1.2.1 κ.2.1.2.2 κ.2.2.1.1 κ.2.2.1.2.1 κ.2.2.1.2.2 κ.2.2.2.1.1 κ.2.2.2.1.2.1 κ.2.2.2.1.2.2 o s bb n κ.2.2.2.2.1 κ.2.2.2.2.2.1 κ.2.2.2.2.2.2.1 κ.2.2.2.2.2.2.2.1 κ.2.2.2.2.2.2.2.2.1 κ.2.2.2.2.2.2.2.2.2.1 κ.2.2.2.2.2.2.2.2.2.2.1 κ.2.2.2.2.2.2.2.2.2.2.2 h.1 h.2.2.1 h.2.2.2.1 h.2.2.2.2.1 h.2.2.2.2.2.2.2.1 h.2.2.2.2.2.2.2.2.1) gL_law_X6_keep rfl rfl ydX6_keep ⟨Nat.le_of_ble_eq_true rfl, Nat.le_of_ble_eq_true rfl⟩ (ci := 6) rfl rfl rfl rfl (Nat.le_of_ble_eq_true rfl) ⟨Nat.le_of_ble_eq_true rfl, Nat.le_of_ble_eq_true rfl⟩ (fun r9 w9 h9 => ?_)
  obtain ⟨κ, rfl, hneg, hpos⟩ := h9
  rcases Int.lt_or_le (rKeep a) 0 with hs | hs
  · have e9 := hneg hs
    subst e9
    refine V.eq (pc' := 521) (st' := [_]) (ws' := WX A G a o s R bb sn t n κ ++ WM hm ms mp mq mt mpa msh mo mtu G sv past s sq bb t n pa sh ot tu) rfl rfl rfl rfl ?_
    refine V.aload_n (q := 522) F dL_law_521 rfl rfl rfl ?_
    refine V.callM (q := 525) F 27 9 rfl rfl nd9 dL_law_522 rfl (c_X7_keep l G hm ms mp mq mt mpa msh mo mtu a sv past sq t pa sh ot tu s bb n h.2.1 h.1 h.2.2.2.1 h.2.2.2.2.1 h.2.2.2.2.2.2.2.1 h.2.2.2.2.2.2.2.2.1) gL_law_X7_keep rfl rfl ydX7_keep ⟨Nat.le_of_ble_eq_true rfl, Nat.le_of_ble_eq_true rfl⟩ (ci := 7) rfl rfl rfl rfl (Nat.le_of_ble_eq_true rfl) ⟨Nat.le_of_ble_eq_true rfl, Nat.le_of_ble_eq_true rfl⟩ (fun r9 w9 h9 => ?_)
    obtain ⟨sv', pa, sh, ot, tu, rfl, hneg2, hpos2⟩ := h9
    have e9 := hneg2 hs
    subst e9
    refine V.eq (pc' := 525) (st' := [_, _]) (ws' := WX A G a o s R bb sn t n κ ++ WM hm ms mp mq mt mpa msh mo mtu G sv past s sq bb t n pa sh ot tu) rfl rfl rfl rfl ?_
    refine V.isame (tgt := 1072) F dL_law_525 (by decide) ?_
    exact kk _ _ _ _ _ _ _ _ _ _ _ _ _ _ _ _ h
  · have e9 := hpos hs
    subst e9
    refine V.eq (pc' := 521) (st' := [_]) (ws' := WX A G a o s R 1 (cpz a sn 0 0 26181) t n κ ++ WM hm ms mp mq mt mpa msh mo mtu G sv past s sq bb t n pa sh ot tu) rfl rfl rfl rfl ?_
    refine V.aload_n (q := 522) F dL_law_521 rfl rfl rfl ?_
    refine V.callM (q := 525) F 27 9 rfl rfl nd9 dL_law_522 rfl (c_X7_keep l G hm ms mp mq mt mpa msh mo mtu a sv past sq t pa sh ot tu s bb n h.2.1 h.1 h.2.2.2.1 h.2.2.2.2.1 h.2.2.2.2.2.2.2.1 h.2.2.2.2.2.2.2.2.1) gL_law_X7_keep rfl rfl ydX7_keep ⟨Nat.le_of_ble_eq_true rfl, Nat.le_of_ble_eq_true rfl⟩ (ci := 7) rfl rfl rfl rfl (Nat.le_of_ble_eq_true rfl) ⟨Nat.le_of_ble_eq_true rfl, Nat.le_of_ble_eq_true rfl⟩ (fun r9 w9 h9 => ?_)
    obtain ⟨sv', pa, sh, ot, tu, rfl, hneg2, hpos2⟩ := h9
    obtain ⟨hR9, e9⟩ := hpos2 hs
    subst e9
    refine V.eq (pc' := 525) (st' := [_, _]) (ws' := WX A G a o s R 1 (cpz a sn 0 0 26181) t n κ ++ WM hm ms mp mq mt mpa msh mo mtu G sv' past s (cpz sv sq 0 0 7157) 1 t n pa sh ot tu) rfl rfl rfl rfl ?_
    refine V.isame (tgt := 1072) F dL_law_525 (by decide) ?_
    exact kk _ _ _ _ _ _ _ _ _ _ _ _ _ _ _ _ (by subst hR9; exact h.keep)
set_option maxHeartbeats 4000000 in
set_option maxRecDepth 20000 in
theorem lcase_12 {X : Cx} {l : Launch} {G : Gx} {A : Nat → Nat} {hm ms mp mq mt mpa msh mo mtu b L : Nat} {xs : Nat → Int32} (F : Fx X (YL l G)) (S : SX X b L xs) (hL : L ≤ 3072) {i : Int} (hi : 0 ≤ i ∧ i + 6 ≤ (L : Int)) {a R sn t sv past sq pa sh ot tu : Int → Int} {o s bb n : Int} {κ : Scr} (h : LI a o s R bb sn t n sv past sq) (kk : KN X l G A hm ms mp mq mt mpa msh mo mtu b i) : V X (YL l G) 36 202478 530 [some (.ref b), some (.ref (A 0)), some (.ref hm), some (.int (zI i))] [] (WX A G a o s R bb sn t n κ ++ WM hm ms mp mq mt mpa msh mo mtu G sv past s sq bb t n pa sh ot tu) := by
  refine V.aload_n (q := 531) F dL_law_530 rfl rfl rfl ?_
  refine V.callX (q := 534) F 27 rfl nd27 dL_law_531 rfl (c_X6_restore l G A a κ.1.1 R sn t κ.1.2.1 κ.1.2.2.1 κ.1.2.2.2.1 κ.1.2.2.2.2 κ.2.1.1 κ.2.1.2.1 κ.2.1.2.2 κ.2.2.1.1 κ.2.2.1.2.1 κ.2.2.1.2.2 κ.2.2.2.1.1 κ.2.2.2.1.2.1 κ.2.2.2.1.2.2 o s bb n κ.2.2.2.2.1 κ.2.2.2.2.2.1 κ.2.2.2.2.2.2.1 κ.2.2.2.2.2.2.2.1 κ.2.2.2.2.2.2.2.2.1 κ.2.2.2.2.2.2.2.2.2.1 κ.2.2.2.2.2.2.2.2.2.2.1 κ.2.2.2.2.2.2.2.2.2.2.2 h.1 h.2.2.1 h.2.2.2.1 h.2.2.2.2.1 h.2.2.2.2.2.2.2.1 h.2.2.2.2.2.2.2.2.1 h.2.2.2.2.2.1) gL_law_X6_restore rfl rfl ydX6_restore ⟨Nat.le_of_ble_eq_true rfl, Nat.le_of_ble_eq_true rfl⟩ (ci := 6) rfl rfl rfl rfl (Nat.le_of_ble_eq_true rfl) ⟨Nat.le_of_ble_eq_true rfl, Nat.le_of_ble_eq_true rfl⟩ (fun r9 w9 h9 => ?_)
  obtain ⟨κ, rfl, hneg, hpos⟩ := h9
  rcases Int.lt_or_le (rRest sn a bb) 0 with hs | hs
  · have e9 := hneg hs
    subst e9
    refine V.eq (pc' := 534) (st' := [_]) (ws' := WX A G a o s R bb sn t n κ ++ WM hm ms mp mq mt mpa msh mo mtu G sv past s sq bb t n pa sh ot tu) rfl rfl rfl rfl ?_
    refine V.aload_n (q := 535) F dL_law_534 rfl rfl rfl ?_
    refine V.callM (q := 538) F 27 9 rfl rfl nd9 dL_law_535 rfl (c_X7_restore l G hm ms mp mq mt mpa msh mo mtu a sv past sq t pa sh ot tu s bb n (cpz sn a 0 0 26181) h.2.1 h.1 h.2.2.2.1 h.2.2.2.2.1 h.2.2.2.2.2.2.2.1 h.2.2.2.2.2.2.2.2.1 (fun e => (h.an e).1) (fun e => (h.an e).2)) gL_law_X7_restore rfl rfl ydX7_restore ⟨Nat.le_of_ble_eq_true rfl, Nat.le_of_ble_eq_true rfl⟩ (ci := 7) rfl rfl rfl rfl (Nat.le_of_ble_eq_true rfl) ⟨Nat.le_of_ble_eq_true rfl, Nat.le_of_ble_eq_true rfl⟩ (fun r9 w9 h9 => ?_)
    obtain ⟨sv', pa, sh, ot, tu, rfl, hneg2, hpos2⟩ := h9
    have e9 := hneg2 hs
    subst e9
    refine V.eq (pc' := 538) (st' := [_, _]) (ws' := WX A G a o s R bb sn t n κ ++ WM hm ms mp mq mt mpa msh mo mtu G sv past s sq bb t n pa sh ot tu) rfl rfl rfl rfl ?_
    refine V.isame (tgt := 1072) F dL_law_538 (by decide) ?_
    exact kk _ _ _ _ _ _ _ _ _ _ _ _ _ _ _ _ h
  · have e9 := hpos hs
    subst e9
    refine V.eq (pc' := 534) (st' := [_]) (ws' := WX A G (cpz sn a 0 0 26181) (oN o s) (sN s) (RN a o s R) bb sn t n κ ++ WM hm ms mp mq mt mpa msh mo mtu G sv past s sq bb t n pa sh ot tu) rfl rfl rfl rfl ?_
    refine V.aload_n (q := 535) F dL_law_534 rfl rfl rfl ?_
    refine V.callM (q := 538) F 27 9 rfl rfl nd9 dL_law_535 rfl (c_X7_restore l G hm ms mp mq mt mpa msh mo mtu a sv past sq t pa sh ot tu s bb n (cpz sn a 0 0 26181) h.2.1 h.1 h.2.2.2.1 h.2.2.2.2.1 h.2.2.2.2.2.2.2.1 h.2.2.2.2.2.2.2.2.1 (fun e => (h.an e).1) (fun e => (h.an e).2)) gL_law_X7_restore rfl rfl ydX7_restore ⟨Nat.le_of_ble_eq_true rfl, Nat.le_of_ble_eq_true rfl⟩ (ci := 7) rfl rfl rfl rfl (Nat.le_of_ble_eq_true rfl) ⟨Nat.le_of_ble_eq_true rfl, Nat.le_of_ble_eq_true rfl⟩ (fun r9 w9 h9 => ?_)
    obtain ⟨sv', pa, sh, ot, tu, rfl, hneg2, hpos2⟩ := h9
    obtain ⟨hR9, e9⟩ := hpos2 hs
    subst e9
    refine V.eq (pc' := 538) (st' := [_, _]) (ws' := WX A G (cpz sn a 0 0 26181) (oN o s) (sN s) (RN a o s R) bb sn t n κ ++ WM hm ms mp mq mt mpa msh mo mtu G sv' (PN sv s past) (sN s) sq bb t n pa sh ot tu) rfl rfl rfl rfl ?_
    refine V.isame (tgt := 1072) F dL_law_538 (by decide) ?_
    exact kk _ _ _ _ _ _ _ _ _ _ _ _ _ _ _ _ (h.rem (h.an (by have hb9 := h.2.2.2.2.1; unfold rRest at hs; omega)).2 hR9)
set_option maxHeartbeats 4000000 in
set_option maxRecDepth 20000 in
theorem lcase_13 {X : Cx} {l : Launch} {G : Gx} {A : Nat → Nat} {hm ms mp mq mt mpa msh mo mtu b L : Nat} {xs : Nat → Int32} (F : Fx X (YL l G)) (S : SX X b L xs) (hL : L ≤ 3072) {i : Int} (hi : 0 ≤ i ∧ i + 6 ≤ (L : Int)) {a R sn t sv past sq pa sh ot tu : Int → Int} {o s bb n : Int} {κ : Scr} (h : LI a o s R bb sn t n sv past sq) (kk : KN X l G A hm ms mp mq mt mpa msh mo mtu b i) : V X (YL l G) 36 202478 543 [some (.ref b), some (.ref (A 0)), some (.ref hm), some (.int (zI i))] [] (WX A G a o s R bb sn t n κ ++ WM hm ms mp mq mt mpa msh mo mtu G sv past s sq bb t n pa sh ot tu) := by
  refine V.aload_n (q := 544) F dL_law_543 rfl rfl rfl ?_
  refine V.aload_n (q := 545) F dL_law_544 rfl rfl rfl ?_
  refine V.iload_n (q := 546) F dL_law_545 rfl rfl rfl ?_
  refine V.iconst (q := 547) F dL_law_546 rfl ?_
  refine V.iadd (q := 548) F dL_law_547 rfl ?_
  refine V.sld (q := 549) F S dL_law_548 rfl hL (by omega) ?_
  refine V.aload_n (q := 550) F dL_law_549 rfl rfl rfl ?_
  refine V.iload_n (q := 551) F dL_law_550 rfl rfl rfl ?_
  refine V.iconst (q := 552) F dL_law_551 rfl ?_
  refine V.iadd (q := 553) F dL_law_552 rfl ?_
  refine V.sld (q := 554) F S dL_law_553 rfl hL (by omega) ?_
  refine V.aload_n (q := 555) F dL_law_554 rfl rfl rfl ?_
  refine V.iload_n (q := 556) F dL_law_555 rfl rfl rfl ?_
  refine V.iconst (q := 557) F dL_law_556 rfl ?_
  refine V.iadd (q := 558) F dL_law_557 rfl ?_
  refine V.sld (q := 559) F S dL_law_558 rfl hL (by omega) ?_
  refine V.callX (q := 562) F 27 rfl nd27 dL_law_559 rfl (c_X6_rose l G A a κ.1.1 R sn t κ.1.2.1 κ.1.2.2.1 κ.1.2.2.2.1 κ.1.2.2.2.2 κ.2.1.1 κ.2.1.2.1 κ.2.1.2.2 κ.2.2.1.1 κ.2.2.1.2.1 κ.2.2.1.2.2 κ.2.2.2.1.1 κ.2.2.2.1.2.1 κ.2.2.2.1.2.2 o s bb n κ.2.2.2.2.1 κ.2.2.2.2.2.1 κ.2.2.2.2.2.2.1 κ.2.2.2.2.2.2.2.1 κ.2.2.2.2.2.2.2.2.1 κ.2.2.2.2.2.2.2.2.2.1 κ.2.2.2.2.2.2.2.2.2.2.1 κ.2.2.2.2.2.2.2.2.2.2.2 (scz xs (i + 1)) (scz xs (i + 2)) (scz xs (i + 3)) h.1 h.2.2.1 h.2.2.2.1 h.2.2.2.2.1 h.2.2.2.2.2.2.2.1 h.2.2.2.2.2.2.2.2.1 (scz_rng xs _) (scz_rng xs _) (scz_rng xs _)) gL_law_X6_rose rfl rfl ydX6_rose ⟨Nat.le_of_ble_eq_true rfl, Nat.le_of_ble_eq_true rfl⟩ (ci := 6) rfl rfl rfl rfl (Nat.le_of_ble_eq_true rfl) ⟨Nat.le_of_ble_eq_true rfl, Nat.le_of_ble_eq_true rfl⟩ (fun r9 w9 h9 => ?_)
  obtain ⟨κ, rfl, rfl⟩ := h9
  refine V.eq (pc' := 562) (st' := [_]) (ws' := WX A G a o s R bb sn t n κ ++ WM hm ms mp mq mt mpa msh mo mtu G sv past s sq bb t n pa sh ot tu) rfl rfl rfl rfl ?_
  refine V.aload_n (q := 563) F dL_law_562 rfl rfl rfl ?_
  refine V.aload_n (q := 564) F dL_law_563 rfl rfl rfl ?_
  refine V.iload_n (q := 565) F dL_law_564 rfl rfl rfl ?_
  refine V.iconst (q := 566) F dL_law_565 rfl ?_
  refine V.iadd (q := 567) F dL_law_566 rfl ?_
  refine V.sld (q := 568) F S dL_law_567 rfl hL (by omega) ?_
  refine V.aload_n (q := 569) F dL_law_568 rfl rfl rfl ?_
  refine V.iload_n (q := 570) F dL_law_569 rfl rfl rfl ?_
  refine V.iconst (q := 571) F dL_law_570 rfl ?_
  refine V.iadd (q := 572) F dL_law_571 rfl ?_
  refine V.sld (q := 573) F S dL_law_572 rfl hL (by omega) ?_
  refine V.aload_n (q := 574) F dL_law_573 rfl rfl rfl ?_
  refine V.iload_n (q := 575) F dL_law_574 rfl rfl rfl ?_
  refine V.iconst (q := 576) F dL_law_575 rfl ?_
  refine V.iadd (q := 577) F dL_law_576 rfl ?_
  refine V.sld (q := 578) F S dL_law_577 rfl hL (by omega) ?_
  refine V.callM (q := 581) F 27 9 rfl rfl nd9 dL_law_578 rfl (c_X7_rose l G hm ms mp mq mt mpa msh mo mtu a sv past sq t pa sh ot tu s bb n (scz xs (i + 1)) (scz xs (i + 2)) (scz xs (i + 3)) h.2.1 h.1 h.2.2.2.1 h.2.2.2.2.1 h.2.2.2.2.2.2.2.1 h.2.2.2.2.2.2.2.2.1 (scz_rng xs _) (scz_rng xs _) (scz_rng xs _)) gL_law_X7_rose rfl rfl ydX7_rose ⟨Nat.le_of_ble_eq_true rfl, Nat.le_of_ble_eq_true rfl⟩ (ci := 7) rfl rfl rfl rfl (Nat.le_of_ble_eq_true rfl) ⟨Nat.le_of_ble_eq_true rfl, Nat.le_of_ble_eq_true rfl⟩ (fun r9 w9 h9 => ?_)
  obtain ⟨pa, sh, ot, tu, rfl, rfl⟩ := h9
  refine V.eq (pc' := 581) (st' := [_, _]) (ws' := WX A G a o s R bb sn t n κ ++ WM hm ms mp mq mt mpa msh mo mtu G sv past s sq bb t n pa sh ot tu) rfl rfl rfl rfl ?_
  refine V.isame (tgt := 1072) F dL_law_581 (by decide) ?_
  exact kk _ _ _ _ _ _ _ _ _ _ _ _ _ _ _ _ h
set_option maxHeartbeats 4000000 in
set_option maxRecDepth 20000 in
theorem lcase_14 {X : Cx} {l : Launch} {G : Gx} {A : Nat → Nat} {hm ms mp mq mt mpa msh mo mtu b L : Nat} {xs : Nat → Int32} (F : Fx X (YL l G)) (S : SX X b L xs) (hL : L ≤ 3072) {i : Int} (hi : 0 ≤ i ∧ i + 6 ≤ (L : Int)) {a R sn t sv past sq pa sh ot tu : Int → Int} {o s bb n : Int} {κ : Scr} (h : LI a o s R bb sn t n sv past sq) (kk : KN X l G A hm ms mp mq mt mpa msh mo mtu b i) : V X (YL l G) 36 202478 586 [some (.ref b), some (.ref (A 0)), some (.ref hm), some (.int (zI i))] [] (WX A G a o s R bb sn t n κ ++ WM hm ms mp mq mt mpa msh mo mtu G sv past s sq bb t n pa sh ot tu) := by
  refine V.aload_n (q := 587) F dL_law_586 rfl rfl rfl ?_
  refine V.aload_n (q := 588) F dL_law_587 rfl rfl rfl ?_
  refine V.iload_n (q := 589) F dL_law_588 rfl rfl rfl ?_
  refine V.iconst (q := 590) F dL_law_589 rfl ?_
  refine V.iadd (q := 591) F dL_law_590 rfl ?_
  refine V.sld (q := 592) F S dL_law_591 rfl hL (by omega) ?_
  refine V.aload_n (q := 593) F dL_law_592 rfl rfl rfl ?_
  refine V.iload_n (q := 594) F dL_law_593 rfl rfl rfl ?_
  refine V.iconst (q := 595) F dL_law_594 rfl ?_
  refine V.iadd (q := 596) F dL_law_595 rfl ?_
  refine V.sld (q := 597) F S dL_law_596 rfl hL (by omega) ?_
  refine V.aload_n (q := 598) F dL_law_597 rfl rfl rfl ?_
  refine V.iload_n (q := 599) F dL_law_598 rfl rfl rfl ?_
  refine V.iconst (q := 600) F dL_law_599 rfl ?_
  refine V.iadd (q := 601) F dL_law_600 rfl ?_
  refine V.sld (q := 602) F S dL_law_601 rfl hL (by omega) ?_
  refine V.aload_n (q := 603) F dL_law_602 rfl rfl rfl ?_
  refine V.iload_n (q := 604) F dL_law_603 rfl rfl rfl ?_
  refine V.iconst (q := 605) F dL_law_604 rfl ?_
  refine V.iadd (q := 606) F dL_law_605 rfl ?_
  refine V.sld (q := 607) F S dL_law_606 rfl hL (by omega) ?_
  refine V.callX (q := 610) F 27 rfl nd27 dL_law_607 rfl (c_X6_hours l G A a κ.1.1 R sn t κ.1.2.1 κ.1.2.2.1 κ.1.2.2.2.1 κ.1.2.2.2.2 κ.2.1.1 κ.2.1.2.1 κ.2.1.2.2 κ.2.2.1.1 κ.2.2.1.2.1 κ.2.2.1.2.2 κ.2.2.2.1.1 κ.2.2.2.1.2.1 κ.2.2.2.1.2.2 o s bb n κ.2.2.2.2.1 κ.2.2.2.2.2.1 κ.2.2.2.2.2.2.1 κ.2.2.2.2.2.2.2.1 κ.2.2.2.2.2.2.2.2.1 κ.2.2.2.2.2.2.2.2.2.1 κ.2.2.2.2.2.2.2.2.2.2.1 κ.2.2.2.2.2.2.2.2.2.2.2 (scz xs (i + 1)) (scz xs (i + 2)) (scz xs (i + 3)) (scz xs (i + 4)) h.1 h.2.2.1 h.2.2.2.1 h.2.2.2.2.1 h.2.2.2.2.2.2.2.1 h.2.2.2.2.2.2.2.2.1 (scz_rng xs _) (scz_rng xs _) (scz_rng xs _) (scz_rng xs _)) gL_law_X6_hours rfl rfl ydX6_hours ⟨Nat.le_of_ble_eq_true rfl, Nat.le_of_ble_eq_true rfl⟩ (ci := 6) rfl rfl rfl rfl (Nat.le_of_ble_eq_true rfl) ⟨Nat.le_of_ble_eq_true rfl, Nat.le_of_ble_eq_true rfl⟩ (fun r9 w9 h9 => ?_)
  obtain ⟨κ, rfl, rfl⟩ := h9
  refine V.eq (pc' := 610) (st' := [_]) (ws' := WX A G a o s R bb sn t n κ ++ WM hm ms mp mq mt mpa msh mo mtu G sv past s sq bb t n pa sh ot tu) rfl rfl rfl rfl ?_
  refine V.aload_n (q := 611) F dL_law_610 rfl rfl rfl ?_
  refine V.aload_n (q := 612) F dL_law_611 rfl rfl rfl ?_
  refine V.iload_n (q := 613) F dL_law_612 rfl rfl rfl ?_
  refine V.iconst (q := 614) F dL_law_613 rfl ?_
  refine V.iadd (q := 615) F dL_law_614 rfl ?_
  refine V.sld (q := 616) F S dL_law_615 rfl hL (by omega) ?_
  refine V.aload_n (q := 617) F dL_law_616 rfl rfl rfl ?_
  refine V.iload_n (q := 618) F dL_law_617 rfl rfl rfl ?_
  refine V.iconst (q := 619) F dL_law_618 rfl ?_
  refine V.iadd (q := 620) F dL_law_619 rfl ?_
  refine V.sld (q := 621) F S dL_law_620 rfl hL (by omega) ?_
  refine V.aload_n (q := 622) F dL_law_621 rfl rfl rfl ?_
  refine V.iload_n (q := 623) F dL_law_622 rfl rfl rfl ?_
  refine V.iconst (q := 624) F dL_law_623 rfl ?_
  refine V.iadd (q := 625) F dL_law_624 rfl ?_
  refine V.sld (q := 626) F S dL_law_625 rfl hL (by omega) ?_
  refine V.aload_n (q := 627) F dL_law_626 rfl rfl rfl ?_
  refine V.iload_n (q := 628) F dL_law_627 rfl rfl rfl ?_
  refine V.iconst (q := 629) F dL_law_628 rfl ?_
  refine V.iadd (q := 630) F dL_law_629 rfl ?_
  refine V.sld (q := 631) F S dL_law_630 rfl hL (by omega) ?_
  refine V.callM (q := 634) F 27 9 rfl rfl nd9 dL_law_631 rfl (c_X7_hours l G hm ms mp mq mt mpa msh mo mtu a sv past sq t pa sh ot tu s bb n (scz xs (i + 1)) (scz xs (i + 2)) (scz xs (i + 3)) (scz xs (i + 4)) h.2.1 h.1 h.2.2.2.1 h.2.2.2.2.1 h.2.2.2.2.2.2.2.1 h.2.2.2.2.2.2.2.2.1 (scz_rng xs _) (scz_rng xs _) (scz_rng xs _) (scz_rng xs _)) gL_law_X7_hours rfl rfl ydX7_hours ⟨Nat.le_of_ble_eq_true rfl, Nat.le_of_ble_eq_true rfl⟩ (ci := 7) rfl rfl rfl rfl (Nat.le_of_ble_eq_true rfl) ⟨Nat.le_of_ble_eq_true rfl, Nat.le_of_ble_eq_true rfl⟩ (fun r9 w9 h9 => ?_)
  obtain ⟨pa, sh, ot, tu, rfl, rfl⟩ := h9
  refine V.eq (pc' := 634) (st' := [_, _]) (ws' := WX A G a o s R bb sn t n κ ++ WM hm ms mp mq mt mpa msh mo mtu G sv past s sq bb t n pa sh ot tu) rfl rfl rfl rfl ?_
  refine V.isame (tgt := 1072) F dL_law_634 (by decide) ?_
  exact kk _ _ _ _ _ _ _ _ _ _ _ _ _ _ _ _ h
set_option maxHeartbeats 4000000 in
set_option maxRecDepth 20000 in
theorem lcase_15 {X : Cx} {l : Launch} {G : Gx} {A : Nat → Nat} {hm ms mp mq mt mpa msh mo mtu b L : Nat} {xs : Nat → Int32} (F : Fx X (YL l G)) (S : SX X b L xs) (hL : L ≤ 3072) {i : Int} (hi : 0 ≤ i ∧ i + 6 ≤ (L : Int)) {a R sn t sv past sq pa sh ot tu : Int → Int} {o s bb n : Int} {κ : Scr} (h : LI a o s R bb sn t n sv past sq) (kk : KN X l G A hm ms mp mq mt mpa msh mo mtu b i) : V X (YL l G) 36 202478 639 [some (.ref b), some (.ref (A 0)), some (.ref hm), some (.int (zI i))] [] (WX A G a o s R bb sn t n κ ++ WM hm ms mp mq mt mpa msh mo mtu G sv past s sq bb t n pa sh ot tu) := by
  refine V.aload_n (q := 640) F dL_law_639 rfl rfl rfl ?_
  refine V.aload_n (q := 641) F dL_law_640 rfl rfl rfl ?_
  refine V.iload_n (q := 642) F dL_law_641 rfl rfl rfl ?_
  refine V.iconst (q := 643) F dL_law_642 rfl ?_
  refine V.iadd (q := 644) F dL_law_643 rfl ?_
  refine V.sld (q := 645) F S dL_law_644 rfl hL (by omega) ?_
  refine V.aload_n (q := 646) F dL_law_645 rfl rfl rfl ?_
  refine V.iload_n (q := 647) F dL_law_646 rfl rfl rfl ?_
  refine V.iconst (q := 648) F dL_law_647 rfl ?_
  refine V.iadd (q := 649) F dL_law_648 rfl ?_
  refine V.sld (q := 650) F S dL_law_649 rfl hL (by omega) ?_
  refine V.aload_n (q := 651) F dL_law_650 rfl rfl rfl ?_
  refine V.iload_n (q := 652) F dL_law_651 rfl rfl rfl ?_
  refine V.iconst (q := 653) F dL_law_652 rfl ?_
  refine V.iadd (q := 654) F dL_law_653 rfl ?_
  refine V.sld (q := 655) F S dL_law_654 rfl hL (by omega) ?_
  refine V.aload_n (q := 656) F dL_law_655 rfl rfl rfl ?_
  refine V.iload_n (q := 657) F dL_law_656 rfl rfl rfl ?_
  refine V.iconst (q := 658) F dL_law_657 rfl ?_
  refine V.iadd (q := 659) F dL_law_658 rfl ?_
  refine V.sld (q := 660) F S dL_law_659 rfl hL (by omega) ?_
  refine V.callX (q := 663) F 27 rfl nd27 dL_law_660 rfl (c_X6_share l G A a κ.1.1 R sn t κ.1.2.1 κ.1.2.2.1 κ.1.2.2.2.1 κ.1.2.2.2.2 κ.2.1.1 κ.2.1.2.1 κ.2.1.2.2 κ.2.2.1.1 κ.2.2.1.2.1 κ.2.2.1.2.2 κ.2.2.2.1.1 κ.2.2.2.1.2.1 κ.2.2.2.1.2.2 o s bb n κ.2.2.2.2.1 κ.2.2.2.2.2.1 κ.2.2.2.2.2.2.1 κ.2.2.2.2.2.2.2.1 κ.2.2.2.2.2.2.2.2.1 κ.2.2.2.2.2.2.2.2.2.1 κ.2.2.2.2.2.2.2.2.2.2.1 κ.2.2.2.2.2.2.2.2.2.2.2 (scz xs (i + 1)) (scz xs (i + 2)) (scz xs (i + 3)) (scz xs (i + 4)) h.1 h.2.2.1 h.2.2.2.1 h.2.2.2.2.1 h.2.2.2.2.2.2.2.1 h.2.2.2.2.2.2.2.2.1 (scz_rng xs _) (scz_rng xs _) (scz_rng xs _) (scz_rng xs _)) gL_law_X6_share rfl rfl ydX6_share ⟨Nat.le_of_ble_eq_true rfl, Nat.le_of_ble_eq_true rfl⟩ (ci := 6) rfl rfl rfl rfl (Nat.le_of_ble_eq_true rfl) ⟨Nat.le_of_ble_eq_true rfl, Nat.le_of_ble_eq_true rfl⟩ (fun r9 w9 h9 => ?_)
  obtain ⟨κ, rfl, rfl⟩ := h9
  refine V.eq (pc' := 663) (st' := [_]) (ws' := WX A G a o s R bb sn t n κ ++ WM hm ms mp mq mt mpa msh mo mtu G sv past s sq bb t n pa sh ot tu) rfl rfl rfl rfl ?_
  refine V.aload_n (q := 664) F dL_law_663 rfl rfl rfl ?_
  refine V.aload_n (q := 665) F dL_law_664 rfl rfl rfl ?_
  refine V.iload_n (q := 666) F dL_law_665 rfl rfl rfl ?_
  refine V.iconst (q := 667) F dL_law_666 rfl ?_
  refine V.iadd (q := 668) F dL_law_667 rfl ?_
  refine V.sld (q := 669) F S dL_law_668 rfl hL (by omega) ?_
  refine V.aload_n (q := 670) F dL_law_669 rfl rfl rfl ?_
  refine V.iload_n (q := 671) F dL_law_670 rfl rfl rfl ?_
  refine V.iconst (q := 672) F dL_law_671 rfl ?_
  refine V.iadd (q := 673) F dL_law_672 rfl ?_
  refine V.sld (q := 674) F S dL_law_673 rfl hL (by omega) ?_
  refine V.aload_n (q := 675) F dL_law_674 rfl rfl rfl ?_
  refine V.iload_n (q := 676) F dL_law_675 rfl rfl rfl ?_
  refine V.iconst (q := 677) F dL_law_676 rfl ?_
  refine V.iadd (q := 678) F dL_law_677 rfl ?_
  refine V.sld (q := 679) F S dL_law_678 rfl hL (by omega) ?_
  refine V.aload_n (q := 680) F dL_law_679 rfl rfl rfl ?_
  refine V.iload_n (q := 681) F dL_law_680 rfl rfl rfl ?_
  refine V.iconst (q := 682) F dL_law_681 rfl ?_
  refine V.iadd (q := 683) F dL_law_682 rfl ?_
  refine V.sld (q := 684) F S dL_law_683 rfl hL (by omega) ?_
  refine V.callM (q := 687) F 27 9 rfl rfl nd9 dL_law_684 rfl (c_X7_share l G hm ms mp mq mt mpa msh mo mtu a sv past sq t pa sh ot tu s bb n (scz xs (i + 1)) (scz xs (i + 2)) (scz xs (i + 3)) (scz xs (i + 4)) h.2.1 h.1 h.2.2.2.1 h.2.2.2.2.1 h.2.2.2.2.2.2.2.1 h.2.2.2.2.2.2.2.2.1 (scz_rng xs _) (scz_rng xs _) (scz_rng xs _) (scz_rng xs _)) gL_law_X7_share rfl rfl ydX7_share ⟨Nat.le_of_ble_eq_true rfl, Nat.le_of_ble_eq_true rfl⟩ (ci := 7) rfl rfl rfl rfl (Nat.le_of_ble_eq_true rfl) ⟨Nat.le_of_ble_eq_true rfl, Nat.le_of_ble_eq_true rfl⟩ (fun r9 w9 h9 => ?_)
  obtain ⟨pa, sh, ot, tu, rfl, rfl⟩ := h9
  refine V.eq (pc' := 687) (st' := [_, _]) (ws' := WX A G a o s R bb sn t n κ ++ WM hm ms mp mq mt mpa msh mo mtu G sv past s sq bb t n pa sh ot tu) rfl rfl rfl rfl ?_
  refine V.isame (tgt := 1072) F dL_law_687 (by decide) ?_
  exact kk _ _ _ _ _ _ _ _ _ _ _ _ _ _ _ _ h
set_option maxHeartbeats 4000000 in
set_option maxRecDepth 20000 in
theorem lcase_16 {X : Cx} {l : Launch} {G : Gx} {A : Nat → Nat} {hm ms mp mq mt mpa msh mo mtu b L : Nat} {xs : Nat → Int32} (F : Fx X (YL l G)) (S : SX X b L xs) (hL : L ≤ 3072) {i : Int} (hi : 0 ≤ i ∧ i + 6 ≤ (L : Int)) {a R sn t sv past sq pa sh ot tu : Int → Int} {o s bb n : Int} {κ : Scr} (h : LI a o s R bb sn t n sv past sq) (kk : KN X l G A hm ms mp mq mt mpa msh mo mtu b i) : V X (YL l G) 36 202478 692 [some (.ref b), some (.ref (A 0)), some (.ref hm), some (.int (zI i))] [] (WX A G a o s R bb sn t n κ ++ WM hm ms mp mq mt mpa msh mo mtu G sv past s sq bb t n pa sh ot tu) := by
  refine V.aload_n (q := 693) F dL_law_692 rfl rfl rfl ?_
  refine V.aload_n (q := 694) F dL_law_693 rfl rfl rfl ?_
  refine V.iload_n (q := 695) F dL_law_694 rfl rfl rfl ?_
  refine V.iconst (q := 696) F dL_law_695 rfl ?_
  refine V.iadd (q := 697) F dL_law_696 rfl ?_
  refine V.sld (q := 698) F S dL_law_697 rfl hL (by omega) ?_
  refine V.aload_n (q := 699) F dL_law_698 rfl rfl rfl ?_
  refine V.iload_n (q := 700) F dL_law_699 rfl rfl rfl ?_
  refine V.iconst (q := 701) F dL_law_700 rfl ?_
  refine V.iadd (q := 702) F dL_law_701 rfl ?_
  refine V.sld (q := 703) F S dL_law_702 rfl hL (by omega) ?_
  refine V.aload_n (q := 704) F dL_law_703 rfl rfl rfl ?_
  refine V.iload_n (q := 705) F dL_law_704 rfl rfl rfl ?_
  refine V.iconst (q := 706) F dL_law_705 rfl ?_
  refine V.iadd (q := 707) F dL_law_706 rfl ?_
  refine V.sld (q := 708) F S dL_law_707 rfl hL (by omega) ?_
  refine V.aload_n (q := 709) F dL_law_708 rfl rfl rfl ?_
  refine V.iload_n (q := 710) F dL_law_709 rfl rfl rfl ?_
  refine V.iconst (q := 711) F dL_law_710 rfl ?_
  refine V.iadd (q := 712) F dL_law_711 rfl ?_
  refine V.sld (q := 713) F S dL_law_712 rfl hL (by omega) ?_
  refine V.callX (q := 716) F 27 rfl nd27 dL_law_713 rfl (c_X6_dealt l G A a κ.1.1 R sn t κ.1.2.1 κ.1.2.2.1 κ.1.2.2.2.1 κ.1.2.2.2.2 κ.2.1.1 κ.2.1.2.1 κ.2.1.2.2 κ.2.2.1.1 κ.2.2.1.2.1 κ.2.2.1.2.2 κ.2.2.2.1.1 κ.2.2.2.1.2.1 κ.2.2.2.1.2.2 o s bb n κ.2.2.2.2.1 κ.2.2.2.2.2.1 κ.2.2.2.2.2.2.1 κ.2.2.2.2.2.2.2.1 κ.2.2.2.2.2.2.2.2.1 κ.2.2.2.2.2.2.2.2.2.1 κ.2.2.2.2.2.2.2.2.2.2.1 κ.2.2.2.2.2.2.2.2.2.2.2 (scz xs (i + 1)) (scz xs (i + 2)) (scz xs (i + 3)) (scz xs (i + 4)) h.1 h.2.2.1 h.2.2.2.1 h.2.2.2.2.1 h.2.2.2.2.2.2.2.1 h.2.2.2.2.2.2.2.2.1 (scz_rng xs _) (scz_rng xs _) (scz_rng xs _) (scz_rng xs _)) gL_law_X6_dealt rfl rfl ydX6_dealt ⟨Nat.le_of_ble_eq_true rfl, Nat.le_of_ble_eq_true rfl⟩ (ci := 6) rfl rfl rfl rfl (Nat.le_of_ble_eq_true rfl) ⟨Nat.le_of_ble_eq_true rfl, Nat.le_of_ble_eq_true rfl⟩ (fun r9 w9 h9 => ?_)
  obtain ⟨κ, rfl, rfl⟩ := h9
  refine V.eq (pc' := 716) (st' := [_]) (ws' := WX A G a o s R bb sn t n κ ++ WM hm ms mp mq mt mpa msh mo mtu G sv past s sq bb t n pa sh ot tu) rfl rfl rfl rfl ?_
  refine V.aload_n (q := 717) F dL_law_716 rfl rfl rfl ?_
  refine V.aload_n (q := 718) F dL_law_717 rfl rfl rfl ?_
  refine V.iload_n (q := 719) F dL_law_718 rfl rfl rfl ?_
  refine V.iconst (q := 720) F dL_law_719 rfl ?_
  refine V.iadd (q := 721) F dL_law_720 rfl ?_
  refine V.sld (q := 722) F S dL_law_721 rfl hL (by omega) ?_
  refine V.aload_n (q := 723) F dL_law_722 rfl rfl rfl ?_
  refine V.iload_n (q := 724) F dL_law_723 rfl rfl rfl ?_
  refine V.iconst (q := 725) F dL_law_724 rfl ?_
  refine V.iadd (q := 726) F dL_law_725 rfl ?_
  refine V.sld (q := 727) F S dL_law_726 rfl hL (by omega) ?_
  refine V.aload_n (q := 728) F dL_law_727 rfl rfl rfl ?_
  refine V.iload_n (q := 729) F dL_law_728 rfl rfl rfl ?_
  refine V.iconst (q := 730) F dL_law_729 rfl ?_
  refine V.iadd (q := 731) F dL_law_730 rfl ?_
  refine V.sld (q := 732) F S dL_law_731 rfl hL (by omega) ?_
  refine V.aload_n (q := 733) F dL_law_732 rfl rfl rfl ?_
  refine V.iload_n (q := 734) F dL_law_733 rfl rfl rfl ?_
  refine V.iconst (q := 735) F dL_law_734 rfl ?_
  refine V.iadd (q := 736) F dL_law_735 rfl ?_
  refine V.sld (q := 737) F S dL_law_736 rfl hL (by omega) ?_
  refine V.callM (q := 740) F 27 9 rfl rfl nd9 dL_law_737 rfl (c_X7_dealt l G hm ms mp mq mt mpa msh mo mtu a sv past sq t pa sh ot tu s bb n (scz xs (i + 1)) (scz xs (i + 2)) (scz xs (i + 3)) (scz xs (i + 4)) h.2.1 h.1 h.2.2.2.1 h.2.2.2.2.1 h.2.2.2.2.2.2.2.1 h.2.2.2.2.2.2.2.2.1 (scz_rng xs _) (scz_rng xs _) (scz_rng xs _) (scz_rng xs _)) gL_law_X7_dealt rfl rfl ydX7_dealt ⟨Nat.le_of_ble_eq_true rfl, Nat.le_of_ble_eq_true rfl⟩ (ci := 7) rfl rfl rfl rfl (Nat.le_of_ble_eq_true rfl) ⟨Nat.le_of_ble_eq_true rfl, Nat.le_of_ble_eq_true rfl⟩ (fun r9 w9 h9 => ?_)
  obtain ⟨pa, sh, ot, tu, rfl, rfl⟩ := h9
  refine V.eq (pc' := 740) (st' := [_, _]) (ws' := WX A G a o s R bb sn t n κ ++ WM hm ms mp mq mt mpa msh mo mtu G sv past s sq bb t n pa sh ot tu) rfl rfl rfl rfl ?_
  refine V.isame (tgt := 1072) F dL_law_740 (by decide) ?_
  exact kk _ _ _ _ _ _ _ _ _ _ _ _ _ _ _ _ h
set_option maxHeartbeats 4000000 in
set_option maxRecDepth 20000 in
theorem lcase_17 {X : Cx} {l : Launch} {G : Gx} {A : Nat → Nat} {hm ms mp mq mt mpa msh mo mtu b L : Nat} {xs : Nat → Int32} (F : Fx X (YL l G)) (S : SX X b L xs) (hL : L ≤ 3072) {i : Int} (hi : 0 ≤ i ∧ i + 6 ≤ (L : Int)) {a R sn t sv past sq pa sh ot tu : Int → Int} {o s bb n : Int} {κ : Scr} (h : LI a o s R bb sn t n sv past sq) (kk : KN X l G A hm ms mp mq mt mpa msh mo mtu b i) : V X (YL l G) 36 202478 745 [some (.ref b), some (.ref (A 0)), some (.ref hm), some (.int (zI i))] [] (WX A G a o s R bb sn t n κ ++ WM hm ms mp mq mt mpa msh mo mtu G sv past s sq bb t n pa sh ot tu) := by
  refine V.aload_n (q := 746) F dL_law_745 rfl rfl rfl ?_
  refine V.aload_n (q := 747) F dL_law_746 rfl rfl rfl ?_
  refine V.iload_n (q := 748) F dL_law_747 rfl rfl rfl ?_
  refine V.iconst (q := 749) F dL_law_748 rfl ?_
  refine V.iadd (q := 750) F dL_law_749 rfl ?_
  refine V.sld (q := 751) F S dL_law_750 rfl hL (by omega) ?_
  refine V.aload_n (q := 752) F dL_law_751 rfl rfl rfl ?_
  refine V.iload_n (q := 753) F dL_law_752 rfl rfl rfl ?_
  refine V.iconst (q := 754) F dL_law_753 rfl ?_
  refine V.iadd (q := 755) F dL_law_754 rfl ?_
  refine V.sld (q := 756) F S dL_law_755 rfl hL (by omega) ?_
  refine V.aload_n (q := 757) F dL_law_756 rfl rfl rfl ?_
  refine V.iload_n (q := 758) F dL_law_757 rfl rfl rfl ?_
  refine V.iconst (q := 759) F dL_law_758 rfl ?_
  refine V.iadd (q := 760) F dL_law_759 rfl ?_
  refine V.sld (q := 761) F S dL_law_760 rfl hL (by omega) ?_
  refine V.callX (q := 764) F 27 rfl nd27 dL_law_761 rfl (c_X6_quarter l G A a κ.1.1 R sn t κ.1.2.1 κ.1.2.2.1 κ.1.2.2.2.1 κ.1.2.2.2.2 κ.2.1.1 κ.2.1.2.1 κ.2.1.2.2 κ.2.2.1.1 κ.2.2.1.2.1 κ.2.2.1.2.2 κ.2.2.2.1.1 κ.2.2.2.1.2.1 κ.2.2.2.1.2.2 o s bb n κ.2.2.2.2.1 κ.2.2.2.2.2.1 κ.2.2.2.2.2.2.1 κ.2.2.2.2.2.2.2.1 κ.2.2.2.2.2.2.2.2.1 κ.2.2.2.2.2.2.2.2.2.1 κ.2.2.2.2.2.2.2.2.2.2.1 κ.2.2.2.2.2.2.2.2.2.2.2 (scz xs (i + 1)) (scz xs (i + 2)) (scz xs (i + 3)) h.1 h.2.2.1 h.2.2.2.1 h.2.2.2.2.1 h.2.2.2.2.2.2.2.1 h.2.2.2.2.2.2.2.2.1 (scz_rng xs _) (scz_rng xs _) (scz_rng xs _)) gL_law_X6_quarter rfl rfl ydX6_quarter ⟨Nat.le_of_ble_eq_true rfl, Nat.le_of_ble_eq_true rfl⟩ (ci := 6) rfl rfl rfl rfl (Nat.le_of_ble_eq_true rfl) ⟨Nat.le_of_ble_eq_true rfl, Nat.le_of_ble_eq_true rfl⟩ (fun r9 w9 h9 => ?_)
  obtain ⟨κ, rfl, rfl⟩ := h9
  refine V.eq (pc' := 764) (st' := [_]) (ws' := WX A G a o s R bb sn t n κ ++ WM hm ms mp mq mt mpa msh mo mtu G sv past s sq bb t n pa sh ot tu) rfl rfl rfl rfl ?_
  refine V.aload_n (q := 765) F dL_law_764 rfl rfl rfl ?_
  refine V.aload_n (q := 766) F dL_law_765 rfl rfl rfl ?_
  refine V.iload_n (q := 767) F dL_law_766 rfl rfl rfl ?_
  refine V.iconst (q := 768) F dL_law_767 rfl ?_
  refine V.iadd (q := 769) F dL_law_768 rfl ?_
  refine V.sld (q := 770) F S dL_law_769 rfl hL (by omega) ?_
  refine V.aload_n (q := 771) F dL_law_770 rfl rfl rfl ?_
  refine V.iload_n (q := 772) F dL_law_771 rfl rfl rfl ?_
  refine V.iconst (q := 773) F dL_law_772 rfl ?_
  refine V.iadd (q := 774) F dL_law_773 rfl ?_
  refine V.sld (q := 775) F S dL_law_774 rfl hL (by omega) ?_
  refine V.aload_n (q := 776) F dL_law_775 rfl rfl rfl ?_
  refine V.iload_n (q := 777) F dL_law_776 rfl rfl rfl ?_
  refine V.iconst (q := 778) F dL_law_777 rfl ?_
  refine V.iadd (q := 779) F dL_law_778 rfl ?_
  refine V.sld (q := 780) F S dL_law_779 rfl hL (by omega) ?_
  refine V.callM (q := 783) F 27 9 rfl rfl nd9 dL_law_780 rfl (c_X7_quarter l G hm ms mp mq mt mpa msh mo mtu a sv past sq t pa sh ot tu s bb n (scz xs (i + 1)) (scz xs (i + 2)) (scz xs (i + 3)) h.2.1 h.1 h.2.2.2.1 h.2.2.2.2.1 h.2.2.2.2.2.2.2.1 h.2.2.2.2.2.2.2.2.1 (scz_rng xs _) (scz_rng xs _) (scz_rng xs _)) gL_law_X7_quarter rfl rfl ydX7_quarter ⟨Nat.le_of_ble_eq_true rfl, Nat.le_of_ble_eq_true rfl⟩ (ci := 7) rfl rfl rfl rfl (Nat.le_of_ble_eq_true rfl) ⟨Nat.le_of_ble_eq_true rfl, Nat.le_of_ble_eq_true rfl⟩ (fun r9 w9 h9 => ?_)
  obtain ⟨pa, sh, ot, tu, rfl, rfl⟩ := h9
  refine V.eq (pc' := 783) (st' := [_, _]) (ws' := WX A G a o s R bb sn t n κ ++ WM hm ms mp mq mt mpa msh mo mtu G sv past s sq bb t n pa sh ot tu) rfl rfl rfl rfl ?_
  refine V.isame (tgt := 1072) F dL_law_783 (by decide) ?_
  exact kk _ _ _ _ _ _ _ _ _ _ _ _ _ _ _ _ h
set_option maxHeartbeats 4000000 in
set_option maxRecDepth 20000 in
theorem lcase_18 {X : Cx} {l : Launch} {G : Gx} {A : Nat → Nat} {hm ms mp mq mt mpa msh mo mtu b L : Nat} {xs : Nat → Int32} (F : Fx X (YL l G)) (S : SX X b L xs) (hL : L ≤ 3072) {i : Int} (hi : 0 ≤ i ∧ i + 6 ≤ (L : Int)) {a R sn t sv past sq pa sh ot tu : Int → Int} {o s bb n : Int} {κ : Scr} (h : LI a o s R bb sn t n sv past sq) (kk : KN X l G A hm ms mp mq mt mpa msh mo mtu b i) : V X (YL l G) 36 202478 788 [some (.ref b), some (.ref (A 0)), some (.ref hm), some (.int (zI i))] [] (WX A G a o s R bb sn t n κ ++ WM hm ms mp mq mt mpa msh mo mtu G sv past s sq bb t n pa sh ot tu) := by
  refine V.aload_n (q := 789) F dL_law_788 rfl rfl rfl ?_
  refine V.aload_n (q := 790) F dL_law_789 rfl rfl rfl ?_
  refine V.iload_n (q := 791) F dL_law_790 rfl rfl rfl ?_
  refine V.iconst (q := 792) F dL_law_791 rfl ?_
  refine V.iadd (q := 793) F dL_law_792 rfl ?_
  refine V.sld (q := 794) F S dL_law_793 rfl hL (by omega) ?_
  refine V.aload_n (q := 795) F dL_law_794 rfl rfl rfl ?_
  refine V.iload_n (q := 796) F dL_law_795 rfl rfl rfl ?_
  refine V.iconst (q := 797) F dL_law_796 rfl ?_
  refine V.iadd (q := 798) F dL_law_797 rfl ?_
  refine V.sld (q := 799) F S dL_law_798 rfl hL (by omega) ?_
  refine V.aload_n (q := 800) F dL_law_799 rfl rfl rfl ?_
  refine V.iload_n (q := 801) F dL_law_800 rfl rfl rfl ?_
  refine V.iconst (q := 802) F dL_law_801 rfl ?_
  refine V.iadd (q := 803) F dL_law_802 rfl ?_
  refine V.sld (q := 804) F S dL_law_803 rfl hL (by omega) ?_
  refine V.callX (q := 807) F 27 rfl nd27 dL_law_804 rfl (c_X6_excess l G A a κ.1.1 R sn t κ.1.2.1 κ.1.2.2.1 κ.1.2.2.2.1 κ.1.2.2.2.2 κ.2.1.1 κ.2.1.2.1 κ.2.1.2.2 κ.2.2.1.1 κ.2.2.1.2.1 κ.2.2.1.2.2 κ.2.2.2.1.1 κ.2.2.2.1.2.1 κ.2.2.2.1.2.2 o s bb n κ.2.2.2.2.1 κ.2.2.2.2.2.1 κ.2.2.2.2.2.2.1 κ.2.2.2.2.2.2.2.1 κ.2.2.2.2.2.2.2.2.1 κ.2.2.2.2.2.2.2.2.2.1 κ.2.2.2.2.2.2.2.2.2.2.1 κ.2.2.2.2.2.2.2.2.2.2.2 (scz xs (i + 1)) (scz xs (i + 2)) (scz xs (i + 3)) h.1 h.2.2.1 h.2.2.2.1 h.2.2.2.2.1 h.2.2.2.2.2.2.2.1 h.2.2.2.2.2.2.2.2.1 (scz_rng xs _) (scz_rng xs _) (scz_rng xs _)) gL_law_X6_excess rfl rfl ydX6_excess ⟨Nat.le_of_ble_eq_true rfl, Nat.le_of_ble_eq_true rfl⟩ (ci := 6) rfl rfl rfl rfl (Nat.le_of_ble_eq_true rfl) ⟨Nat.le_of_ble_eq_true rfl, Nat.le_of_ble_eq_true rfl⟩ (fun r9 w9 h9 => ?_)
  obtain ⟨κ, rfl, rfl⟩ := h9
  refine V.eq (pc' := 807) (st' := [_]) (ws' := WX A G a o s R bb sn t n κ ++ WM hm ms mp mq mt mpa msh mo mtu G sv past s sq bb t n pa sh ot tu) rfl rfl rfl rfl ?_
  refine V.aload_n (q := 808) F dL_law_807 rfl rfl rfl ?_
  refine V.aload_n (q := 809) F dL_law_808 rfl rfl rfl ?_
  refine V.iload_n (q := 810) F dL_law_809 rfl rfl rfl ?_
  refine V.iconst (q := 811) F dL_law_810 rfl ?_
  refine V.iadd (q := 812) F dL_law_811 rfl ?_
  refine V.sld (q := 813) F S dL_law_812 rfl hL (by omega) ?_
  refine V.aload_n (q := 814) F dL_law_813 rfl rfl rfl ?_
  refine V.iload_n (q := 815) F dL_law_814 rfl rfl rfl ?_
  refine V.iconst (q := 816) F dL_law_815 rfl ?_
  refine V.iadd (q := 817) F dL_law_816 rfl ?_
  refine V.sld (q := 818) F S dL_law_817 rfl hL (by omega) ?_
  refine V.aload_n (q := 819) F dL_law_818 rfl rfl rfl ?_
  refine V.iload_n (q := 820) F dL_law_819 rfl rfl rfl ?_
  refine V.iconst (q := 821) F dL_law_820 rfl ?_
  refine V.iadd (q := 822) F dL_law_821 rfl ?_
  refine V.sld (q := 823) F S dL_law_822 rfl hL (by omega) ?_
  refine V.callM (q := 826) F 27 9 rfl rfl nd9 dL_law_823 rfl (c_X7_excess l G hm ms mp mq mt mpa msh mo mtu a sv past sq t pa sh ot tu s bb n (scz xs (i + 1)) (scz xs (i + 2)) (scz xs (i + 3)) h.2.1 h.1 h.2.2.2.1 h.2.2.2.2.1 h.2.2.2.2.2.2.2.1 h.2.2.2.2.2.2.2.2.1 (scz_rng xs _) (scz_rng xs _) (scz_rng xs _)) gL_law_X7_excess rfl rfl ydX7_excess ⟨Nat.le_of_ble_eq_true rfl, Nat.le_of_ble_eq_true rfl⟩ (ci := 7) rfl rfl rfl rfl (Nat.le_of_ble_eq_true rfl) ⟨Nat.le_of_ble_eq_true rfl, Nat.le_of_ble_eq_true rfl⟩ (fun r9 w9 h9 => ?_)
  obtain ⟨pa, sh, ot, tu, rfl, rfl⟩ := h9
  refine V.eq (pc' := 826) (st' := [_, _]) (ws' := WX A G a o s R bb sn t n κ ++ WM hm ms mp mq mt mpa msh mo mtu G sv past s sq bb t n pa sh ot tu) rfl rfl rfl rfl ?_
  refine V.isame (tgt := 1072) F dL_law_826 (by decide) ?_
  exact kk _ _ _ _ _ _ _ _ _ _ _ _ _ _ _ _ h
set_option maxHeartbeats 4000000 in
set_option maxRecDepth 20000 in
theorem lcase_19 {X : Cx} {l : Launch} {G : Gx} {A : Nat → Nat} {hm ms mp mq mt mpa msh mo mtu b L : Nat} {xs : Nat → Int32} (F : Fx X (YL l G)) (S : SX X b L xs) (hL : L ≤ 3072) {i : Int} (hi : 0 ≤ i ∧ i + 6 ≤ (L : Int)) {a R sn t sv past sq pa sh ot tu : Int → Int} {o s bb n : Int} {κ : Scr} (h : LI a o s R bb sn t n sv past sq) (kk : KN X l G A hm ms mp mq mt mpa msh mo mtu b i) : V X (YL l G) 36 202478 831 [some (.ref b), some (.ref (A 0)), some (.ref hm), some (.int (zI i))] [] (WX A G a o s R bb sn t n κ ++ WM hm ms mp mq mt mpa msh mo mtu G sv past s sq bb t n pa sh ot tu) := by
  refine V.aload_n (q := 832) F dL_law_831 rfl rfl rfl ?_
  refine V.aload_n (q := 833) F dL_law_832 rfl rfl rfl ?_
  refine V.iload_n (q := 834) F dL_law_833 rfl rfl rfl ?_
  refine V.iconst (q := 835) F dL_law_834 rfl ?_
  refine V.iadd (q := 836) F dL_law_835 rfl ?_
  refine V.sld (q := 837) F S dL_law_836 rfl hL (by omega) ?_
  refine V.aload_n (q := 838) F dL_law_837 rfl rfl rfl ?_
  refine V.iload_n (q := 839) F dL_law_838 rfl rfl rfl ?_
  refine V.iconst (q := 840) F dL_law_839 rfl ?_
  refine V.iadd (q := 841) F dL_law_840 rfl ?_
  refine V.sld (q := 842) F S dL_law_841 rfl hL (by omega) ?_
  refine V.aload_n (q := 843) F dL_law_842 rfl rfl rfl ?_
  refine V.iload_n (q := 844) F dL_law_843 rfl rfl rfl ?_
  refine V.iconst (q := 845) F dL_law_844 rfl ?_
  refine V.iadd (q := 846) F dL_law_845 rfl ?_
  refine V.sld (q := 847) F S dL_law_846 rfl hL (by omega) ?_
  refine V.callX (q := 850) F 27 rfl nd27 dL_law_847 rfl (c_X6_unlike l G A a κ.1.1 R sn t κ.1.2.1 κ.1.2.2.1 κ.1.2.2.2.1 κ.1.2.2.2.2 κ.2.1.1 κ.2.1.2.1 κ.2.1.2.2 κ.2.2.1.1 κ.2.2.1.2.1 κ.2.2.1.2.2 κ.2.2.2.1.1 κ.2.2.2.1.2.1 κ.2.2.2.1.2.2 o s bb n κ.2.2.2.2.1 κ.2.2.2.2.2.1 κ.2.2.2.2.2.2.1 κ.2.2.2.2.2.2.2.1 κ.2.2.2.2.2.2.2.2.1 κ.2.2.2.2.2.2.2.2.2.1 κ.2.2.2.2.2.2.2.2.2.2.1 κ.2.2.2.2.2.2.2.2.2.2.2 (scz xs (i + 1)) (scz xs (i + 2)) (scz xs (i + 3)) h.1 h.2.2.1 h.2.2.2.1 h.2.2.2.2.1 h.2.2.2.2.2.2.2.1 h.2.2.2.2.2.2.2.2.1 (scz_rng xs _) (scz_rng xs _) (scz_rng xs _)) gL_law_X6_unlike rfl rfl ydX6_unlike ⟨Nat.le_of_ble_eq_true rfl, Nat.le_of_ble_eq_true rfl⟩ (ci := 6) rfl rfl rfl rfl (Nat.le_of_ble_eq_true rfl) ⟨Nat.le_of_ble_eq_true rfl, Nat.le_of_ble_eq_true rfl⟩ (fun r9 w9 h9 => ?_)
  obtain ⟨κ, rfl, rfl⟩ := h9
  refine V.eq (pc' := 850) (st' := [_]) (ws' := WX A G a o s R bb sn t n κ ++ WM hm ms mp mq mt mpa msh mo mtu G sv past s sq bb t n pa sh ot tu) rfl rfl rfl rfl ?_
  refine V.aload_n (q := 851) F dL_law_850 rfl rfl rfl ?_
  refine V.aload_n (q := 852) F dL_law_851 rfl rfl rfl ?_
  refine V.iload_n (q := 853) F dL_law_852 rfl rfl rfl ?_
  refine V.iconst (q := 854) F dL_law_853 rfl ?_
  refine V.iadd (q := 855) F dL_law_854 rfl ?_
  refine V.sld (q := 856) F S dL_law_855 rfl hL (by omega) ?_
  refine V.aload_n (q := 857) F dL_law_856 rfl rfl rfl ?_
  refine V.iload_n (q := 858) F dL_law_857 rfl rfl rfl ?_
  refine V.iconst (q := 859) F dL_law_858 rfl ?_
  refine V.iadd (q := 860) F dL_law_859 rfl ?_
  refine V.sld (q := 861) F S dL_law_860 rfl hL (by omega) ?_
  refine V.aload_n (q := 862) F dL_law_861 rfl rfl rfl ?_
  refine V.iload_n (q := 863) F dL_law_862 rfl rfl rfl ?_
  refine V.iconst (q := 864) F dL_law_863 rfl ?_
  refine V.iadd (q := 865) F dL_law_864 rfl ?_
  refine V.sld (q := 866) F S dL_law_865 rfl hL (by omega) ?_
  refine V.callM (q := 869) F 27 9 rfl rfl nd9 dL_law_866 rfl (c_X7_unlike l G hm ms mp mq mt mpa msh mo mtu a sv past sq t pa sh ot tu s bb n (scz xs (i + 1)) (scz xs (i + 2)) (scz xs (i + 3)) h.2.1 h.1 h.2.2.2.1 h.2.2.2.2.1 h.2.2.2.2.2.2.2.1 h.2.2.2.2.2.2.2.2.1 (scz_rng xs _) (scz_rng xs _) (scz_rng xs _)) gL_law_X7_unlike rfl rfl ydX7_unlike ⟨Nat.le_of_ble_eq_true rfl, Nat.le_of_ble_eq_true rfl⟩ (ci := 7) rfl rfl rfl rfl (Nat.le_of_ble_eq_true rfl) ⟨Nat.le_of_ble_eq_true rfl, Nat.le_of_ble_eq_true rfl⟩ (fun r9 w9 h9 => ?_)
  obtain ⟨pa, sh, ot, tu, rfl, rfl⟩ := h9
  refine V.eq (pc' := 869) (st' := [_, _]) (ws' := WX A G a o s R bb sn t n κ ++ WM hm ms mp mq mt mpa msh mo mtu G sv past s sq bb t n pa sh ot tu) rfl rfl rfl rfl ?_
  refine V.isame (tgt := 1072) F dL_law_869 (by decide) ?_
  exact kk _ _ _ _ _ _ _ _ _ _ _ _ _ _ _ _ h
set_option maxHeartbeats 4000000 in
set_option maxRecDepth 20000 in
theorem lcase_20 {X : Cx} {l : Launch} {G : Gx} {A : Nat → Nat} {hm ms mp mq mt mpa msh mo mtu b L : Nat} {xs : Nat → Int32} (F : Fx X (YL l G)) (S : SX X b L xs) (hL : L ≤ 3072) {i : Int} (hi : 0 ≤ i ∧ i + 6 ≤ (L : Int)) {a R sn t sv past sq pa sh ot tu : Int → Int} {o s bb n : Int} {κ : Scr} (h : LI a o s R bb sn t n sv past sq) (kk : KN X l G A hm ms mp mq mt mpa msh mo mtu b i) : V X (YL l G) 36 202478 874 [some (.ref b), some (.ref (A 0)), some (.ref hm), some (.int (zI i))] [] (WX A G a o s R bb sn t n κ ++ WM hm ms mp mq mt mpa msh mo mtu G sv past s sq bb t n pa sh ot tu) := by
  refine V.aload_n (q := 875) F dL_law_874 rfl rfl rfl ?_
  refine V.aload_n (q := 876) F dL_law_875 rfl rfl rfl ?_
  refine V.iload_n (q := 877) F dL_law_876 rfl rfl rfl ?_
  refine V.iconst (q := 878) F dL_law_877 rfl ?_
  refine V.iadd (q := 879) F dL_law_878 rfl ?_
  refine V.sld (q := 880) F S dL_law_879 rfl hL (by omega) ?_
  refine V.aload_n (q := 881) F dL_law_880 rfl rfl rfl ?_
  refine V.iload_n (q := 882) F dL_law_881 rfl rfl rfl ?_
  refine V.iconst (q := 883) F dL_law_882 rfl ?_
  refine V.iadd (q := 884) F dL_law_883 rfl ?_
  refine V.sld (q := 885) F S dL_law_884 rfl hL (by omega) ?_
  refine V.callX (q := 888) F 27 rfl nd27 dL_law_885 rfl (c_X6_seasonOf l G A a κ.1.1 R sn t κ.1.2.1 κ.1.2.2.1 κ.1.2.2.2.1 κ.1.2.2.2.2 κ.2.1.1 κ.2.1.2.1 κ.2.1.2.2 κ.2.2.1.1 κ.2.2.1.2.1 κ.2.2.1.2.2 κ.2.2.2.1.1 κ.2.2.2.1.2.1 κ.2.2.2.1.2.2 o s bb n κ.2.2.2.2.1 κ.2.2.2.2.2.1 κ.2.2.2.2.2.2.1 κ.2.2.2.2.2.2.2.1 κ.2.2.2.2.2.2.2.2.1 κ.2.2.2.2.2.2.2.2.2.1 κ.2.2.2.2.2.2.2.2.2.2.1 κ.2.2.2.2.2.2.2.2.2.2.2 (scz xs (i + 1)) (scz xs (i + 2)) h.1 h.2.2.1 h.2.2.2.1 h.2.2.2.2.1 h.2.2.2.2.2.2.2.1 h.2.2.2.2.2.2.2.2.1 (scz_rng xs _) (scz_rng xs _)) gL_law_X6_seasonOf rfl rfl ydX6_seasonOf ⟨Nat.le_of_ble_eq_true rfl, Nat.le_of_ble_eq_true rfl⟩ (ci := 6) rfl rfl rfl rfl (Nat.le_of_ble_eq_true rfl) ⟨Nat.le_of_ble_eq_true rfl, Nat.le_of_ble_eq_true rfl⟩ (fun r9 w9 h9 => ?_)
  obtain ⟨κ, rfl, rfl⟩ := h9
  refine V.eq (pc' := 888) (st' := [_]) (ws' := WX A G a o s R bb sn t n κ ++ WM hm ms mp mq mt mpa msh mo mtu G sv past s sq bb t n pa sh ot tu) rfl rfl rfl rfl ?_
  refine V.aload_n (q := 889) F dL_law_888 rfl rfl rfl ?_
  refine V.aload_n (q := 890) F dL_law_889 rfl rfl rfl ?_
  refine V.iload_n (q := 891) F dL_law_890 rfl rfl rfl ?_
  refine V.iconst (q := 892) F dL_law_891 rfl ?_
  refine V.iadd (q := 893) F dL_law_892 rfl ?_
  refine V.sld (q := 894) F S dL_law_893 rfl hL (by omega) ?_
  refine V.aload_n (q := 895) F dL_law_894 rfl rfl rfl ?_
  refine V.iload_n (q := 896) F dL_law_895 rfl rfl rfl ?_
  refine V.iconst (q := 897) F dL_law_896 rfl ?_
  refine V.iadd (q := 898) F dL_law_897 rfl ?_
  refine V.sld (q := 899) F S dL_law_898 rfl hL (by omega) ?_
  refine V.callM (q := 902) F 27 9 rfl rfl nd9 dL_law_899 rfl (c_X7_seasonOf l G hm ms mp mq mt mpa msh mo mtu a sv past sq t pa sh ot tu s bb n (scz xs (i + 1)) (scz xs (i + 2)) h.2.1 h.1 h.2.2.2.1 h.2.2.2.2.1 h.2.2.2.2.2.2.2.1 h.2.2.2.2.2.2.2.2.1 (scz_rng xs _) (scz_rng xs _)) gL_law_X7_seasonOf rfl rfl ydX7_seasonOf ⟨Nat.le_of_ble_eq_true rfl, Nat.le_of_ble_eq_true rfl⟩ (ci := 7) rfl rfl rfl rfl (Nat.le_of_ble_eq_true rfl) ⟨Nat.le_of_ble_eq_true rfl, Nat.le_of_ble_eq_true rfl⟩ (fun r9 w9 h9 => ?_)
  obtain ⟨pa, sh, ot, tu, rfl, rfl⟩ := h9
  refine V.eq (pc' := 902) (st' := [_, _]) (ws' := WX A G a o s R bb sn t n κ ++ WM hm ms mp mq mt mpa msh mo mtu G sv past s sq bb t n pa sh ot tu) rfl rfl rfl rfl ?_
  refine V.isame (tgt := 1072) F dL_law_902 (by decide) ?_
  exact kk _ _ _ _ _ _ _ _ _ _ _ _ _ _ _ _ h
set_option maxHeartbeats 4000000 in
set_option maxRecDepth 20000 in
theorem lcase_21 {X : Cx} {l : Launch} {G : Gx} {A : Nat → Nat} {hm ms mp mq mt mpa msh mo mtu b L : Nat} {xs : Nat → Int32} (F : Fx X (YL l G)) (S : SX X b L xs) (hL : L ≤ 3072) {i : Int} (hi : 0 ≤ i ∧ i + 6 ≤ (L : Int)) {a R sn t sv past sq pa sh ot tu : Int → Int} {o s bb n : Int} {κ : Scr} (h : LI a o s R bb sn t n sv past sq) (kk : KN X l G A hm ms mp mq mt mpa msh mo mtu b i) : V X (YL l G) 36 202478 907 [some (.ref b), some (.ref (A 0)), some (.ref hm), some (.int (zI i))] [] (WX A G a o s R bb sn t n κ ++ WM hm ms mp mq mt mpa msh mo mtu G sv past s sq bb t n pa sh ot tu) := by
  refine V.aload_n (q := 908) F dL_law_907 rfl rfl rfl ?_
  refine V.aload_n (q := 909) F dL_law_908 rfl rfl rfl ?_
  refine V.iload_n (q := 910) F dL_law_909 rfl rfl rfl ?_
  refine V.iconst (q := 911) F dL_law_910 rfl ?_
  refine V.iadd (q := 912) F dL_law_911 rfl ?_
  refine V.sld (q := 913) F S dL_law_912 rfl hL (by omega) ?_
  refine V.aload_n (q := 914) F dL_law_913 rfl rfl rfl ?_
  refine V.iload_n (q := 915) F dL_law_914 rfl rfl rfl ?_
  refine V.iconst (q := 916) F dL_law_915 rfl ?_
  refine V.iadd (q := 917) F dL_law_916 rfl ?_
  refine V.sld (q := 918) F S dL_law_917 rfl hL (by omega) ?_
  refine V.aload_n (q := 919) F dL_law_918 rfl rfl rfl ?_
  refine V.iload_n (q := 920) F dL_law_919 rfl rfl rfl ?_
  refine V.iconst (q := 921) F dL_law_920 rfl ?_
  refine V.iadd (q := 922) F dL_law_921 rfl ?_
  refine V.sld (q := 923) F S dL_law_922 rfl hL (by omega) ?_
  refine V.callX (q := 926) F 27 rfl nd27 dL_law_923 rfl (c_X6_plate l G A a κ.1.1 R sn t κ.1.2.1 κ.1.2.2.1 κ.1.2.2.2.1 κ.1.2.2.2.2 κ.2.1.1 κ.2.1.2.1 κ.2.1.2.2 κ.2.2.1.1 κ.2.2.1.2.1 κ.2.2.1.2.2 κ.2.2.2.1.1 κ.2.2.2.1.2.1 κ.2.2.2.1.2.2 o s bb n κ.2.2.2.2.1 κ.2.2.2.2.2.1 κ.2.2.2.2.2.2.1 κ.2.2.2.2.2.2.2.1 κ.2.2.2.2.2.2.2.2.1 κ.2.2.2.2.2.2.2.2.2.1 κ.2.2.2.2.2.2.2.2.2.2.1 κ.2.2.2.2.2.2.2.2.2.2.2 (scz xs (i + 1)) (scz xs (i + 2)) (scz xs (i + 3)) h.1 h.2.2.1 h.2.2.2.1 h.2.2.2.2.1 h.2.2.2.2.2.2.2.1 h.2.2.2.2.2.2.2.2.1 (scz_rng xs _) (scz_rng xs _) (scz_rng xs _)) gL_law_X6_plate rfl rfl ydX6_plate ⟨Nat.le_of_ble_eq_true rfl, Nat.le_of_ble_eq_true rfl⟩ (ci := 6) rfl rfl rfl rfl (Nat.le_of_ble_eq_true rfl) ⟨Nat.le_of_ble_eq_true rfl, Nat.le_of_ble_eq_true rfl⟩ (fun r9 w9 h9 => ?_)
  obtain ⟨κ, rfl, rfl⟩ := h9
  refine V.eq (pc' := 926) (st' := [_]) (ws' := WX A G a o s R bb sn t n κ ++ WM hm ms mp mq mt mpa msh mo mtu G sv past s sq bb t n pa sh ot tu) rfl rfl rfl rfl ?_
  refine V.aload_n (q := 927) F dL_law_926 rfl rfl rfl ?_
  refine V.aload_n (q := 928) F dL_law_927 rfl rfl rfl ?_
  refine V.iload_n (q := 929) F dL_law_928 rfl rfl rfl ?_
  refine V.iconst (q := 930) F dL_law_929 rfl ?_
  refine V.iadd (q := 931) F dL_law_930 rfl ?_
  refine V.sld (q := 932) F S dL_law_931 rfl hL (by omega) ?_
  refine V.aload_n (q := 933) F dL_law_932 rfl rfl rfl ?_
  refine V.iload_n (q := 934) F dL_law_933 rfl rfl rfl ?_
  refine V.iconst (q := 935) F dL_law_934 rfl ?_
  refine V.iadd (q := 936) F dL_law_935 rfl ?_
  refine V.sld (q := 937) F S dL_law_936 rfl hL (by omega) ?_
  refine V.aload_n (q := 938) F dL_law_937 rfl rfl rfl ?_
  refine V.iload_n (q := 939) F dL_law_938 rfl rfl rfl ?_
  refine V.iconst (q := 940) F dL_law_939 rfl ?_
  refine V.iadd (q := 941) F dL_law_940 rfl ?_
  refine V.sld (q := 942) F S dL_law_941 rfl hL (by omega) ?_
  refine V.callM (q := 945) F 27 9 rfl rfl nd9 dL_law_942 rfl (c_X7_plate l G hm ms mp mq mt mpa msh mo mtu a sv past sq t pa sh ot tu s bb n (scz xs (i + 1)) (scz xs (i + 2)) (scz xs (i + 3)) h.2.1 h.1 h.2.2.2.1 h.2.2.2.2.1 h.2.2.2.2.2.2.2.1 h.2.2.2.2.2.2.2.2.1 (scz_rng xs _) (scz_rng xs _) (scz_rng xs _)) gL_law_X7_plate rfl rfl ydX7_plate ⟨Nat.le_of_ble_eq_true rfl, Nat.le_of_ble_eq_true rfl⟩ (ci := 7) rfl rfl rfl rfl (Nat.le_of_ble_eq_true rfl) ⟨Nat.le_of_ble_eq_true rfl, Nat.le_of_ble_eq_true rfl⟩ (fun r9 w9 h9 => ?_)
  obtain ⟨pa, sh, ot, tu, rfl, rfl⟩ := h9
  refine V.eq (pc' := 945) (st' := [_, _]) (ws' := WX A G a o s R bb sn t n κ ++ WM hm ms mp mq mt mpa msh mo mtu G sv past s sq bb t n pa sh ot tu) rfl rfl rfl rfl ?_
  refine V.isame (tgt := 1072) F dL_law_945 (by decide) ?_
  exact kk _ _ _ _ _ _ _ _ _ _ _ _ _ _ _ _ h
set_option maxHeartbeats 4000000 in
set_option maxRecDepth 20000 in
theorem lcase_22 {X : Cx} {l : Launch} {G : Gx} {A : Nat → Nat} {hm ms mp mq mt mpa msh mo mtu b L : Nat} {xs : Nat → Int32} (F : Fx X (YL l G)) (S : SX X b L xs) (hL : L ≤ 3072) {i : Int} (hi : 0 ≤ i ∧ i + 6 ≤ (L : Int)) {a R sn t sv past sq pa sh ot tu : Int → Int} {o s bb n : Int} {κ : Scr} (h : LI a o s R bb sn t n sv past sq) (kk : KN X l G A hm ms mp mq mt mpa msh mo mtu b i) : V X (YL l G) 36 202478 950 [some (.ref b), some (.ref (A 0)), some (.ref hm), some (.int (zI i))] [] (WX A G a o s R bb sn t n κ ++ WM hm ms mp mq mt mpa msh mo mtu G sv past s sq bb t n pa sh ot tu) := by
  refine V.aload_n (q := 951) F dL_law_950 rfl rfl rfl ?_
  refine V.aload_n (q := 952) F dL_law_951 rfl rfl rfl ?_
  refine V.iload_n (q := 953) F dL_law_952 rfl rfl rfl ?_
  refine V.iconst (q := 954) F dL_law_953 rfl ?_
  refine V.iadd (q := 955) F dL_law_954 rfl ?_
  refine V.sld (q := 956) F S dL_law_955 rfl hL (by omega) ?_
  refine V.aload_n (q := 957) F dL_law_956 rfl rfl rfl ?_
  refine V.iload_n (q := 958) F dL_law_957 rfl rfl rfl ?_
  refine V.iconst (q := 959) F dL_law_958 rfl ?_
  refine V.iadd (q := 960) F dL_law_959 rfl ?_
  refine V.sld (q := 961) F S dL_law_960 rfl hL (by omega) ?_
  refine V.aload_n (q := 962) F dL_law_961 rfl rfl rfl ?_
  refine V.iload_n (q := 963) F dL_law_962 rfl rfl rfl ?_
  refine V.iconst (q := 964) F dL_law_963 rfl ?_
  refine V.iadd (q := 965) F dL_law_964 rfl ?_
  refine V.sld (q := 966) F S dL_law_965 rfl hL (by omega) ?_
  refine V.aload_n (q := 967) F dL_law_966 rfl rfl rfl ?_
  refine V.iload_n (q := 968) F dL_law_967 rfl rfl rfl ?_
  refine V.iconst (q := 969) F dL_law_968 rfl ?_
  refine V.iadd (q := 970) F dL_law_969 rfl ?_
  refine V.sld (q := 971) F S dL_law_970 rfl hL (by omega) ?_
  refine V.callX (q := 974) F 27 rfl nd27 dL_law_971 rfl (c_X6_petal l G A a κ.1.1 R sn t κ.1.2.1 κ.1.2.2.1 κ.1.2.2.2.1 κ.1.2.2.2.2 κ.2.1.1 κ.2.1.2.1 κ.2.1.2.2 κ.2.2.1.1 κ.2.2.1.2.1 κ.2.2.1.2.2 κ.2.2.2.1.1 κ.2.2.2.1.2.1 κ.2.2.2.1.2.2 o s bb n κ.2.2.2.2.1 κ.2.2.2.2.2.1 κ.2.2.2.2.2.2.1 κ.2.2.2.2.2.2.2.1 κ.2.2.2.2.2.2.2.2.1 κ.2.2.2.2.2.2.2.2.2.1 κ.2.2.2.2.2.2.2.2.2.2.1 κ.2.2.2.2.2.2.2.2.2.2.2 (scz xs (i + 1)) (scz xs (i + 2)) (scz xs (i + 3)) (scz xs (i + 4)) h.1 h.2.2.1 h.2.2.2.1 h.2.2.2.2.1 h.2.2.2.2.2.2.2.1 h.2.2.2.2.2.2.2.2.1 (scz_rng xs _) (scz_rng xs _) (scz_rng xs _) (scz_rng xs _)) gL_law_X6_petal rfl rfl ydX6_petal ⟨Nat.le_of_ble_eq_true rfl, Nat.le_of_ble_eq_true rfl⟩ (ci := 6) rfl rfl rfl rfl (Nat.le_of_ble_eq_true rfl) ⟨Nat.le_of_ble_eq_true rfl, Nat.le_of_ble_eq_true rfl⟩ (fun r9 w9 h9 => ?_)
  obtain ⟨κ, rfl, rfl⟩ := h9
  refine V.eq (pc' := 974) (st' := [_]) (ws' := WX A G a o s R bb sn t n κ ++ WM hm ms mp mq mt mpa msh mo mtu G sv past s sq bb t n pa sh ot tu) rfl rfl rfl rfl ?_
  refine V.aload_n (q := 975) F dL_law_974 rfl rfl rfl ?_
  refine V.aload_n (q := 976) F dL_law_975 rfl rfl rfl ?_
  refine V.iload_n (q := 977) F dL_law_976 rfl rfl rfl ?_
  refine V.iconst (q := 978) F dL_law_977 rfl ?_
  refine V.iadd (q := 979) F dL_law_978 rfl ?_
  refine V.sld (q := 980) F S dL_law_979 rfl hL (by omega) ?_
  refine V.aload_n (q := 981) F dL_law_980 rfl rfl rfl ?_
  refine V.iload_n (q := 982) F dL_law_981 rfl rfl rfl ?_
  refine V.iconst (q := 983) F dL_law_982 rfl ?_
  refine V.iadd (q := 984) F dL_law_983 rfl ?_
  refine V.sld (q := 985) F S dL_law_984 rfl hL (by omega) ?_
  refine V.aload_n (q := 986) F dL_law_985 rfl rfl rfl ?_
  refine V.iload_n (q := 987) F dL_law_986 rfl rfl rfl ?_
  refine V.iconst (q := 988) F dL_law_987 rfl ?_
  refine V.iadd (q := 989) F dL_law_988 rfl ?_
  refine V.sld (q := 990) F S dL_law_989 rfl hL (by omega) ?_
  refine V.aload_n (q := 991) F dL_law_990 rfl rfl rfl ?_
  refine V.iload_n (q := 992) F dL_law_991 rfl rfl rfl ?_
  refine V.iconst (q := 993) F dL_law_992 rfl ?_
  refine V.iadd (q := 994) F dL_law_993 rfl ?_
  refine V.sld (q := 995) F S dL_law_994 rfl hL (by omega) ?_
  refine V.callM (q := 998) F 27 9 rfl rfl nd9 dL_law_995 rfl (c_X7_petal l G hm ms mp mq mt mpa msh mo mtu a sv past sq t pa sh ot tu s bb n (scz xs (i + 1)) (scz xs (i + 2)) (scz xs (i + 3)) (scz xs (i + 4)) h.2.1 h.1 h.2.2.2.1 h.2.2.2.2.1 h.2.2.2.2.2.2.2.1 h.2.2.2.2.2.2.2.2.1 (scz_rng xs _) (scz_rng xs _) (scz_rng xs _) (scz_rng xs _)) gL_law_X7_petal rfl rfl ydX7_petal ⟨Nat.le_of_ble_eq_true rfl, Nat.le_of_ble_eq_true rfl⟩ (ci := 7) rfl rfl rfl rfl (Nat.le_of_ble_eq_true rfl) ⟨Nat.le_of_ble_eq_true rfl, Nat.le_of_ble_eq_true rfl⟩ (fun r9 w9 h9 => ?_)
  obtain ⟨pa, sh, ot, tu, rfl, rfl⟩ := h9
  refine V.eq (pc' := 998) (st' := [_, _]) (ws' := WX A G a o s R bb sn t n κ ++ WM hm ms mp mq mt mpa msh mo mtu G sv past s sq bb t n pa sh ot tu) rfl rfl rfl rfl ?_
  refine V.isame (tgt := 1072) F dL_law_998 (by decide) ?_
  exact kk _ _ _ _ _ _ _ _ _ _ _ _ _ _ _ _ h
set_option maxHeartbeats 4000000 in
set_option maxRecDepth 20000 in
theorem lcase_23 {X : Cx} {l : Launch} {G : Gx} {A : Nat → Nat} {hm ms mp mq mt mpa msh mo mtu b L : Nat} {xs : Nat → Int32} (F : Fx X (YL l G)) (S : SX X b L xs) (hL : L ≤ 3072) {i : Int} (hi : 0 ≤ i ∧ i + 6 ≤ (L : Int)) {a R sn t sv past sq pa sh ot tu : Int → Int} {o s bb n : Int} {κ : Scr} (h : LI a o s R bb sn t n sv past sq) (kk : KN X l G A hm ms mp mq mt mpa msh mo mtu b i) : V X (YL l G) 36 202478 1003 [some (.ref b), some (.ref (A 0)), some (.ref hm), some (.int (zI i))] [] (WX A G a o s R bb sn t n κ ++ WM hm ms mp mq mt mpa msh mo mtu G sv past s sq bb t n pa sh ot tu) := by
  refine V.aload_n (q := 1004) F dL_law_1003 rfl rfl rfl ?_
  refine V.aload_n (q := 1005) F dL_law_1004 rfl rfl rfl ?_
  refine V.iload_n (q := 1006) F dL_law_1005 rfl rfl rfl ?_
  refine V.iconst (q := 1007) F dL_law_1006 rfl ?_
  refine V.iadd (q := 1008) F dL_law_1007 rfl ?_
  refine V.sld (q := 1009) F S dL_law_1008 rfl hL (by omega) ?_
  refine V.aload_n (q := 1010) F dL_law_1009 rfl rfl rfl ?_
  refine V.iload_n (q := 1011) F dL_law_1010 rfl rfl rfl ?_
  refine V.iconst (q := 1012) F dL_law_1011 rfl ?_
  refine V.iadd (q := 1013) F dL_law_1012 rfl ?_
  refine V.sld (q := 1014) F S dL_law_1013 rfl hL (by omega) ?_
  refine V.callX (q := 1017) F 27 rfl nd27 dL_law_1014 rfl (c_X6_reason l G A a κ.1.1 R sn t κ.1.2.1 κ.1.2.2.1 κ.1.2.2.2.1 κ.1.2.2.2.2 κ.2.1.1 κ.2.1.2.1 κ.2.1.2.2 κ.2.2.1.1 κ.2.2.1.2.1 κ.2.2.1.2.2 κ.2.2.2.1.1 κ.2.2.2.1.2.1 κ.2.2.2.1.2.2 o s bb n κ.2.2.2.2.1 κ.2.2.2.2.2.1 κ.2.2.2.2.2.2.1 κ.2.2.2.2.2.2.2.1 κ.2.2.2.2.2.2.2.2.1 κ.2.2.2.2.2.2.2.2.2.1 κ.2.2.2.2.2.2.2.2.2.2.1 κ.2.2.2.2.2.2.2.2.2.2.2 (scz xs (i + 1)) (scz xs (i + 2)) h.1 h.2.2.1 h.2.2.2.1 h.2.2.2.2.1 h.2.2.2.2.2.2.2.1 h.2.2.2.2.2.2.2.2.1 (scz_rng xs _) (scz_rng xs _)) gL_law_X6_reason rfl rfl ydX6_reason ⟨Nat.le_of_ble_eq_true rfl, Nat.le_of_ble_eq_true rfl⟩ (ci := 6) rfl rfl rfl rfl (Nat.le_of_ble_eq_true rfl) ⟨Nat.le_of_ble_eq_true rfl, Nat.le_of_ble_eq_true rfl⟩ (fun r9 w9 h9 => ?_)
  obtain ⟨κ, rfl, rfl⟩ := h9
  refine V.eq (pc' := 1017) (st' := [_]) (ws' := WX A G a o s R bb sn t n κ ++ WM hm ms mp mq mt mpa msh mo mtu G sv past s sq bb t n pa sh ot tu) rfl rfl rfl rfl ?_
  refine V.aload_n (q := 1018) F dL_law_1017 rfl rfl rfl ?_
  refine V.aload_n (q := 1019) F dL_law_1018 rfl rfl rfl ?_
  refine V.iload_n (q := 1020) F dL_law_1019 rfl rfl rfl ?_
  refine V.iconst (q := 1021) F dL_law_1020 rfl ?_
  refine V.iadd (q := 1022) F dL_law_1021 rfl ?_
  refine V.sld (q := 1023) F S dL_law_1022 rfl hL (by omega) ?_
  refine V.aload_n (q := 1024) F dL_law_1023 rfl rfl rfl ?_
  refine V.iload_n (q := 1025) F dL_law_1024 rfl rfl rfl ?_
  refine V.iconst (q := 1026) F dL_law_1025 rfl ?_
  refine V.iadd (q := 1027) F dL_law_1026 rfl ?_
  refine V.sld (q := 1028) F S dL_law_1027 rfl hL (by omega) ?_
  refine V.callM (q := 1031) F 27 9 rfl rfl nd9 dL_law_1028 rfl (c_X7_reason l G hm ms mp mq mt mpa msh mo mtu a sv past sq t pa sh ot tu s bb n (scz xs (i + 1)) (scz xs (i + 2)) h.2.1 h.1 h.2.2.2.1 h.2.2.2.2.1 h.2.2.2.2.2.2.2.1 h.2.2.2.2.2.2.2.2.1 (scz_rng xs _) (scz_rng xs _)) gL_law_X7_reason rfl rfl ydX7_reason ⟨Nat.le_of_ble_eq_true rfl, Nat.le_of_ble_eq_true rfl⟩ (ci := 7) rfl rfl rfl rfl (Nat.le_of_ble_eq_true rfl) ⟨Nat.le_of_ble_eq_true rfl, Nat.le_of_ble_eq_true rfl⟩ (fun r9 w9 h9 => ?_)
  obtain ⟨pa, sh, ot, tu, rfl, rfl⟩ := h9
  refine V.eq (pc' := 1031) (st' := [_, _]) (ws' := WX A G a o s R bb sn t n κ ++ WM hm ms mp mq mt mpa msh mo mtu G sv past s sq bb t n pa sh ot tu) rfl rfl rfl rfl ?_
  refine V.isame (tgt := 1072) F dL_law_1031 (by decide) ?_
  exact kk _ _ _ _ _ _ _ _ _ _ _ _ _ _ _ _ h
set_option maxHeartbeats 4000000 in
set_option maxRecDepth 20000 in
theorem lcase_24 {X : Cx} {l : Launch} {G : Gx} {A : Nat → Nat} {hm ms mp mq mt mpa msh mo mtu b L : Nat} {xs : Nat → Int32} (F : Fx X (YL l G)) (S : SX X b L xs) (hL : L ≤ 3072) {i : Int} (hi : 0 ≤ i ∧ i + 6 ≤ (L : Int)) {a R sn t sv past sq pa sh ot tu : Int → Int} {o s bb n : Int} {κ : Scr} (h : LI a o s R bb sn t n sv past sq) (kk : KN X l G A hm ms mp mq mt mpa msh mo mtu b i) : V X (YL l G) 36 202478 1036 [some (.ref b), some (.ref (A 0)), some (.ref hm), some (.int (zI i))] [] (WX A G a o s R bb sn t n κ ++ WM hm ms mp mq mt mpa msh mo mtu G sv past s sq bb t n pa sh ot tu) := by
  refine V.aload_n (q := 1037) F dL_law_1036 rfl rfl rfl ?_
  refine V.callX (q := 1040) F 27 rfl nd27 dL_law_1037 rfl (c_X6_nextPlate l G A a κ.1.1 R sn t κ.1.2.1 κ.1.2.2.1 κ.1.2.2.2.1 κ.1.2.2.2.2 κ.2.1.1 κ.2.1.2.1 κ.2.1.2.2 κ.2.2.1.1 κ.2.2.1.2.1 κ.2.2.1.2.2 κ.2.2.2.1.1 κ.2.2.2.1.2.1 κ.2.2.2.1.2.2 o s bb n κ.2.2.2.2.1 κ.2.2.2.2.2.1 κ.2.2.2.2.2.2.1 κ.2.2.2.2.2.2.2.1 κ.2.2.2.2.2.2.2.2.1 κ.2.2.2.2.2.2.2.2.2.1 κ.2.2.2.2.2.2.2.2.2.2.1 κ.2.2.2.2.2.2.2.2.2.2.2 h.1 h.2.2.1 h.2.2.2.1 h.2.2.2.2.1 h.2.2.2.2.2.2.2.1 h.2.2.2.2.2.2.2.2.1) gL_law_X6_nextPlate rfl rfl ydX6_nextPlate ⟨Nat.le_of_ble_eq_true rfl, Nat.le_of_ble_eq_true rfl⟩ (ci := 6) rfl rfl rfl rfl (Nat.le_of_ble_eq_true rfl) ⟨Nat.le_of_ble_eq_true rfl, Nat.le_of_ble_eq_true rfl⟩ (fun r9 w9 h9 => ?_)
  obtain ⟨κ, rfl, rfl⟩ := h9
  refine V.eq (pc' := 1040) (st' := [_]) (ws' := WX A G a o s R bb sn t n κ ++ WM hm ms mp mq mt mpa msh mo mtu G sv past s sq bb t n pa sh ot tu) rfl rfl rfl rfl ?_
  refine V.aload_n (q := 1041) F dL_law_1040 rfl rfl rfl ?_
  refine V.callM (q := 1044) F 27 9 rfl rfl nd9 dL_law_1041 rfl (c_X7_nextPlate l G hm ms mp mq mt mpa msh mo mtu a sv past sq t pa sh ot tu s bb n h.2.1 h.1 h.2.2.2.1 h.2.2.2.2.1 h.2.2.2.2.2.2.2.1 h.2.2.2.2.2.2.2.2.1) gL_law_X7_nextPlate rfl rfl ydX7_nextPlate ⟨Nat.le_of_ble_eq_true rfl, Nat.le_of_ble_eq_true rfl⟩ (ci := 7) rfl rfl rfl rfl (Nat.le_of_ble_eq_true rfl) ⟨Nat.le_of_ble_eq_true rfl, Nat.le_of_ble_eq_true rfl⟩ (fun r9 w9 h9 => ?_)
  obtain ⟨pa, sh, ot, tu, rfl, rfl⟩ := h9
  refine V.eq (pc' := 1044) (st' := [_, _]) (ws' := WX A G a o s R bb sn t n κ ++ WM hm ms mp mq mt mpa msh mo mtu G sv past s sq bb t n pa sh ot tu) rfl rfl rfl rfl ?_
  refine V.isame (tgt := 1072) F dL_law_1044 (by decide) ?_
  exact kk _ _ _ _ _ _ _ _ _ _ _ _ _ _ _ _ h
set_option maxHeartbeats 4000000 in
set_option maxRecDepth 20000 in
theorem lcase_25 {X : Cx} {l : Launch} {G : Gx} {A : Nat → Nat} {hm ms mp mq mt mpa msh mo mtu b L : Nat} {xs : Nat → Int32} (F : Fx X (YL l G)) (S : SX X b L xs) (hL : L ≤ 3072) {i : Int} (hi : 0 ≤ i ∧ i + 6 ≤ (L : Int)) {a R sn t sv past sq pa sh ot tu : Int → Int} {o s bb n : Int} {κ : Scr} (h : LI a o s R bb sn t n sv past sq) (kk : KN X l G A hm ms mp mq mt mpa msh mo mtu b i) : V X (YL l G) 36 202478 1049 [some (.ref b), some (.ref (A 0)), some (.ref hm), some (.int (zI i))] [] (WX A G a o s R bb sn t n κ ++ WM hm ms mp mq mt mpa msh mo mtu G sv past s sq bb t n pa sh ot tu) := by
  refine V.aload_n (q := 1050) F dL_law_1049 rfl rfl rfl ?_
  refine V.aload_n (q := 1051) F dL_law_1050 rfl rfl rfl ?_
  refine V.iload_n (q := 1052) F dL_law_1051 rfl rfl rfl ?_
  refine V.iconst (q := 1053) F dL_law_1052 rfl ?_
  refine V.iadd (q := 1054) F dL_law_1053 rfl ?_
  refine V.sld (q := 1055) F S dL_law_1054 rfl hL (by omega) ?_
  refine V.callX (q := 1058) F 27 rfl nd27 dL_law_1055 rfl (c_X6_count l G A a κ.1.1 R sn t κ.1.2.1 κ.1.2.2.1 κ.1.2.2.2.1 κ.1.2.2.2.2 κ.2.1.1 κ.2.1.2.1 κ.2.1.2.2 κ.2.2.1.1 κ.2.2.1.2.1 κ.2.2.1.2.2 κ.2.2.2.1.1 κ.2.2.2.1.2.1 κ.2.2.2.1.2.2 o s bb n κ.2.2.2.2.1 κ.2.2.2.2.2.1 κ.2.2.2.2.2.2.1 κ.2.2.2.2.2.2.2.1 κ.2.2.2.2.2.2.2.2.1 κ.2.2.2.2.2.2.2.2.2.1 κ.2.2.2.2.2.2.2.2.2.2.1 κ.2.2.2.2.2.2.2.2.2.2.2 (scz xs (i + 1)) h.1 h.2.2.1 h.2.2.2.1 h.2.2.2.2.1 h.2.2.2.2.2.2.2.1 h.2.2.2.2.2.2.2.2.1 (scz_rng xs _)) gL_law_X6_count rfl rfl ydX6_count ⟨Nat.le_of_ble_eq_true rfl, Nat.le_of_ble_eq_true rfl⟩ (ci := 6) rfl rfl rfl rfl (Nat.le_of_ble_eq_true rfl) ⟨Nat.le_of_ble_eq_true rfl, Nat.le_of_ble_eq_true rfl⟩ (fun r9 w9 h9 => ?_)
  obtain ⟨κ, rfl, rfl⟩ := h9
  refine V.eq (pc' := 1058) (st' := [_]) (ws' := WX A G a o s R bb sn t n κ ++ WM hm ms mp mq mt mpa msh mo mtu G sv past s sq bb t n pa sh ot tu) rfl rfl rfl rfl ?_
  refine V.aload_n (q := 1059) F dL_law_1058 rfl rfl rfl ?_
  refine V.aload_n (q := 1060) F dL_law_1059 rfl rfl rfl ?_
  refine V.iload_n (q := 1061) F dL_law_1060 rfl rfl rfl ?_
  refine V.iconst (q := 1062) F dL_law_1061 rfl ?_
  refine V.iadd (q := 1063) F dL_law_1062 rfl ?_
  refine V.sld (q := 1064) F S dL_law_1063 rfl hL (by omega) ?_
  refine V.callM (q := 1067) F 27 9 rfl rfl nd9 dL_law_1064 rfl (c_X7_count l G hm ms mp mq mt mpa msh mo mtu a sv past sq t pa sh ot tu s bb n (scz xs (i + 1)) h.2.1 h.1 h.2.2.2.1 h.2.2.2.2.1 h.2.2.2.2.2.2.2.1 h.2.2.2.2.2.2.2.2.1 (scz_rng xs _)) gL_law_X7_count rfl rfl ydX7_count ⟨Nat.le_of_ble_eq_true rfl, Nat.le_of_ble_eq_true rfl⟩ (ci := 7) rfl rfl rfl rfl (Nat.le_of_ble_eq_true rfl) ⟨Nat.le_of_ble_eq_true rfl, Nat.le_of_ble_eq_true rfl⟩ (fun r9 w9 h9 => ?_)
  obtain ⟨pa, sh, ot, tu, rfl, rfl⟩ := h9
  refine V.eq (pc' := 1067) (st' := [_, _]) (ws' := WX A G a o s R bb sn t n κ ++ WM hm ms mp mq mt mpa msh mo mtu G sv past s sq bb t n pa sh ot tu) rfl rfl rfl rfl ?_
  refine V.isame (tgt := 1072) F dL_law_1067 (by decide) ?_
  exact kk _ _ _ _ _ _ _ _ _ _ _ _ _ _ _ _ h

/-! The law: its words in the tables, and its cases, by program (wip/whole/genlaw.py). -/
theorem wL_0 : Cond.classLink RL 7 RX8 ∈ lw_tbl := gt1 (i := 14) rfl
theorem wL_4 : Cond.methodLink RL 9 (gy 85) ∈ lw_tbl := gt1 (i := 16) rfl
theorem wL_8 : Cond.classLink RL 10 RX9 ∈ lw_tbl := gt4 (i := 131) rfl
theorem wL_12 : Cond.methodLink RL 12 (gy 119) ∈ lw_tbl := gt4 (i := 133) rfl
theorem wL_188 : Cond.methodLink RL 13 (gy 86) ∈ lw_tbl := gt2 (i := 83) rfl
theorem wL_235 : Cond.methodLink RL 17 (gy 121) ∈ lw_tbl := gt5 (i := 115) rfl
theorem wL_254 : Cond.methodLink RL 18 (gy 87) ∈ lw_tbl := gt2 (i := 97) rfl
theorem wL_268 : Cond.methodLink RL 22 (gy 125) ∈ lw_tbl := gt5 (i := 122) rfl
theorem wL_292 : Cond.methodLink RL 23 (gy 88) ∈ lw_tbl := gt2 (i := 126) rfl
theorem wL_311 : Cond.methodLink RL 27 (gy 126) ∈ lw_tbl := gt5 (i := 126) rfl
theorem wL_330 : Cond.methodLink RL 28 (gy 89) ∈ lw_tbl := gt2 (i := 134) rfl
theorem wL_344 : Cond.methodLink RL 32 (gy 127) ∈ lw_tbl := gt5 (i := 134) rfl
theorem wL_378 : Cond.methodLink RL 33 (gy 90) ∈ lw_tbl := gt2 (i := 138) rfl
theorem wL_407 : Cond.methodLink RL 37 (gy 129) ∈ lw_tbl := gt5 (i := 138) rfl
theorem wL_421 : Cond.methodLink RL 38 (gy 91) ∈ lw_tbl := gt2 (i := 146) rfl
theorem wL_430 : Cond.methodLink RL 42 (gy 143) ∈ lw_tbl := gt5 (i := 146) rfl
theorem wL_459 : Cond.methodLink RL 43 (gy 92) ∈ lw_tbl := gt3 (i := 8) rfl
theorem wL_483 : Cond.methodLink RL 47 (gy 166) ∈ lw_tbl := gt5 (i := 195) rfl
theorem wL_502 : Cond.methodLink RL 48 (gy 93) ∈ lw_tbl := gt3 (i := 135) rfl
theorem wL_516 : Cond.methodLink RL 51 (gy 171) ∈ lw_tbl := gt6 (i := 53) rfl
theorem wL_535 : Cond.methodLink RL 52 (gy 94) ∈ lw_tbl := gt3 (i := 159) rfl
theorem wL_549 : Cond.methodLink RL 55 (gy 172) ∈ lw_tbl := gt6 (i := 72) rfl
theorem wL_568 : Cond.methodLink RL 56 (gy 95) ∈ lw_tbl := gt3 (i := 167) rfl
theorem wL_582 : Cond.methodLink RL 59 (gy 173) ∈ lw_tbl := gt6 (i := 76) rfl
theorem wL_596 : Cond.methodLink RL 60 (gy 96) ∈ lw_tbl := gt3 (i := 175) rfl
theorem wL_605 : Cond.methodLink RL 63 (gy 175) ∈ lw_tbl := gt6 (i := 80) rfl
theorem wL_619 : Cond.methodLink RL 64 (gy 97) ∈ lw_tbl := gt3 (i := 183) rfl
theorem wL_628 : Cond.methodLink RL 67 (gy 178) ∈ lw_tbl := gt6 (i := 88) rfl
theorem wL_652 : Cond.methodLink RL 68 (gy 98) ∈ lw_tbl := gt3 (i := 228) rfl
theorem wL_671 : Cond.methodLink RL 71 (gy 179) ∈ lw_tbl := gt6 (i := 100) rfl
theorem wL_690 : Cond.methodLink RL 72 (gy 99) ∈ lw_tbl := gt3 (i := 232) rfl
theorem wL_704 : Cond.methodLink RL 75 (gy 181) ∈ lw_tbl := gt6 (i := 104) rfl
theorem wL_718 : Cond.methodLink RL 76 (gy 100) ∈ lw_tbl := gt4 (i := 2) rfl
theorem wL_727 : Cond.methodLink RL 79 (gy 183) ∈ lw_tbl := gt6 (i := 112) rfl
theorem wL_741 : Cond.methodLink RL 80 (gy 101) ∈ lw_tbl := gt4 (i := 29) rfl
theorem wL_750 : Cond.methodLink RL 83 (gy 184) ∈ lw_tbl := gt6 (i := 120) rfl
theorem wL_769 : Cond.methodLink RL 84 (gy 102) ∈ lw_tbl := gt4 (i := 33) rfl
theorem wL_783 : Cond.methodLink RL 87 (gy 185) ∈ lw_tbl := gt6 (i := 124) rfl
theorem wL_792 : Cond.methodLink RL 88 (gy 103) ∈ lw_tbl := gt4 (i := 42) rfl
theorem wL_796 : Cond.methodLink RL 92 (gy 186) ∈ lw_tbl := gt6 (i := 128) rfl
theorem wL_805 : Cond.methodLink RL 93 (gy 104) ∈ lw_tbl := gt4 (i := 51) rfl
theorem wL_809 : Cond.methodLink RL 96 (gy 187) ∈ lw_tbl := gt6 (i := 132) rfl
theorem wL_838 : Cond.methodLink RL 97 (gy 105) ∈ lw_tbl := gt4 (i := 55) rfl
theorem wL_862 : Cond.methodLink RL 100 (gy 188) ∈ lw_tbl := gt6 (i := 136) rfl
theorem wL_896 : Cond.methodLink RL 101 (gy 106) ∈ lw_tbl := gt4 (i := 59) rfl
theorem wL_925 : Cond.methodLink RL 104 (gy 189) ∈ lw_tbl := gt6 (i := 140) rfl
theorem wL_944 : Cond.methodLink RL 105 (gy 107) ∈ lw_tbl := gt4 (i := 64) rfl
theorem wL_958 : Cond.methodLink RL 108 (gy 194) ∈ lw_tbl := gt6 (i := 144) rfl
theorem wL_972 : Cond.methodLink RL 109 (gy 108) ∈ lw_tbl := gt4 (i := 119) rfl
theorem wL_981 : Cond.methodLink RL 112 (gy 195) ∈ lw_tbl := gt6 (i := 163) rfl
theorem wL_995 : Cond.methodLink RL 113 (gy 109) ∈ lw_tbl := gt4 (i := 123) rfl
theorem wL_1004 : Cond.methodLink RL 116 (gy 196) ∈ lw_tbl := gt6 (i := 167) rfl
section LAW2
variable {p : Program} {l : Launch} {e : Env} {s : State} {m : MethodId} {below : List Frame} {meth : Method} {c : Code} {H : Heap} {locs : List Loc} {Q : State → Prop}
variable {Ls : Array Slot} {u1 u2 b L i : Nat} {xs : Nat → Int32} {D : va_G} {X Y : gM} {aX aM : Nat → Nat} {cX cM : Nat → ClassId} {tX tM : List (ClassId × FieldType)}
theorem lc_0 (hF : LF p s m c b L xs) (hi : i + 9 ≤ L) (hI : LI s D H locs X Y aX cX tX aM cM tM) (hl : lv_has Ls 4 [(0, .ref b), (1, .ref (aX 0)), (2, .ref (aM 0)), (3, .int (nI i))]) (hu : u1 + 2 ≤ 600000 ∧ u2 + 250 ≤ 7302250)
    (kk : ∀ (H1 : Heap) (locs1 : List Loc) (X1 Y1 : gM) (aX1 : Nat → Nat) (cX1 : Nat → ClassId) (tX1 : List (ClassId × FieldType)) (aM1 : Nat → Nat) (cM1 : Nat → ClassId) (tM1 : List (ClassId × FieldType)), LI s D H1 locs1 X1 Y1 aX1 cX1 tX1 aM1 cM1 tM1 → aX1 0 = aX 0 → aM1 0 = aM 0 → W p l e room_1 s m #[Value.ref b] below meth c H1 locs1 (u1 + 2) (u2 + 250) Q (F0 m 1012 Ls [])) :
    W p l e room_1 s m #[Value.ref b] below meth c H locs u1 u2 Q (F0 m 144 Ls []) := by
  refine lv_aload_n hF.1 hF.2.1 dL_144 rfl (lv_at hl 1 rfl) ?_
  refine larg (k := 1) hF (LI_S hI) hl rfl rfl hi (by decide) dL_145 dL_146 dL_147 dL_148 dL_149 ?_
  refine larg (k := 2) hF (LI_S hI) hl rfl rfl hi (by decide) dL_150 dL_151 dL_152 dL_153 dL_154 ?_
  refine larg (k := 3) hF (LI_S hI) hl rfl rfl hi (by decide) dL_155 dL_156 dL_157 dL_158 dL_159 ?_
  refine larg (k := 4) hF (LI_S hI) hl rfl rfl hi (by decide) dL_160 dL_161 dL_162 dL_163 dL_164 ?_
  refine larg (k := 5) hF (LI_S hI) hl rfl rfl hi (by decide) dL_165 dL_166 dL_167 dL_168 dL_169 ?_
  refine largb (k := 6) hF (LI_S hI) hl rfl rfl hi (by decide) dL_170 dL_171 dL_172 dL_174 dL_175 ?_
  refine largb (k := 7) hF (LI_S hI) hl rfl rfl hi (by decide) dL_176 dL_177 dL_178 dL_180 dL_181 ?_
  refine largb (k := 8) hF (LI_S hI) hl rfl rfl hi (by decide) dL_182 dL_183 dL_184 dL_186 dL_187 ?_
  refine W.eq (g2 := F0 m 188 Ls (([.int (xs (i + 1)), .int (xs (i + 2)), .int (xs (i + 3)), .int (xs (i + 4)), .int (xs (i + 5)), .int (xs (i + 6)), .int (xs (i + 7)), .int (xs (i + 8))] : List Value).reverse ++ .ref (aX 0) :: [])) rfl ?_
  refine lcase (jx := 86) (jm := 121) (px := 188) (pm := 235) (na := 8) hF hI p_body (by decide +kernel) rfl (by simp) wL_188 wL_235 dL_188 dL_235 dL_238 (by decide) hl.1 hu (fun H1 locs1 k1 k2 v hS1 hw => ?_) kk
  · refine lv_aload_n hF.1 hF.2.1 dL_191 rfl (lv_at hl 2 rfl) ?_
    refine larg (k := 1) hF hS1 hl rfl rfl hi (by decide) dL_192 dL_193 dL_194 dL_195 dL_196 ?_
    refine larg (k := 2) hF hS1 hl rfl rfl hi (by decide) dL_197 dL_198 dL_199 dL_200 dL_201 ?_
    refine larg (k := 3) hF hS1 hl rfl rfl hi (by decide) dL_202 dL_203 dL_204 dL_205 dL_206 ?_
    refine larg (k := 4) hF hS1 hl rfl rfl hi (by decide) dL_207 dL_208 dL_209 dL_210 dL_211 ?_
    refine larg (k := 5) hF hS1 hl rfl rfl hi (by decide) dL_212 dL_213 dL_214 dL_215 dL_216 ?_
    refine largb (k := 6) hF hS1 hl rfl rfl hi (by decide) dL_217 dL_218 dL_219 dL_221 dL_222 ?_
    refine largb (k := 7) hF hS1 hl rfl rfl hi (by decide) dL_223 dL_224 dL_225 dL_227 dL_228 ?_
    refine largb (k := 8) hF hS1 hl rfl rfl hi (by decide) dL_229 dL_230 dL_231 dL_233 dL_234 ?_
    exact hw
theorem lc_1 (hF : LF p s m c b L xs) (hi : i + 9 ≤ L) (hI : LI s D H locs X Y aX cX tX aM cM tM) (hl : lv_has Ls 4 [(0, .ref b), (1, .ref (aX 0)), (2, .ref (aM 0)), (3, .int (nI i))]) (hu : u1 + 2 ≤ 600000 ∧ u2 + 250 ≤ 7302250)
    (kk : ∀ (H1 : Heap) (locs1 : List Loc) (X1 Y1 : gM) (aX1 : Nat → Nat) (cX1 : Nat → ClassId) (tX1 : List (ClassId × FieldType)) (aM1 : Nat → Nat) (cM1 : Nat → ClassId) (tM1 : List (ClassId × FieldType)), LI s D H1 locs1 X1 Y1 aX1 cX1 tX1 aM1 cM1 tM1 → aX1 0 = aX 0 → aM1 0 = aM 0 → W p l e room_1 s m #[Value.ref b] below meth c H1 locs1 (u1 + 2) (u2 + 250) Q (F0 m 1012 Ls [])) :
    W p l e room_1 s m #[Value.ref b] below meth c H locs u1 u2 Q (F0 m 243 Ls []) := by
  refine lv_aload_n hF.1 hF.2.1 dL_243 rfl (lv_at hl 1 rfl) ?_
  refine larg (k := 1) hF (LI_S hI) hl rfl rfl hi (by decide) dL_244 dL_245 dL_246 dL_247 dL_248 ?_
  refine larg (k := 2) hF (LI_S hI) hl rfl rfl hi (by decide) dL_249 dL_250 dL_251 dL_252 dL_253 ?_
  refine W.eq (g2 := F0 m 254 Ls (([.int (xs (i + 1)), .int (xs (i + 2))] : List Value).reverse ++ .ref (aX 0) :: [])) rfl ?_
  refine lcase (jx := 87) (jm := 125) (px := 254) (pm := 268) (na := 2) hF hI p_cloth (by decide +kernel) rfl (by simp) wL_254 wL_268 dL_254 dL_268 dL_271 (by decide) hl.1 hu (fun H1 locs1 k1 k2 v hS1 hw => ?_) kk
  · refine lv_aload_n hF.1 hF.2.1 dL_257 rfl (lv_at hl 2 rfl) ?_
    refine larg (k := 1) hF hS1 hl rfl rfl hi (by decide) dL_258 dL_259 dL_260 dL_261 dL_262 ?_
    refine larg (k := 2) hF hS1 hl rfl rfl hi (by decide) dL_263 dL_264 dL_265 dL_266 dL_267 ?_
    exact hw
theorem lc_2 (hF : LF p s m c b L xs) (hi : i + 9 ≤ L) (hI : LI s D H locs X Y aX cX tX aM cM tM) (hl : lv_has Ls 4 [(0, .ref b), (1, .ref (aX 0)), (2, .ref (aM 0)), (3, .int (nI i))]) (hu : u1 + 2 ≤ 600000 ∧ u2 + 250 ≤ 7302250)
    (kk : ∀ (H1 : Heap) (locs1 : List Loc) (X1 Y1 : gM) (aX1 : Nat → Nat) (cX1 : Nat → ClassId) (tX1 : List (ClassId × FieldType)) (aM1 : Nat → Nat) (cM1 : Nat → ClassId) (tM1 : List (ClassId × FieldType)), LI s D H1 locs1 X1 Y1 aX1 cX1 tX1 aM1 cM1 tM1 → aX1 0 = aX 0 → aM1 0 = aM 0 → W p l e room_1 s m #[Value.ref b] below meth c H1 locs1 (u1 + 2) (u2 + 250) Q (F0 m 1012 Ls [])) :
    W p l e room_1 s m #[Value.ref b] below meth c H locs u1 u2 Q (F0 m 276 Ls []) := by
  refine lv_aload_n hF.1 hF.2.1 dL_276 rfl (lv_at hl 1 rfl) ?_
  refine larg (k := 1) hF (LI_S hI) hl rfl rfl hi (by decide) dL_277 dL_278 dL_279 dL_280 dL_281 ?_
  refine larg (k := 2) hF (LI_S hI) hl rfl rfl hi (by decide) dL_282 dL_283 dL_284 dL_285 dL_286 ?_
  refine larg (k := 3) hF (LI_S hI) hl rfl rfl hi (by decide) dL_287 dL_288 dL_289 dL_290 dL_291 ?_
  refine W.eq (g2 := F0 m 292 Ls (([.int (xs (i + 1)), .int (xs (i + 2)), .int (xs (i + 3))] : List Value).reverse ++ .ref (aX 0) :: [])) rfl ?_
  refine lcase (jx := 88) (jm := 126) (px := 292) (pm := 311) (na := 3) hF hI p_colour (by decide +kernel) rfl (by simp) wL_292 wL_311 dL_292 dL_311 dL_314 (by decide) hl.1 hu (fun H1 locs1 k1 k2 v hS1 hw => ?_) kk
  · refine lv_aload_n hF.1 hF.2.1 dL_295 rfl (lv_at hl 2 rfl) ?_
    refine larg (k := 1) hF hS1 hl rfl rfl hi (by decide) dL_296 dL_297 dL_298 dL_299 dL_300 ?_
    refine larg (k := 2) hF hS1 hl rfl rfl hi (by decide) dL_301 dL_302 dL_303 dL_304 dL_305 ?_
    refine larg (k := 3) hF hS1 hl rfl rfl hi (by decide) dL_306 dL_307 dL_308 dL_309 dL_310 ?_
    exact hw
theorem lc_3 (hF : LF p s m c b L xs) (hi : i + 9 ≤ L) (hI : LI s D H locs X Y aX cX tX aM cM tM) (hl : lv_has Ls 4 [(0, .ref b), (1, .ref (aX 0)), (2, .ref (aM 0)), (3, .int (nI i))]) (hu : u1 + 2 ≤ 600000 ∧ u2 + 250 ≤ 7302250)
    (kk : ∀ (H1 : Heap) (locs1 : List Loc) (X1 Y1 : gM) (aX1 : Nat → Nat) (cX1 : Nat → ClassId) (tX1 : List (ClassId × FieldType)) (aM1 : Nat → Nat) (cM1 : Nat → ClassId) (tM1 : List (ClassId × FieldType)), LI s D H1 locs1 X1 Y1 aX1 cX1 tX1 aM1 cM1 tM1 → aX1 0 = aX 0 → aM1 0 = aM 0 → W p l e room_1 s m #[Value.ref b] below meth c H1 locs1 (u1 + 2) (u2 + 250) Q (F0 m 1012 Ls [])) :
    W p l e room_1 s m #[Value.ref b] below meth c H locs u1 u2 Q (F0 m 319 Ls []) := by
  refine lv_aload_n hF.1 hF.2.1 dL_319 rfl (lv_at hl 1 rfl) ?_
  refine larg (k := 1) hF (LI_S hI) hl rfl rfl hi (by decide) dL_320 dL_321 dL_322 dL_323 dL_324 ?_
  refine larg (k := 2) hF (LI_S hI) hl rfl rfl hi (by decide) dL_325 dL_326 dL_327 dL_328 dL_329 ?_
  refine W.eq (g2 := F0 m 330 Ls (([.int (xs (i + 1)), .int (xs (i + 2))] : List Value).reverse ++ .ref (aX 0) :: [])) rfl ?_
  refine lcase (jx := 89) (jm := 127) (px := 330) (pm := 344) (na := 2) hF hI p_end (by decide +kernel) rfl (by simp) wL_330 wL_344 dL_330 dL_344 dL_347 (by decide) hl.1 hu (fun H1 locs1 k1 k2 v hS1 hw => ?_) kk
  · refine lv_aload_n hF.1 hF.2.1 dL_333 rfl (lv_at hl 2 rfl) ?_
    refine larg (k := 1) hF hS1 hl rfl rfl hi (by decide) dL_334 dL_335 dL_336 dL_337 dL_338 ?_
    refine larg (k := 2) hF hS1 hl rfl rfl hi (by decide) dL_339 dL_340 dL_341 dL_342 dL_343 ?_
    exact hw
theorem lc_4 (hF : LF p s m c b L xs) (hi : i + 9 ≤ L) (hI : LI s D H locs X Y aX cX tX aM cM tM) (hl : lv_has Ls 4 [(0, .ref b), (1, .ref (aX 0)), (2, .ref (aM 0)), (3, .int (nI i))]) (hu : u1 + 2 ≤ 600000 ∧ u2 + 250 ≤ 7302250)
    (kk : ∀ (H1 : Heap) (locs1 : List Loc) (X1 Y1 : gM) (aX1 : Nat → Nat) (cX1 : Nat → ClassId) (tX1 : List (ClassId × FieldType)) (aM1 : Nat → Nat) (cM1 : Nat → ClassId) (tM1 : List (ClassId × FieldType)), LI s D H1 locs1 X1 Y1 aX1 cX1 tX1 aM1 cM1 tM1 → aX1 0 = aX 0 → aM1 0 = aM 0 → W p l e room_1 s m #[Value.ref b] below meth c H1 locs1 (u1 + 2) (u2 + 250) Q (F0 m 1012 Ls [])) :
    W p l e room_1 s m #[Value.ref b] below meth c H locs u1 u2 Q (F0 m 352 Ls []) := by
  refine lv_aload_n hF.1 hF.2.1 dL_352 rfl (lv_at hl 1 rfl) ?_
  refine larg (k := 1) hF (LI_S hI) hl rfl rfl hi (by decide) dL_353 dL_354 dL_355 dL_356 dL_357 ?_
  refine larg (k := 2) hF (LI_S hI) hl rfl rfl hi (by decide) dL_358 dL_359 dL_360 dL_361 dL_362 ?_
  refine larg (k := 3) hF (LI_S hI) hl rfl rfl hi (by decide) dL_363 dL_364 dL_365 dL_366 dL_367 ?_
  refine larg (k := 4) hF (LI_S hI) hl rfl rfl hi (by decide) dL_368 dL_369 dL_370 dL_371 dL_372 ?_
  refine larg (k := 5) hF (LI_S hI) hl rfl rfl hi (by decide) dL_373 dL_374 dL_375 dL_376 dL_377 ?_
  refine W.eq (g2 := F0 m 378 Ls (([.int (xs (i + 1)), .int (xs (i + 2)), .int (xs (i + 3)), .int (xs (i + 4)), .int (xs (i + 5))] : List Value).reverse ++ .ref (aX 0) :: [])) rfl ?_
  refine lcase (jx := 90) (jm := 129) (px := 378) (pm := 407) (na := 5) hF hI p_feed (by decide +kernel) rfl (by simp) wL_378 wL_407 dL_378 dL_407 dL_410 (by decide) hl.1 hu (fun H1 locs1 k1 k2 v hS1 hw => ?_) kk
  · refine lv_aload_n hF.1 hF.2.1 dL_381 rfl (lv_at hl 2 rfl) ?_
    refine larg (k := 1) hF hS1 hl rfl rfl hi (by decide) dL_382 dL_383 dL_384 dL_385 dL_386 ?_
    refine larg (k := 2) hF hS1 hl rfl rfl hi (by decide) dL_387 dL_388 dL_389 dL_390 dL_391 ?_
    refine larg (k := 3) hF hS1 hl rfl rfl hi (by decide) dL_392 dL_393 dL_394 dL_395 dL_396 ?_
    refine larg (k := 4) hF hS1 hl rfl rfl hi (by decide) dL_397 dL_398 dL_399 dL_400 dL_401 ?_
    refine larg (k := 5) hF hS1 hl rfl rfl hi (by decide) dL_402 dL_403 dL_404 dL_405 dL_406 ?_
    exact hw
theorem lc_5 (hF : LF p s m c b L xs) (hi : i + 9 ≤ L) (hI : LI s D H locs X Y aX cX tX aM cM tM) (hl : lv_has Ls 4 [(0, .ref b), (1, .ref (aX 0)), (2, .ref (aM 0)), (3, .int (nI i))]) (hu : u1 + 2 ≤ 600000 ∧ u2 + 250 ≤ 7302250)
    (kk : ∀ (H1 : Heap) (locs1 : List Loc) (X1 Y1 : gM) (aX1 : Nat → Nat) (cX1 : Nat → ClassId) (tX1 : List (ClassId × FieldType)) (aM1 : Nat → Nat) (cM1 : Nat → ClassId) (tM1 : List (ClassId × FieldType)), LI s D H1 locs1 X1 Y1 aX1 cX1 tX1 aM1 cM1 tM1 → aX1 0 = aX 0 → aM1 0 = aM 0 → W p l e room_1 s m #[Value.ref b] below meth c H1 locs1 (u1 + 2) (u2 + 250) Q (F0 m 1012 Ls [])) :
    W p l e room_1 s m #[Value.ref b] below meth c H locs u1 u2 Q (F0 m 415 Ls []) := by
  refine lv_aload_n hF.1 hF.2.1 dL_415 rfl (lv_at hl 1 rfl) ?_
  refine larg (k := 1) hF (LI_S hI) hl rfl rfl hi (by decide) dL_416 dL_417 dL_418 dL_419 dL_420 ?_
  refine W.eq (g2 := F0 m 421 Ls (([.int (xs (i + 1))] : List Value).reverse ++ .ref (aX 0) :: [])) rfl ?_
  refine lcase (jx := 91) (jm := 143) (px := 421) (pm := 430) (na := 1) hF hI p_style (by decide +kernel) rfl (by simp) wL_421 wL_430 dL_421 dL_430 dL_433 (by decide) hl.1 hu (fun H1 locs1 k1 k2 v hS1 hw => ?_) kk
  · refine lv_aload_n hF.1 hF.2.1 dL_424 rfl (lv_at hl 2 rfl) ?_
    refine larg (k := 1) hF hS1 hl rfl rfl hi (by decide) dL_425 dL_426 dL_427 dL_428 dL_429 ?_
    exact hw
theorem lc_6 (hF : LF p s m c b L xs) (hi : i + 9 ≤ L) (hI : LI s D H locs X Y aX cX tX aM cM tM) (hl : lv_has Ls 4 [(0, .ref b), (1, .ref (aX 0)), (2, .ref (aM 0)), (3, .int (nI i))]) (hu : u1 + 2 ≤ 600000 ∧ u2 + 250 ≤ 7302250)
    (kk : ∀ (H1 : Heap) (locs1 : List Loc) (X1 Y1 : gM) (aX1 : Nat → Nat) (cX1 : Nat → ClassId) (tX1 : List (ClassId × FieldType)) (aM1 : Nat → Nat) (cM1 : Nat → ClassId) (tM1 : List (ClassId × FieldType)), LI s D H1 locs1 X1 Y1 aX1 cX1 tX1 aM1 cM1 tM1 → aX1 0 = aX 0 → aM1 0 = aM 0 → W p l e room_1 s m #[Value.ref b] below meth c H1 locs1 (u1 + 2) (u2 + 250) Q (F0 m 1012 Ls [])) :
    W p l e room_1 s m #[Value.ref b] below meth c H locs u1 u2 Q (F0 m 438 Ls []) := by
  refine lv_aload_n hF.1 hF.2.1 dL_438 rfl (lv_at hl 1 rfl) ?_
  refine larg (k := 1) hF (LI_S hI) hl rfl rfl hi (by decide) dL_439 dL_440 dL_441 dL_442 dL_443 ?_
  refine larg (k := 2) hF (LI_S hI) hl rfl rfl hi (by decide) dL_444 dL_445 dL_446 dL_447 dL_448 ?_
  refine larg (k := 3) hF (LI_S hI) hl rfl rfl hi (by decide) dL_449 dL_450 dL_451 dL_452 dL_453 ?_
  refine larg (k := 4) hF (LI_S hI) hl rfl rfl hi (by decide) dL_454 dL_455 dL_456 dL_457 dL_458 ?_
  refine W.eq (g2 := F0 m 459 Ls (([.int (xs (i + 1)), .int (xs (i + 2)), .int (xs (i + 3)), .int (xs (i + 4))] : List Value).reverse ++ .ref (aX 0) :: [])) rfl ?_
  refine lcase (jx := 92) (jm := 166) (px := 459) (pm := 483) (na := 4) hF hI p_drape (by decide +kernel) rfl (by simp) wL_459 wL_483 dL_459 dL_483 dL_486 (by decide) hl.1 hu (fun H1 locs1 k1 k2 v hS1 hw => ?_) kk
  · refine lv_aload_n hF.1 hF.2.1 dL_462 rfl (lv_at hl 2 rfl) ?_
    refine larg (k := 1) hF hS1 hl rfl rfl hi (by decide) dL_463 dL_464 dL_465 dL_466 dL_467 ?_
    refine larg (k := 2) hF hS1 hl rfl rfl hi (by decide) dL_468 dL_469 dL_470 dL_471 dL_472 ?_
    refine larg (k := 3) hF hS1 hl rfl rfl hi (by decide) dL_473 dL_474 dL_475 dL_476 dL_477 ?_
    refine larg (k := 4) hF hS1 hl rfl rfl hi (by decide) dL_478 dL_479 dL_480 dL_481 dL_482 ?_
    exact hw
theorem lc_7 (hF : LF p s m c b L xs) (hi : i + 9 ≤ L) (hI : LI s D H locs X Y aX cX tX aM cM tM) (hl : lv_has Ls 4 [(0, .ref b), (1, .ref (aX 0)), (2, .ref (aM 0)), (3, .int (nI i))]) (hu : u1 + 2 ≤ 600000 ∧ u2 + 250 ≤ 7302250)
    (kk : ∀ (H1 : Heap) (locs1 : List Loc) (X1 Y1 : gM) (aX1 : Nat → Nat) (cX1 : Nat → ClassId) (tX1 : List (ClassId × FieldType)) (aM1 : Nat → Nat) (cM1 : Nat → ClassId) (tM1 : List (ClassId × FieldType)), LI s D H1 locs1 X1 Y1 aX1 cX1 tX1 aM1 cM1 tM1 → aX1 0 = aX 0 → aM1 0 = aM 0 → W p l e room_1 s m #[Value.ref b] below meth c H1 locs1 (u1 + 2) (u2 + 250) Q (F0 m 1012 Ls [])) :
    W p l e room_1 s m #[Value.ref b] below meth c H locs u1 u2 Q (F0 m 491 Ls []) := by
  refine lv_aload_n hF.1 hF.2.1 dL_491 rfl (lv_at hl 1 rfl) ?_
  refine larg (k := 1) hF (LI_S hI) hl rfl rfl hi (by decide) dL_492 dL_493 dL_494 dL_495 dL_496 ?_
  refine larg (k := 2) hF (LI_S hI) hl rfl rfl hi (by decide) dL_497 dL_498 dL_499 dL_500 dL_501 ?_
  refine W.eq (g2 := F0 m 502 Ls (([.int (xs (i + 1)), .int (xs (i + 2))] : List Value).reverse ++ .ref (aX 0) :: [])) rfl ?_
  refine lcase (jx := 93) (jm := 171) (px := 502) (pm := 516) (na := 2) hF hI p_shows (by decide +kernel) rfl (by simp) wL_502 wL_516 dL_502 dL_516 dL_519 (by decide) hl.1 hu (fun H1 locs1 k1 k2 v hS1 hw => ?_) kk
  · refine lv_aload_n hF.1 hF.2.1 dL_505 rfl (lv_at hl 2 rfl) ?_
    refine larg (k := 1) hF hS1 hl rfl rfl hi (by decide) dL_506 dL_507 dL_508 dL_509 dL_510 ?_
    refine larg (k := 2) hF hS1 hl rfl rfl hi (by decide) dL_511 dL_512 dL_513 dL_514 dL_515 ?_
    exact hw
theorem lc_8 (hF : LF p s m c b L xs) (hi : i + 9 ≤ L) (hI : LI s D H locs X Y aX cX tX aM cM tM) (hl : lv_has Ls 4 [(0, .ref b), (1, .ref (aX 0)), (2, .ref (aM 0)), (3, .int (nI i))]) (hu : u1 + 2 ≤ 600000 ∧ u2 + 250 ≤ 7302250)
    (kk : ∀ (H1 : Heap) (locs1 : List Loc) (X1 Y1 : gM) (aX1 : Nat → Nat) (cX1 : Nat → ClassId) (tX1 : List (ClassId × FieldType)) (aM1 : Nat → Nat) (cM1 : Nat → ClassId) (tM1 : List (ClassId × FieldType)), LI s D H1 locs1 X1 Y1 aX1 cX1 tX1 aM1 cM1 tM1 → aX1 0 = aX 0 → aM1 0 = aM 0 → W p l e room_1 s m #[Value.ref b] below meth c H1 locs1 (u1 + 2) (u2 + 250) Q (F0 m 1012 Ls [])) :
    W p l e room_1 s m #[Value.ref b] below meth c H locs u1 u2 Q (F0 m 524 Ls []) := by
  refine lv_aload_n hF.1 hF.2.1 dL_524 rfl (lv_at hl 1 rfl) ?_
  refine larg (k := 1) hF (LI_S hI) hl rfl rfl hi (by decide) dL_525 dL_526 dL_527 dL_528 dL_529 ?_
  refine larg (k := 2) hF (LI_S hI) hl rfl rfl hi (by decide) dL_530 dL_531 dL_532 dL_533 dL_534 ?_
  refine W.eq (g2 := F0 m 535 Ls (([.int (xs (i + 1)), .int (xs (i + 2))] : List Value).reverse ++ .ref (aX 0) :: [])) rfl ?_
  refine lcase (jx := 94) (jm := 172) (px := 535) (pm := 549) (na := 2) hF hI p_layers (by decide +kernel) rfl (by simp) wL_535 wL_549 dL_535 dL_549 dL_552 (by decide) hl.1 hu (fun H1 locs1 k1 k2 v hS1 hw => ?_) kk
  · refine lv_aload_n hF.1 hF.2.1 dL_538 rfl (lv_at hl 2 rfl) ?_
    refine larg (k := 1) hF hS1 hl rfl rfl hi (by decide) dL_539 dL_540 dL_541 dL_542 dL_543 ?_
    refine larg (k := 2) hF hS1 hl rfl rfl hi (by decide) dL_544 dL_545 dL_546 dL_547 dL_548 ?_
    exact hw
theorem lc_9 (hF : LF p s m c b L xs) (hi : i + 9 ≤ L) (hI : LI s D H locs X Y aX cX tX aM cM tM) (hl : lv_has Ls 4 [(0, .ref b), (1, .ref (aX 0)), (2, .ref (aM 0)), (3, .int (nI i))]) (hu : u1 + 2 ≤ 600000 ∧ u2 + 250 ≤ 7302250)
    (kk : ∀ (H1 : Heap) (locs1 : List Loc) (X1 Y1 : gM) (aX1 : Nat → Nat) (cX1 : Nat → ClassId) (tX1 : List (ClassId × FieldType)) (aM1 : Nat → Nat) (cM1 : Nat → ClassId) (tM1 : List (ClassId × FieldType)), LI s D H1 locs1 X1 Y1 aX1 cX1 tX1 aM1 cM1 tM1 → aX1 0 = aX 0 → aM1 0 = aM 0 → W p l e room_1 s m #[Value.ref b] below meth c H1 locs1 (u1 + 2) (u2 + 250) Q (F0 m 1012 Ls [])) :
    W p l e room_1 s m #[Value.ref b] below meth c H locs u1 u2 Q (F0 m 557 Ls []) := by
  refine lv_aload_n hF.1 hF.2.1 dL_557 rfl (lv_at hl 1 rfl) ?_
  refine larg (k := 1) hF (LI_S hI) hl rfl rfl hi (by decide) dL_558 dL_559 dL_560 dL_561 dL_562 ?_
  refine larg (k := 2) hF (LI_S hI) hl rfl rfl hi (by decide) dL_563 dL_564 dL_565 dL_566 dL_567 ?_
  refine W.eq (g2 := F0 m 568 Ls (([.int (xs (i + 1)), .int (xs (i + 2))] : List Value).reverse ++ .ref (aX 0) :: [])) rfl ?_
  refine lcase (jx := 95) (jm := 173) (px := 568) (pm := 582) (na := 2) hF hI p_layer (by decide +kernel) rfl (by simp) wL_568 wL_582 dL_568 dL_582 dL_585 (by decide) hl.1 hu (fun H1 locs1 k1 k2 v hS1 hw => ?_) kk
  · refine lv_aload_n hF.1 hF.2.1 dL_571 rfl (lv_at hl 2 rfl) ?_
    refine larg (k := 1) hF hS1 hl rfl rfl hi (by decide) dL_572 dL_573 dL_574 dL_575 dL_576 ?_
    refine larg (k := 2) hF hS1 hl rfl rfl hi (by decide) dL_577 dL_578 dL_579 dL_580 dL_581 ?_
    exact hw
theorem lc_10 (hF : LF p s m c b L xs) (hi : i + 9 ≤ L) (hI : LI s D H locs X Y aX cX tX aM cM tM) (hl : lv_has Ls 4 [(0, .ref b), (1, .ref (aX 0)), (2, .ref (aM 0)), (3, .int (nI i))]) (hu : u1 + 2 ≤ 600000 ∧ u2 + 250 ≤ 7302250)
    (kk : ∀ (H1 : Heap) (locs1 : List Loc) (X1 Y1 : gM) (aX1 : Nat → Nat) (cX1 : Nat → ClassId) (tX1 : List (ClassId × FieldType)) (aM1 : Nat → Nat) (cM1 : Nat → ClassId) (tM1 : List (ClassId × FieldType)), LI s D H1 locs1 X1 Y1 aX1 cX1 tX1 aM1 cM1 tM1 → aX1 0 = aX 0 → aM1 0 = aM 0 → W p l e room_1 s m #[Value.ref b] below meth c H1 locs1 (u1 + 2) (u2 + 250) Q (F0 m 1012 Ls [])) :
    W p l e room_1 s m #[Value.ref b] below meth c H locs u1 u2 Q (F0 m 590 Ls []) := by
  refine lv_aload_n hF.1 hF.2.1 dL_590 rfl (lv_at hl 1 rfl) ?_
  refine larg (k := 1) hF (LI_S hI) hl rfl rfl hi (by decide) dL_591 dL_592 dL_593 dL_594 dL_595 ?_
  refine W.eq (g2 := F0 m 596 Ls (([.int (xs (i + 1))] : List Value).reverse ++ .ref (aX 0) :: [])) rfl ?_
  refine lcase (jx := 96) (jm := 175) (px := 596) (pm := 605) (na := 1) hF hI p_look (by decide +kernel) rfl (by simp) wL_596 wL_605 dL_596 dL_605 dL_608 (by decide) hl.1 hu (fun H1 locs1 k1 k2 v hS1 hw => ?_) kk
  · refine lv_aload_n hF.1 hF.2.1 dL_599 rfl (lv_at hl 2 rfl) ?_
    refine larg (k := 1) hF hS1 hl rfl rfl hi (by decide) dL_600 dL_601 dL_602 dL_603 dL_604 ?_
    exact hw
theorem lc_11 (hF : LF p s m c b L xs) (hi : i + 9 ≤ L) (hI : LI s D H locs X Y aX cX tX aM cM tM) (hl : lv_has Ls 4 [(0, .ref b), (1, .ref (aX 0)), (2, .ref (aM 0)), (3, .int (nI i))]) (hu : u1 + 2 ≤ 600000 ∧ u2 + 250 ≤ 7302250)
    (kk : ∀ (H1 : Heap) (locs1 : List Loc) (X1 Y1 : gM) (aX1 : Nat → Nat) (cX1 : Nat → ClassId) (tX1 : List (ClassId × FieldType)) (aM1 : Nat → Nat) (cM1 : Nat → ClassId) (tM1 : List (ClassId × FieldType)), LI s D H1 locs1 X1 Y1 aX1 cX1 tX1 aM1 cM1 tM1 → aX1 0 = aX 0 → aM1 0 = aM 0 → W p l e room_1 s m #[Value.ref b] below meth c H1 locs1 (u1 + 2) (u2 + 250) Q (F0 m 1012 Ls [])) :
    W p l e room_1 s m #[Value.ref b] below meth c H locs u1 u2 Q (F0 m 613 Ls []) := by
  refine lv_aload_n hF.1 hF.2.1 dL_613 rfl (lv_at hl 1 rfl) ?_
  refine larg (k := 1) hF (LI_S hI) hl rfl rfl hi (by decide) dL_614 dL_615 dL_616 dL_617 dL_618 ?_
  refine W.eq (g2 := F0 m 619 Ls (([.int (xs (i + 1))] : List Value).reverse ++ .ref (aX 0) :: [])) rfl ?_
  refine lcase (jx := 97) (jm := 178) (px := 619) (pm := 628) (na := 1) hF hI p_strength (by decide +kernel) rfl (by simp) wL_619 wL_628 dL_619 dL_628 dL_631 (by decide) hl.1 hu (fun H1 locs1 k1 k2 v hS1 hw => ?_) kk
  · refine lv_aload_n hF.1 hF.2.1 dL_622 rfl (lv_at hl 2 rfl) ?_
    refine larg (k := 1) hF hS1 hl rfl rfl hi (by decide) dL_623 dL_624 dL_625 dL_626 dL_627 ?_
    exact hw
theorem lc_12 (hF : LF p s m c b L xs) (hi : i + 9 ≤ L) (hI : LI s D H locs X Y aX cX tX aM cM tM) (hl : lv_has Ls 4 [(0, .ref b), (1, .ref (aX 0)), (2, .ref (aM 0)), (3, .int (nI i))]) (hu : u1 + 2 ≤ 600000 ∧ u2 + 250 ≤ 7302250)
    (kk : ∀ (H1 : Heap) (locs1 : List Loc) (X1 Y1 : gM) (aX1 : Nat → Nat) (cX1 : Nat → ClassId) (tX1 : List (ClassId × FieldType)) (aM1 : Nat → Nat) (cM1 : Nat → ClassId) (tM1 : List (ClassId × FieldType)), LI s D H1 locs1 X1 Y1 aX1 cX1 tX1 aM1 cM1 tM1 → aX1 0 = aX 0 → aM1 0 = aM 0 → W p l e room_1 s m #[Value.ref b] below meth c H1 locs1 (u1 + 2) (u2 + 250) Q (F0 m 1012 Ls [])) :
    W p l e room_1 s m #[Value.ref b] below meth c H locs u1 u2 Q (F0 m 636 Ls []) := by
  refine lv_aload_n hF.1 hF.2.1 dL_636 rfl (lv_at hl 1 rfl) ?_
  refine larg (k := 1) hF (LI_S hI) hl rfl rfl hi (by decide) dL_637 dL_638 dL_639 dL_640 dL_641 ?_
  refine larg (k := 2) hF (LI_S hI) hl rfl rfl hi (by decide) dL_642 dL_643 dL_644 dL_645 dL_646 ?_
  refine larg (k := 3) hF (LI_S hI) hl rfl rfl hi (by decide) dL_647 dL_648 dL_649 dL_650 dL_651 ?_
  refine W.eq (g2 := F0 m 652 Ls (([.int (xs (i + 1)), .int (xs (i + 2)), .int (xs (i + 3))] : List Value).reverse ++ .ref (aX 0) :: [])) rfl ?_
  refine lcase (jx := 98) (jm := 179) (px := 652) (pm := 671) (na := 3) hF hI p_stretch (by decide +kernel) rfl (by simp) wL_652 wL_671 dL_652 dL_671 dL_674 (by decide) hl.1 hu (fun H1 locs1 k1 k2 v hS1 hw => ?_) kk
  · refine lv_aload_n hF.1 hF.2.1 dL_655 rfl (lv_at hl 2 rfl) ?_
    refine larg (k := 1) hF hS1 hl rfl rfl hi (by decide) dL_656 dL_657 dL_658 dL_659 dL_660 ?_
    refine larg (k := 2) hF hS1 hl rfl rfl hi (by decide) dL_661 dL_662 dL_663 dL_664 dL_665 ?_
    refine larg (k := 3) hF hS1 hl rfl rfl hi (by decide) dL_666 dL_667 dL_668 dL_669 dL_670 ?_
    exact hw
theorem lc_13 (hF : LF p s m c b L xs) (hi : i + 9 ≤ L) (hI : LI s D H locs X Y aX cX tX aM cM tM) (hl : lv_has Ls 4 [(0, .ref b), (1, .ref (aX 0)), (2, .ref (aM 0)), (3, .int (nI i))]) (hu : u1 + 2 ≤ 600000 ∧ u2 + 250 ≤ 7302250)
    (kk : ∀ (H1 : Heap) (locs1 : List Loc) (X1 Y1 : gM) (aX1 : Nat → Nat) (cX1 : Nat → ClassId) (tX1 : List (ClassId × FieldType)) (aM1 : Nat → Nat) (cM1 : Nat → ClassId) (tM1 : List (ClassId × FieldType)), LI s D H1 locs1 X1 Y1 aX1 cX1 tX1 aM1 cM1 tM1 → aX1 0 = aX 0 → aM1 0 = aM 0 → W p l e room_1 s m #[Value.ref b] below meth c H1 locs1 (u1 + 2) (u2 + 250) Q (F0 m 1012 Ls [])) :
    W p l e room_1 s m #[Value.ref b] below meth c H locs u1 u2 Q (F0 m 679 Ls []) := by
  refine lv_aload_n hF.1 hF.2.1 dL_679 rfl (lv_at hl 1 rfl) ?_
  refine larg (k := 1) hF (LI_S hI) hl rfl rfl hi (by decide) dL_680 dL_681 dL_682 dL_683 dL_684 ?_
  refine larg (k := 2) hF (LI_S hI) hl rfl rfl hi (by decide) dL_685 dL_686 dL_687 dL_688 dL_689 ?_
  refine W.eq (g2 := F0 m 690 Ls (([.int (xs (i + 1)), .int (xs (i + 2))] : List Value).reverse ++ .ref (aX 0) :: [])) rfl ?_
  refine lcase (jx := 99) (jm := 181) (px := 690) (pm := 704) (na := 2) hF hI p_pull (by decide +kernel) rfl (by simp) wL_690 wL_704 dL_690 dL_704 dL_707 (by decide) hl.1 hu (fun H1 locs1 k1 k2 v hS1 hw => ?_) kk
  · refine lv_aload_n hF.1 hF.2.1 dL_693 rfl (lv_at hl 2 rfl) ?_
    refine larg (k := 1) hF hS1 hl rfl rfl hi (by decide) dL_694 dL_695 dL_696 dL_697 dL_698 ?_
    refine larg (k := 2) hF hS1 hl rfl rfl hi (by decide) dL_699 dL_700 dL_701 dL_702 dL_703 ?_
    exact hw
theorem lc_14 (hF : LF p s m c b L xs) (hi : i + 9 ≤ L) (hI : LI s D H locs X Y aX cX tX aM cM tM) (hl : lv_has Ls 4 [(0, .ref b), (1, .ref (aX 0)), (2, .ref (aM 0)), (3, .int (nI i))]) (hu : u1 + 2 ≤ 600000 ∧ u2 + 250 ≤ 7302250)
    (kk : ∀ (H1 : Heap) (locs1 : List Loc) (X1 Y1 : gM) (aX1 : Nat → Nat) (cX1 : Nat → ClassId) (tX1 : List (ClassId × FieldType)) (aM1 : Nat → Nat) (cM1 : Nat → ClassId) (tM1 : List (ClassId × FieldType)), LI s D H1 locs1 X1 Y1 aX1 cX1 tX1 aM1 cM1 tM1 → aX1 0 = aX 0 → aM1 0 = aM 0 → W p l e room_1 s m #[Value.ref b] below meth c H1 locs1 (u1 + 2) (u2 + 250) Q (F0 m 1012 Ls [])) :
    W p l e room_1 s m #[Value.ref b] below meth c H locs u1 u2 Q (F0 m 712 Ls []) := by
  refine lv_aload_n hF.1 hF.2.1 dL_712 rfl (lv_at hl 1 rfl) ?_
  refine larg (k := 1) hF (LI_S hI) hl rfl rfl hi (by decide) dL_713 dL_714 dL_715 dL_716 dL_717 ?_
  refine W.eq (g2 := F0 m 718 Ls (([.int (xs (i + 1))] : List Value).reverse ++ .ref (aX 0) :: [])) rfl ?_
  refine lcase (jx := 100) (jm := 183) (px := 718) (pm := 727) (na := 1) hF hI p_moves (by decide +kernel) rfl (by simp) wL_718 wL_727 dL_718 dL_727 dL_730 (by decide) hl.1 hu (fun H1 locs1 k1 k2 v hS1 hw => ?_) kk
  · refine lv_aload_n hF.1 hF.2.1 dL_721 rfl (lv_at hl 2 rfl) ?_
    refine larg (k := 1) hF hS1 hl rfl rfl hi (by decide) dL_722 dL_723 dL_724 dL_725 dL_726 ?_
    exact hw
theorem lc_15 (hF : LF p s m c b L xs) (hi : i + 9 ≤ L) (hI : LI s D H locs X Y aX cX tX aM cM tM) (hl : lv_has Ls 4 [(0, .ref b), (1, .ref (aX 0)), (2, .ref (aM 0)), (3, .int (nI i))]) (hu : u1 + 2 ≤ 600000 ∧ u2 + 250 ≤ 7302250)
    (kk : ∀ (H1 : Heap) (locs1 : List Loc) (X1 Y1 : gM) (aX1 : Nat → Nat) (cX1 : Nat → ClassId) (tX1 : List (ClassId × FieldType)) (aM1 : Nat → Nat) (cM1 : Nat → ClassId) (tM1 : List (ClassId × FieldType)), LI s D H1 locs1 X1 Y1 aX1 cX1 tX1 aM1 cM1 tM1 → aX1 0 = aX 0 → aM1 0 = aM 0 → W p l e room_1 s m #[Value.ref b] below meth c H1 locs1 (u1 + 2) (u2 + 250) Q (F0 m 1012 Ls [])) :
    W p l e room_1 s m #[Value.ref b] below meth c H locs u1 u2 Q (F0 m 735 Ls []) := by
  refine lv_aload_n hF.1 hF.2.1 dL_735 rfl (lv_at hl 1 rfl) ?_
  refine larg (k := 1) hF (LI_S hI) hl rfl rfl hi (by decide) dL_736 dL_737 dL_738 dL_739 dL_740 ?_
  refine W.eq (g2 := F0 m 741 Ls (([.int (xs (i + 1))] : List Value).reverse ++ .ref (aX 0) :: [])) rfl ?_
  refine lcase (jx := 101) (jm := 184) (px := 741) (pm := 750) (na := 1) hF hI p_slipped (by decide +kernel) rfl (by simp) wL_741 wL_750 dL_741 dL_750 dL_753 (by decide) hl.1 hu (fun H1 locs1 k1 k2 v hS1 hw => ?_) kk
  · refine lv_aload_n hF.1 hF.2.1 dL_744 rfl (lv_at hl 2 rfl) ?_
    refine larg (k := 1) hF hS1 hl rfl rfl hi (by decide) dL_745 dL_746 dL_747 dL_748 dL_749 ?_
    exact hw
theorem lc_16 (hF : LF p s m c b L xs) (hi : i + 9 ≤ L) (hI : LI s D H locs X Y aX cX tX aM cM tM) (hl : lv_has Ls 4 [(0, .ref b), (1, .ref (aX 0)), (2, .ref (aM 0)), (3, .int (nI i))]) (hu : u1 + 2 ≤ 600000 ∧ u2 + 250 ≤ 7302250)
    (kk : ∀ (H1 : Heap) (locs1 : List Loc) (X1 Y1 : gM) (aX1 : Nat → Nat) (cX1 : Nat → ClassId) (tX1 : List (ClassId × FieldType)) (aM1 : Nat → Nat) (cM1 : Nat → ClassId) (tM1 : List (ClassId × FieldType)), LI s D H1 locs1 X1 Y1 aX1 cX1 tX1 aM1 cM1 tM1 → aX1 0 = aX 0 → aM1 0 = aM 0 → W p l e room_1 s m #[Value.ref b] below meth c H1 locs1 (u1 + 2) (u2 + 250) Q (F0 m 1012 Ls [])) :
    W p l e room_1 s m #[Value.ref b] below meth c H locs u1 u2 Q (F0 m 758 Ls []) := by
  refine lv_aload_n hF.1 hF.2.1 dL_758 rfl (lv_at hl 1 rfl) ?_
  refine larg (k := 1) hF (LI_S hI) hl rfl rfl hi (by decide) dL_759 dL_760 dL_761 dL_762 dL_763 ?_
  refine larg (k := 2) hF (LI_S hI) hl rfl rfl hi (by decide) dL_764 dL_765 dL_766 dL_767 dL_768 ?_
  refine W.eq (g2 := F0 m 769 Ls (([.int (xs (i + 1)), .int (xs (i + 2))] : List Value).reverse ++ .ref (aX 0) :: [])) rfl ?_
  refine lcase (jx := 102) (jm := 185) (px := 769) (pm := 783) (na := 2) hF hI p_after (by decide +kernel) rfl (by simp) wL_769 wL_783 dL_769 dL_783 dL_786 (by decide) hl.1 hu (fun H1 locs1 k1 k2 v hS1 hw => ?_) kk
  · refine lv_aload_n hF.1 hF.2.1 dL_772 rfl (lv_at hl 2 rfl) ?_
    refine larg (k := 1) hF hS1 hl rfl rfl hi (by decide) dL_773 dL_774 dL_775 dL_776 dL_777 ?_
    refine larg (k := 2) hF hS1 hl rfl rfl hi (by decide) dL_778 dL_779 dL_780 dL_781 dL_782 ?_
    exact hw
theorem lc_17 (hF : LF p s m c b L xs) (hi : i + 9 ≤ L) (hI : LI s D H locs X Y aX cX tX aM cM tM) (hl : lv_has Ls 4 [(0, .ref b), (1, .ref (aX 0)), (2, .ref (aM 0)), (3, .int (nI i))]) (hu : u1 + 2 ≤ 600000 ∧ u2 + 250 ≤ 7302250)
    (kk : ∀ (H1 : Heap) (locs1 : List Loc) (X1 Y1 : gM) (aX1 : Nat → Nat) (cX1 : Nat → ClassId) (tX1 : List (ClassId × FieldType)) (aM1 : Nat → Nat) (cM1 : Nat → ClassId) (tM1 : List (ClassId × FieldType)), LI s D H1 locs1 X1 Y1 aX1 cX1 tX1 aM1 cM1 tM1 → aX1 0 = aX 0 → aM1 0 = aM 0 → W p l e room_1 s m #[Value.ref b] below meth c H1 locs1 (u1 + 2) (u2 + 250) Q (F0 m 1012 Ls [])) :
    W p l e room_1 s m #[Value.ref b] below meth c H locs u1 u2 Q (F0 m 791 Ls []) := by
  refine lv_aload_n hF.1 hF.2.1 dL_791 rfl (lv_at hl 1 rfl) ?_
  refine W.eq (g2 := F0 m 792 Ls (([] : List Value).reverse ++ .ref (aX 0) :: [])) rfl ?_
  refine lcase (jx := 103) (jm := 186) (px := 792) (pm := 796) (na := 0) hF hI p_fix (by decide +kernel) rfl (by simp) wL_792 wL_796 dL_792 dL_796 dL_799 (by decide) hl.1 hu (fun H1 locs1 k1 k2 v hS1 hw => ?_) kk
  · refine lv_aload_n hF.1 hF.2.1 dL_795 rfl (lv_at hl 2 rfl) ?_
    exact hw
theorem lc_18 (hF : LF p s m c b L xs) (hi : i + 9 ≤ L) (hI : LI s D H locs X Y aX cX tX aM cM tM) (hl : lv_has Ls 4 [(0, .ref b), (1, .ref (aX 0)), (2, .ref (aM 0)), (3, .int (nI i))]) (hu : u1 + 2 ≤ 600000 ∧ u2 + 250 ≤ 7302250)
    (kk : ∀ (H1 : Heap) (locs1 : List Loc) (X1 Y1 : gM) (aX1 : Nat → Nat) (cX1 : Nat → ClassId) (tX1 : List (ClassId × FieldType)) (aM1 : Nat → Nat) (cM1 : Nat → ClassId) (tM1 : List (ClassId × FieldType)), LI s D H1 locs1 X1 Y1 aX1 cX1 tX1 aM1 cM1 tM1 → aX1 0 = aX 0 → aM1 0 = aM 0 → W p l e room_1 s m #[Value.ref b] below meth c H1 locs1 (u1 + 2) (u2 + 250) Q (F0 m 1012 Ls [])) :
    W p l e room_1 s m #[Value.ref b] below meth c H locs u1 u2 Q (F0 m 804 Ls []) := by
  refine lv_aload_n hF.1 hF.2.1 dL_804 rfl (lv_at hl 1 rfl) ?_
  refine W.eq (g2 := F0 m 805 Ls (([] : List Value).reverse ++ .ref (aX 0) :: [])) rfl ?_
  refine lcase (jx := 104) (jm := 187) (px := 805) (pm := 809) (na := 0) hF hI p_breaths (by decide +kernel) rfl (by simp) wL_805 wL_809 dL_805 dL_809 dL_812 (by decide) hl.1 hu (fun H1 locs1 k1 k2 v hS1 hw => ?_) kk
  · refine lv_aload_n hF.1 hF.2.1 dL_808 rfl (lv_at hl 2 rfl) ?_
    exact hw
theorem lc_19 (hF : LF p s m c b L xs) (hi : i + 9 ≤ L) (hI : LI s D H locs X Y aX cX tX aM cM tM) (hl : lv_has Ls 4 [(0, .ref b), (1, .ref (aX 0)), (2, .ref (aM 0)), (3, .int (nI i))]) (hu : u1 + 2 ≤ 600000 ∧ u2 + 250 ≤ 7302250)
    (kk : ∀ (H1 : Heap) (locs1 : List Loc) (X1 Y1 : gM) (aX1 : Nat → Nat) (cX1 : Nat → ClassId) (tX1 : List (ClassId × FieldType)) (aM1 : Nat → Nat) (cM1 : Nat → ClassId) (tM1 : List (ClassId × FieldType)), LI s D H1 locs1 X1 Y1 aX1 cX1 tX1 aM1 cM1 tM1 → aX1 0 = aX 0 → aM1 0 = aM 0 → W p l e room_1 s m #[Value.ref b] below meth c H1 locs1 (u1 + 2) (u2 + 250) Q (F0 m 1012 Ls [])) :
    W p l e room_1 s m #[Value.ref b] below meth c H locs u1 u2 Q (F0 m 817 Ls []) := by
  refine lv_aload_n hF.1 hF.2.1 dL_817 rfl (lv_at hl 1 rfl) ?_
  refine larg (k := 1) hF (LI_S hI) hl rfl rfl hi (by decide) dL_818 dL_819 dL_820 dL_821 dL_822 ?_
  refine larg (k := 2) hF (LI_S hI) hl rfl rfl hi (by decide) dL_823 dL_824 dL_825 dL_826 dL_827 ?_
  refine larg (k := 3) hF (LI_S hI) hl rfl rfl hi (by decide) dL_828 dL_829 dL_830 dL_831 dL_832 ?_
  refine larg (k := 4) hF (LI_S hI) hl rfl rfl hi (by decide) dL_833 dL_834 dL_835 dL_836 dL_837 ?_
  refine W.eq (g2 := F0 m 838 Ls (([.int (xs (i + 1)), .int (xs (i + 2)), .int (xs (i + 3)), .int (xs (i + 4))] : List Value).reverse ++ .ref (aX 0) :: [])) rfl ?_
  refine lcase (jx := 105) (jm := 188) (px := 838) (pm := 862) (na := 4) hF hI p_short (by decide +kernel) rfl (by simp) wL_838 wL_862 dL_838 dL_862 dL_865 (by decide) hl.1 hu (fun H1 locs1 k1 k2 v hS1 hw => ?_) kk
  · refine lv_aload_n hF.1 hF.2.1 dL_841 rfl (lv_at hl 2 rfl) ?_
    refine larg (k := 1) hF hS1 hl rfl rfl hi (by decide) dL_842 dL_843 dL_844 dL_845 dL_846 ?_
    refine larg (k := 2) hF hS1 hl rfl rfl hi (by decide) dL_847 dL_848 dL_849 dL_850 dL_851 ?_
    refine larg (k := 3) hF hS1 hl rfl rfl hi (by decide) dL_852 dL_853 dL_854 dL_855 dL_856 ?_
    refine larg (k := 4) hF hS1 hl rfl rfl hi (by decide) dL_857 dL_858 dL_859 dL_860 dL_861 ?_
    exact hw
theorem lc_20 (hF : LF p s m c b L xs) (hi : i + 9 ≤ L) (hI : LI s D H locs X Y aX cX tX aM cM tM) (hl : lv_has Ls 4 [(0, .ref b), (1, .ref (aX 0)), (2, .ref (aM 0)), (3, .int (nI i))]) (hu : u1 + 2 ≤ 600000 ∧ u2 + 250 ≤ 7302250)
    (kk : ∀ (H1 : Heap) (locs1 : List Loc) (X1 Y1 : gM) (aX1 : Nat → Nat) (cX1 : Nat → ClassId) (tX1 : List (ClassId × FieldType)) (aM1 : Nat → Nat) (cM1 : Nat → ClassId) (tM1 : List (ClassId × FieldType)), LI s D H1 locs1 X1 Y1 aX1 cX1 tX1 aM1 cM1 tM1 → aX1 0 = aX 0 → aM1 0 = aM 0 → W p l e room_1 s m #[Value.ref b] below meth c H1 locs1 (u1 + 2) (u2 + 250) Q (F0 m 1012 Ls [])) :
    W p l e room_1 s m #[Value.ref b] below meth c H locs u1 u2 Q (F0 m 870 Ls []) := by
  refine lv_aload_n hF.1 hF.2.1 dL_870 rfl (lv_at hl 1 rfl) ?_
  refine larg (k := 1) hF (LI_S hI) hl rfl rfl hi (by decide) dL_871 dL_872 dL_873 dL_874 dL_875 ?_
  refine larg (k := 2) hF (LI_S hI) hl rfl rfl hi (by decide) dL_876 dL_877 dL_878 dL_879 dL_880 ?_
  refine larg (k := 3) hF (LI_S hI) hl rfl rfl hi (by decide) dL_881 dL_882 dL_883 dL_884 dL_885 ?_
  refine larg (k := 4) hF (LI_S hI) hl rfl rfl hi (by decide) dL_886 dL_887 dL_888 dL_889 dL_890 ?_
  refine larg (k := 5) hF (LI_S hI) hl rfl rfl hi (by decide) dL_891 dL_892 dL_893 dL_894 dL_895 ?_
  refine W.eq (g2 := F0 m 896 Ls (([.int (xs (i + 1)), .int (xs (i + 2)), .int (xs (i + 3)), .int (xs (i + 4)), .int (xs (i + 5))] : List Value).reverse ++ .ref (aX 0) :: [])) rfl ?_
  refine lcase (jx := 106) (jm := 189) (px := 896) (pm := 925) (na := 5) hF hI p_solve (by decide +kernel) rfl (by simp) wL_896 wL_925 dL_896 dL_925 dL_928 (by decide) hl.1 hu (fun H1 locs1 k1 k2 v hS1 hw => ?_) kk
  · refine lv_aload_n hF.1 hF.2.1 dL_899 rfl (lv_at hl 2 rfl) ?_
    refine larg (k := 1) hF hS1 hl rfl rfl hi (by decide) dL_900 dL_901 dL_902 dL_903 dL_904 ?_
    refine larg (k := 2) hF hS1 hl rfl rfl hi (by decide) dL_905 dL_906 dL_907 dL_908 dL_909 ?_
    refine larg (k := 3) hF hS1 hl rfl rfl hi (by decide) dL_910 dL_911 dL_912 dL_913 dL_914 ?_
    refine larg (k := 4) hF hS1 hl rfl rfl hi (by decide) dL_915 dL_916 dL_917 dL_918 dL_919 ?_
    refine larg (k := 5) hF hS1 hl rfl rfl hi (by decide) dL_920 dL_921 dL_922 dL_923 dL_924 ?_
    exact hw
theorem lc_21 (hF : LF p s m c b L xs) (hi : i + 9 ≤ L) (hI : LI s D H locs X Y aX cX tX aM cM tM) (hl : lv_has Ls 4 [(0, .ref b), (1, .ref (aX 0)), (2, .ref (aM 0)), (3, .int (nI i))]) (hu : u1 + 2 ≤ 600000 ∧ u2 + 250 ≤ 7302250)
    (kk : ∀ (H1 : Heap) (locs1 : List Loc) (X1 Y1 : gM) (aX1 : Nat → Nat) (cX1 : Nat → ClassId) (tX1 : List (ClassId × FieldType)) (aM1 : Nat → Nat) (cM1 : Nat → ClassId) (tM1 : List (ClassId × FieldType)), LI s D H1 locs1 X1 Y1 aX1 cX1 tX1 aM1 cM1 tM1 → aX1 0 = aX 0 → aM1 0 = aM 0 → W p l e room_1 s m #[Value.ref b] below meth c H1 locs1 (u1 + 2) (u2 + 250) Q (F0 m 1012 Ls [])) :
    W p l e room_1 s m #[Value.ref b] below meth c H locs u1 u2 Q (F0 m 933 Ls []) := by
  refine lv_aload_n hF.1 hF.2.1 dL_933 rfl (lv_at hl 1 rfl) ?_
  refine larg (k := 1) hF (LI_S hI) hl rfl rfl hi (by decide) dL_934 dL_935 dL_936 dL_937 dL_938 ?_
  refine larg (k := 2) hF (LI_S hI) hl rfl rfl hi (by decide) dL_939 dL_940 dL_941 dL_942 dL_943 ?_
  refine W.eq (g2 := F0 m 944 Ls (([.int (xs (i + 1)), .int (xs (i + 2))] : List Value).reverse ++ .ref (aX 0) :: [])) rfl ?_
  refine lcase (jx := 107) (jm := 194) (px := 944) (pm := 958) (na := 2) hF hI p_read (by decide +kernel) rfl (by simp) wL_944 wL_958 dL_944 dL_958 dL_961 (by decide) hl.1 hu (fun H1 locs1 k1 k2 v hS1 hw => ?_) kk
  · refine lv_aload_n hF.1 hF.2.1 dL_947 rfl (lv_at hl 2 rfl) ?_
    refine larg (k := 1) hF hS1 hl rfl rfl hi (by decide) dL_948 dL_949 dL_950 dL_951 dL_952 ?_
    refine larg (k := 2) hF hS1 hl rfl rfl hi (by decide) dL_953 dL_954 dL_955 dL_956 dL_957 ?_
    exact hw
theorem lc_22 (hF : LF p s m c b L xs) (hi : i + 9 ≤ L) (hI : LI s D H locs X Y aX cX tX aM cM tM) (hl : lv_has Ls 4 [(0, .ref b), (1, .ref (aX 0)), (2, .ref (aM 0)), (3, .int (nI i))]) (hu : u1 + 2 ≤ 600000 ∧ u2 + 250 ≤ 7302250)
    (kk : ∀ (H1 : Heap) (locs1 : List Loc) (X1 Y1 : gM) (aX1 : Nat → Nat) (cX1 : Nat → ClassId) (tX1 : List (ClassId × FieldType)) (aM1 : Nat → Nat) (cM1 : Nat → ClassId) (tM1 : List (ClassId × FieldType)), LI s D H1 locs1 X1 Y1 aX1 cX1 tX1 aM1 cM1 tM1 → aX1 0 = aX 0 → aM1 0 = aM 0 → W p l e room_1 s m #[Value.ref b] below meth c H1 locs1 (u1 + 2) (u2 + 250) Q (F0 m 1012 Ls [])) :
    W p l e room_1 s m #[Value.ref b] below meth c H locs u1 u2 Q (F0 m 966 Ls []) := by
  refine lv_aload_n hF.1 hF.2.1 dL_966 rfl (lv_at hl 1 rfl) ?_
  refine larg (k := 1) hF (LI_S hI) hl rfl rfl hi (by decide) dL_967 dL_968 dL_969 dL_970 dL_971 ?_
  refine W.eq (g2 := F0 m 972 Ls (([.int (xs (i + 1))] : List Value).reverse ++ .ref (aX 0) :: [])) rfl ?_
  refine lcase (jx := 108) (jm := 195) (px := 972) (pm := 981) (na := 1) hF hI p_wrote (by decide +kernel) rfl (by simp) wL_972 wL_981 dL_972 dL_981 dL_984 (by decide) hl.1 hu (fun H1 locs1 k1 k2 v hS1 hw => ?_) kk
  · refine lv_aload_n hF.1 hF.2.1 dL_975 rfl (lv_at hl 2 rfl) ?_
    refine larg (k := 1) hF hS1 hl rfl rfl hi (by decide) dL_976 dL_977 dL_978 dL_979 dL_980 ?_
    exact hw
theorem lc_23 (hF : LF p s m c b L xs) (hi : i + 9 ≤ L) (hI : LI s D H locs X Y aX cX tX aM cM tM) (hl : lv_has Ls 4 [(0, .ref b), (1, .ref (aX 0)), (2, .ref (aM 0)), (3, .int (nI i))]) (hu : u1 + 2 ≤ 600000 ∧ u2 + 250 ≤ 7302250)
    (kk : ∀ (H1 : Heap) (locs1 : List Loc) (X1 Y1 : gM) (aX1 : Nat → Nat) (cX1 : Nat → ClassId) (tX1 : List (ClassId × FieldType)) (aM1 : Nat → Nat) (cM1 : Nat → ClassId) (tM1 : List (ClassId × FieldType)), LI s D H1 locs1 X1 Y1 aX1 cX1 tX1 aM1 cM1 tM1 → aX1 0 = aX 0 → aM1 0 = aM 0 → W p l e room_1 s m #[Value.ref b] below meth c H1 locs1 (u1 + 2) (u2 + 250) Q (F0 m 1012 Ls [])) :
    W p l e room_1 s m #[Value.ref b] below meth c H locs u1 u2 Q (F0 m 989 Ls []) := by
  refine lv_aload_n hF.1 hF.2.1 dL_989 rfl (lv_at hl 1 rfl) ?_
  refine larg (k := 1) hF (LI_S hI) hl rfl rfl hi (by decide) dL_990 dL_991 dL_992 dL_993 dL_994 ?_
  refine W.eq (g2 := F0 m 995 Ls (([.int (xs (i + 1))] : List Value).reverse ++ .ref (aX 0) :: [])) rfl ?_
  refine lcase (jx := 109) (jm := 196) (px := 995) (pm := 1004) (na := 1) hF hI p_count (by decide +kernel) rfl (by simp) wL_995 wL_1004 dL_995 dL_1004 dL_1007 (by decide) hl.1 hu (fun H1 locs1 k1 k2 v hS1 hw => ?_) kk
  · refine lv_aload_n hF.1 hF.2.1 dL_998 rfl (lv_at hl 2 rfl) ?_
    refine larg (k := 1) hF hS1 hl rfl rfl hi (by decide) dL_999 dL_1000 dL_1001 dL_1002 dL_1003 ?_
    exact hw
end LAW2

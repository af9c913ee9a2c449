set_option maxHeartbeats 4000000 in
set_option maxRecDepth 100000 in
theorem law_case_0 {G : gG} {p : Program} {e : Env} {s : State} {m : MethodId} {below : List Frame} {meth : Method} {c : Code} {b L : Nat} {xs : Nat → Int32} {fx fy : Nat → Nat → Nat} (hL : L ≤ 4608) (C0 : lw_At p s m meth c b L xs) (hK : wK G s) (hdj : dj fx fy) {sx sy : sG} {M : wM} {i : Int} (hi0 : 0 ≤ i) (hi9 : i + 9 ≤ L) (hX : wX G fx sx M) (hY : wY G fy sy M) (hlit : lt2 sx sy) (hend : ∀ sx sy M, wX G fx sx M → wY G fy sy M → lt2 sx sy → wL G p e s m below meth c b 198 12034 1075 [(0, .ref b), (1, .ref (fx 0 0)), (2, .ref (fy 0 0)), (3, .int (gI i))] [] M) : wL G p e s m below meth c b 198 12034 140 [(0, .ref b), (1, .ref (fx 0 0)), (2, .ref (fy 0 0)), (3, .int (gI i))] [] M := by
  refine u_aloadn C0 dL_law_140 rfl ?_
  refine u_aloadn C0 dL_law_141 rfl ?_
  refine u_iloadn C0 dL_law_142 rfl ?_
  refine u_iconst C0 dL_law_143 ?_
  refine u_iadd C0 dL_law_144 ?_
  refine u_sld C0 dL_law_145 (by omega) (by omega) (by omega) ?_
  refine u_aloadn C0 dL_law_146 rfl ?_
  refine u_iloadn C0 dL_law_147 rfl ?_
  refine u_iconst C0 dL_law_148 ?_
  refine u_iadd C0 dL_law_149 ?_
  refine u_sld C0 dL_law_150 (by omega) (by omega) (by omega) ?_
  refine u_aloadn C0 dL_law_151 rfl ?_
  refine u_iloadn C0 dL_law_152 rfl ?_
  refine u_iconst C0 dL_law_153 ?_
  refine u_iadd C0 dL_law_154 ?_
  refine u_sld C0 dL_law_155 (by omega) (by omega) (by omega) ?_
  refine u_aloadn C0 dL_law_156 rfl ?_
  refine u_iloadn C0 dL_law_157 rfl ?_
  refine u_iconst C0 dL_law_158 ?_
  refine u_iadd C0 dL_law_159 ?_
  refine u_sld C0 dL_law_160 (by omega) (by omega) (by omega) ?_
  have hI0 := hX.2.2
  have hIY := hY.2.2
  refine u_callV C0 hK (tX6_change hX (rng_of _) (rng_of _) (rng_of _) (rng_of _)) ll_13 ⟨(Nat.le_of_ble_eq_true rfl), (Nat.le_of_ble_eq_true rfl)⟩ dL_law_161 rfl rfl (Nat.le_of_ble_eq_true rfl) ⟨by omega, by omega⟩ ⟨_, _, _, _, hX.2.1 0 0 (by decide), rfl⟩ (uI fun r1 M1 hr1 hp1 => ?_)
  obtain ⟨sx1, hX1, hO1, hR1⟩ := hp1
  have hY := wY_keep hY hdj hO1
  refine u_pop C0 dL_law_164 rfl ?_
  refine u_aloadn C0 dL_law_165 rfl ?_
  refine u_aloadn C0 dL_law_166 rfl ?_
  refine u_iloadn C0 dL_law_167 rfl ?_
  refine u_iconst C0 dL_law_168 ?_
  refine u_iadd C0 dL_law_169 ?_
  refine u_sld C0 dL_law_170 (by omega) (by omega) (by omega) ?_
  refine u_aloadn C0 dL_law_171 rfl ?_
  refine u_iloadn C0 dL_law_172 rfl ?_
  refine u_iconst C0 dL_law_173 ?_
  refine u_iadd C0 dL_law_174 ?_
  refine u_sld C0 dL_law_175 (by omega) (by omega) (by omega) ?_
  refine u_aloadn C0 dL_law_176 rfl ?_
  refine u_iloadn C0 dL_law_177 rfl ?_
  refine u_iconst C0 dL_law_178 ?_
  refine u_iadd C0 dL_law_179 ?_
  refine u_sld C0 dL_law_180 (by omega) (by omega) (by omega) ?_
  refine u_aloadn C0 dL_law_181 rfl ?_
  refine u_iloadn C0 dL_law_182 rfl ?_
  refine u_iconst C0 dL_law_183 ?_
  refine u_iadd C0 dL_law_184 ?_
  refine u_sld C0 dL_law_185 (by omega) (by omega) (by omega) ?_
  refine u_callV C0 hK (tX7_change hY (rng_of _) (rng_of _) (rng_of _) (rng_of _)) ll_17 ⟨(Nat.le_of_ble_eq_true rfl), (Nat.le_of_ble_eq_true rfl)⟩ dL_law_186 rfl rfl (Nat.le_of_ble_eq_true rfl) ⟨by omega, by omega⟩ ⟨_, _, _, _, hY.2.1 0 0 (by decide), rfl⟩ (uI fun r2 M2 hr2 hp2 => ?_)
  obtain ⟨sy1, hY1, hO2, hR2⟩ := hp2
  obtain ⟨hrr, hlit⟩ := lt2_change hlit hI0 hR1 hR2
  have hX := wX_keep hX1 hdj hO2
  refine u_pop C0 dL_law_189 rfl ?_
  refine u_goto 1075 C0 dL_law_190 (by decide) ?_
  exact hend sx1 sy1 M2 hX hY1 hlit
set_option maxHeartbeats 4000000 in
set_option maxRecDepth 100000 in
theorem law_case_1 {G : gG} {p : Program} {e : Env} {s : State} {m : MethodId} {below : List Frame} {meth : Method} {c : Code} {b L : Nat} {xs : Nat → Int32} {fx fy : Nat → Nat → Nat} (hL : L ≤ 4608) (C0 : lw_At p s m meth c b L xs) (hK : wK G s) (hdj : dj fx fy) {sx sy : sG} {M : wM} {i : Int} (hi0 : 0 ≤ i) (hi9 : i + 9 ≤ L) (hX : wX G fx sx M) (hY : wY G fy sy M) (hlit : lt2 sx sy) (hend : ∀ sx sy M, wX G fx sx M → wY G fy sy M → lt2 sx sy → wL G p e s m below meth c b 198 12034 1075 [(0, .ref b), (1, .ref (fx 0 0)), (2, .ref (fy 0 0)), (3, .int (gI i))] [] M) : wL G p e s m below meth c b 198 12034 193 [(0, .ref b), (1, .ref (fx 0 0)), (2, .ref (fy 0 0)), (3, .int (gI i))] [] M := by
  refine u_aloadn C0 dL_law_193 rfl ?_
  refine u_aloadn C0 dL_law_194 rfl ?_
  refine u_iloadn C0 dL_law_195 rfl ?_
  refine u_iconst C0 dL_law_196 ?_
  refine u_iadd C0 dL_law_197 ?_
  refine u_sld C0 dL_law_198 (by omega) (by omega) (by omega) ?_
  refine u_aloadn C0 dL_law_199 rfl ?_
  refine u_iloadn C0 dL_law_200 rfl ?_
  refine u_iconst C0 dL_law_201 ?_
  refine u_iadd C0 dL_law_202 ?_
  refine u_sld C0 dL_law_203 (by omega) (by omega) (by omega) ?_
  refine u_aloadn C0 dL_law_204 rfl ?_
  refine u_iloadn C0 dL_law_205 rfl ?_
  refine u_iconst C0 dL_law_206 ?_
  refine u_iadd C0 dL_law_207 ?_
  refine u_sld C0 dL_law_208 (by omega) (by omega) (by omega) ?_
  refine u_aloadn C0 dL_law_209 rfl ?_
  refine u_iloadn C0 dL_law_210 rfl ?_
  refine u_iconst C0 dL_law_211 ?_
  refine u_iadd C0 dL_law_212 ?_
  refine u_sld C0 dL_law_213 (by omega) (by omega) (by omega) ?_
  refine u_i2l C0 dL_law_214 ?_
  refine u_bipush C0 dL_law_215 (by decide) ?_
  refine u_lshl C0 dL_law_217 ?_
  refine u_aloadn C0 dL_law_218 rfl ?_
  refine u_iloadn C0 dL_law_219 rfl ?_
  refine u_iconst C0 dL_law_220 ?_
  refine u_iadd C0 dL_law_221 ?_
  refine u_sld C0 dL_law_222 (by omega) (by omega) (by omega) ?_
  refine u_i2l C0 dL_law_223 ?_
  refine u_ldc2 C0 dL_law_224 llc_18 ?_
  refine u_land C0 dL_law_227 ?_
  refine u_lor C0 dL_law_228 ?_
  have hI0 := hX.2.2
  have hIY := hY.2.2
  refine u_callV C0 hK (tX6_changes hX (rng_of _) (rng_of _) (rng_of _)) ll_20 ⟨(Nat.le_of_ble_eq_true rfl), (Nat.le_of_ble_eq_true rfl)⟩ dL_law_229 rfl rfl (Nat.le_of_ble_eq_true rfl) ⟨by omega, by omega⟩ ⟨_, _, _, _, hX.2.1 0 0 (by decide), rfl⟩ (uI fun r1 M1 hr1 hp1 => ?_)
  obtain ⟨sx1, hX1, hO1, hR1⟩ := hp1
  have hY := wY_keep hY hdj hO1
  refine u_pop C0 dL_law_232 rfl ?_
  refine u_aloadn C0 dL_law_233 rfl ?_
  refine u_aloadn C0 dL_law_234 rfl ?_
  refine u_iloadn C0 dL_law_235 rfl ?_
  refine u_iconst C0 dL_law_236 ?_
  refine u_iadd C0 dL_law_237 ?_
  refine u_sld C0 dL_law_238 (by omega) (by omega) (by omega) ?_
  refine u_aloadn C0 dL_law_239 rfl ?_
  refine u_iloadn C0 dL_law_240 rfl ?_
  refine u_iconst C0 dL_law_241 ?_
  refine u_iadd C0 dL_law_242 ?_
  refine u_sld C0 dL_law_243 (by omega) (by omega) (by omega) ?_
  refine u_aloadn C0 dL_law_244 rfl ?_
  refine u_iloadn C0 dL_law_245 rfl ?_
  refine u_iconst C0 dL_law_246 ?_
  refine u_iadd C0 dL_law_247 ?_
  refine u_sld C0 dL_law_248 (by omega) (by omega) (by omega) ?_
  refine u_aloadn C0 dL_law_249 rfl ?_
  refine u_iloadn C0 dL_law_250 rfl ?_
  refine u_iconst C0 dL_law_251 ?_
  refine u_iadd C0 dL_law_252 ?_
  refine u_sld C0 dL_law_253 (by omega) (by omega) (by omega) ?_
  refine u_i2l C0 dL_law_254 ?_
  refine u_bipush C0 dL_law_255 (by decide) ?_
  refine u_lshl C0 dL_law_257 ?_
  refine u_aloadn C0 dL_law_258 rfl ?_
  refine u_iloadn C0 dL_law_259 rfl ?_
  refine u_iconst C0 dL_law_260 ?_
  refine u_iadd C0 dL_law_261 ?_
  refine u_sld C0 dL_law_262 (by omega) (by omega) (by omega) ?_
  refine u_i2l C0 dL_law_263 ?_
  refine u_ldc2 C0 dL_law_264 llc_18 ?_
  refine u_land C0 dL_law_267 ?_
  refine u_lor C0 dL_law_268 ?_
  refine u_callV C0 hK (tX7_changes hY (rng_of _) (rng_of _) (rng_of _)) ll_24 ⟨(Nat.le_of_ble_eq_true rfl), (Nat.le_of_ble_eq_true rfl)⟩ dL_law_269 rfl rfl (Nat.le_of_ble_eq_true rfl) ⟨by omega, by omega⟩ ⟨_, _, _, _, hY.2.1 0 0 (by decide), rfl⟩ (uI fun r2 M2 hr2 hp2 => ?_)
  obtain ⟨sy1, hY1, hO2, hR2⟩ := hp2
  obtain ⟨hrr, hlit⟩ := lt2_changes hlit hI0 hR1 hR2
  have hX := wX_keep hX1 hdj hO2
  refine u_pop C0 dL_law_272 rfl ?_
  refine u_goto 1075 C0 dL_law_273 (by decide) ?_
  exact hend sx1 sy1 M2 hX hY1 hlit
set_option maxHeartbeats 4000000 in
set_option maxRecDepth 100000 in
theorem law_case_2 {G : gG} {p : Program} {e : Env} {s : State} {m : MethodId} {below : List Frame} {meth : Method} {c : Code} {b L : Nat} {xs : Nat → Int32} {fx fy : Nat → Nat → Nat} (hL : L ≤ 4608) (C0 : lw_At p s m meth c b L xs) (hK : wK G s) (hdj : dj fx fy) {sx sy : sG} {M : wM} {i : Int} (hi0 : 0 ≤ i) (hi9 : i + 9 ≤ L) (hX : wX G fx sx M) (hY : wY G fy sy M) (hlit : lt2 sx sy) (hend : ∀ sx sy M, wX G fx sx M → wY G fy sy M → lt2 sx sy → wL G p e s m below meth c b 198 12034 1075 [(0, .ref b), (1, .ref (fx 0 0)), (2, .ref (fy 0 0)), (3, .int (gI i))] [] M) : wL G p e s m below meth c b 198 12034 276 [(0, .ref b), (1, .ref (fx 0 0)), (2, .ref (fy 0 0)), (3, .int (gI i))] [] M := by
  refine u_aloadn C0 dL_law_276 rfl ?_
  refine u_aloadn C0 dL_law_277 rfl ?_
  refine u_iloadn C0 dL_law_278 rfl ?_
  refine u_iconst C0 dL_law_279 ?_
  refine u_iadd C0 dL_law_280 ?_
  refine u_sld C0 dL_law_281 (by omega) (by omega) (by omega) ?_
  refine u_aloadn C0 dL_law_282 rfl ?_
  refine u_iloadn C0 dL_law_283 rfl ?_
  refine u_iconst C0 dL_law_284 ?_
  refine u_iadd C0 dL_law_285 ?_
  refine u_sld C0 dL_law_286 (by omega) (by omega) (by omega) ?_
  refine u_aloadn C0 dL_law_287 rfl ?_
  refine u_iloadn C0 dL_law_288 rfl ?_
  refine u_iconst C0 dL_law_289 ?_
  refine u_iadd C0 dL_law_290 ?_
  refine u_sld C0 dL_law_291 (by omega) (by omega) (by omega) ?_
  have hI0 := hX.2.2
  have hIY := hY.2.2
  refine u_callV C0 hK (tX6_cut hX (rng_of _) (rng_of _) (rng_of _)) ll_25 ⟨(Nat.le_of_ble_eq_true rfl), (Nat.le_of_ble_eq_true rfl)⟩ dL_law_292 rfl rfl (Nat.le_of_ble_eq_true rfl) ⟨by omega, by omega⟩ ⟨_, _, _, _, hX.2.1 0 0 (by decide), rfl⟩ (uI fun r1 M1 hr1 hp1 => ?_)
  obtain ⟨sx1, hX1, hO1, hR1⟩ := hp1
  have hY := wY_keep hY hdj hO1
  refine u_pop C0 dL_law_295 rfl ?_
  refine u_aloadn C0 dL_law_296 rfl ?_
  refine u_aloadn C0 dL_law_297 rfl ?_
  refine u_iloadn C0 dL_law_298 rfl ?_
  refine u_iconst C0 dL_law_299 ?_
  refine u_iadd C0 dL_law_300 ?_
  refine u_sld C0 dL_law_301 (by omega) (by omega) (by omega) ?_
  refine u_aloadn C0 dL_law_302 rfl ?_
  refine u_iloadn C0 dL_law_303 rfl ?_
  refine u_iconst C0 dL_law_304 ?_
  refine u_iadd C0 dL_law_305 ?_
  refine u_sld C0 dL_law_306 (by omega) (by omega) (by omega) ?_
  refine u_aloadn C0 dL_law_307 rfl ?_
  refine u_iloadn C0 dL_law_308 rfl ?_
  refine u_iconst C0 dL_law_309 ?_
  refine u_iadd C0 dL_law_310 ?_
  refine u_sld C0 dL_law_311 (by omega) (by omega) (by omega) ?_
  refine u_callV C0 hK (tX7_cut hY (rng_of _) (rng_of _) (rng_of _)) ll_29 ⟨(Nat.le_of_ble_eq_true rfl), (Nat.le_of_ble_eq_true rfl)⟩ dL_law_312 rfl rfl (Nat.le_of_ble_eq_true rfl) ⟨by omega, by omega⟩ ⟨_, _, _, _, hY.2.1 0 0 (by decide), rfl⟩ (uI fun r2 M2 hr2 hp2 => ?_)
  obtain ⟨sy1, hY1, hO2, hR2⟩ := hp2
  obtain ⟨hrr, hlit⟩ := lt2_cut hlit hI0 hR1 hR2
  have hX := wX_keep hX1 hdj hO2
  refine u_pop C0 dL_law_315 rfl ?_
  refine u_goto 1075 C0 dL_law_316 (by decide) ?_
  exact hend sx1 sy1 M2 hX hY1 hlit
set_option maxHeartbeats 4000000 in
set_option maxRecDepth 100000 in
theorem law_case_3 {G : gG} {p : Program} {e : Env} {s : State} {m : MethodId} {below : List Frame} {meth : Method} {c : Code} {b L : Nat} {xs : Nat → Int32} {fx fy : Nat → Nat → Nat} (hL : L ≤ 4608) (C0 : lw_At p s m meth c b L xs) (hK : wK G s) (hdj : dj fx fy) {sx sy : sG} {M : wM} {i : Int} (hi0 : 0 ≤ i) (hi9 : i + 9 ≤ L) (hX : wX G fx sx M) (hY : wY G fy sy M) (hlit : lt2 sx sy) (hend : ∀ sx sy M, wX G fx sx M → wY G fy sy M → lt2 sx sy → wL G p e s m below meth c b 198 12034 1075 [(0, .ref b), (1, .ref (fx 0 0)), (2, .ref (fy 0 0)), (3, .int (gI i))] [] M) : wL G p e s m below meth c b 198 12034 319 [(0, .ref b), (1, .ref (fx 0 0)), (2, .ref (fy 0 0)), (3, .int (gI i))] [] M := by
  refine u_aloadn C0 dL_law_319 rfl ?_
  refine u_aloadn C0 dL_law_320 rfl ?_
  refine u_iloadn C0 dL_law_321 rfl ?_
  refine u_iconst C0 dL_law_322 ?_
  refine u_iadd C0 dL_law_323 ?_
  refine u_sld C0 dL_law_324 (by omega) (by omega) (by omega) ?_
  refine u_aloadn C0 dL_law_325 rfl ?_
  refine u_iloadn C0 dL_law_326 rfl ?_
  refine u_iconst C0 dL_law_327 ?_
  refine u_iadd C0 dL_law_328 ?_
  refine u_sld C0 dL_law_329 (by omega) (by omega) (by omega) ?_
  refine u_aloadn C0 dL_law_330 rfl ?_
  refine u_iloadn C0 dL_law_331 rfl ?_
  refine u_iconst C0 dL_law_332 ?_
  refine u_iadd C0 dL_law_333 ?_
  refine u_sld C0 dL_law_334 (by omega) (by omega) (by omega) ?_
  have hI0 := hX.2.2
  have hIY := hY.2.2
  refine u_callV C0 hK (tX6_value hX (rng_of _) (rng_of _) (rng_of _)) ll_30 ⟨(Nat.le_of_ble_eq_true rfl), (Nat.le_of_ble_eq_true rfl)⟩ dL_law_335 rfl rfl (Nat.le_of_ble_eq_true rfl) ⟨by omega, by omega⟩ ⟨_, _, _, _, hX.2.1 0 0 (by decide), rfl⟩ (uI fun r1 M1 hr1 hp1 => ?_)
  have ha1 := hp1.2
  obtain ⟨sx1, hX1, hO1, hl1⟩ : ∃ s', wX G fx s' M1 ∧ wO cntX fx M M1 ∧ eX sx s' := by obtain ⟨rfl, -⟩ := hp1; exact ⟨sx, hX, wO.rf, eX.rf⟩
  clear hp1
  have hY := wY_keep hY hdj hO1
  refine u_pop C0 dL_law_338 rfl ?_
  refine u_aloadn C0 dL_law_339 rfl ?_
  refine u_aloadn C0 dL_law_340 rfl ?_
  refine u_iloadn C0 dL_law_341 rfl ?_
  refine u_iconst C0 dL_law_342 ?_
  refine u_iadd C0 dL_law_343 ?_
  refine u_sld C0 dL_law_344 (by omega) (by omega) (by omega) ?_
  refine u_aloadn C0 dL_law_345 rfl ?_
  refine u_iloadn C0 dL_law_346 rfl ?_
  refine u_iconst C0 dL_law_347 ?_
  refine u_iadd C0 dL_law_348 ?_
  refine u_sld C0 dL_law_349 (by omega) (by omega) (by omega) ?_
  refine u_aloadn C0 dL_law_350 rfl ?_
  refine u_iloadn C0 dL_law_351 rfl ?_
  refine u_iconst C0 dL_law_352 ?_
  refine u_iadd C0 dL_law_353 ?_
  refine u_sld C0 dL_law_354 (by omega) (by omega) (by omega) ?_
  refine u_callV C0 hK (tX7_value hY (rng_of _) (rng_of _) (rng_of _)) ll_33 ⟨(Nat.le_of_ble_eq_true rfl), (Nat.le_of_ble_eq_true rfl)⟩ dL_law_355 rfl rfl (Nat.le_of_ble_eq_true rfl) ⟨by omega, by omega⟩ ⟨_, _, _, _, hY.2.1 0 0 (by decide), rfl⟩ (uI fun r2 M2 hr2 hp2 => ?_)
  have ha2 := hp2.2
  obtain ⟨sy1, hY1, hO2, hl2⟩ : ∃ s', wY G fy s' M2 ∧ wO cntY fy M1 M2 ∧ eY sy s' := by obtain ⟨rfl, -⟩ := hp2; exact ⟨sy, hY, wO.rf, eY.rf⟩
  clear hp2
  have hlit := hlit.go hI0.1.1.2 hl1 hl2
  have hX := wX_keep hX1 hdj hO2
  refine u_pop C0 dL_law_358 rfl ?_
  refine u_goto 1075 C0 dL_law_359 (by decide) ?_
  exact hend sx1 sy1 M2 hX hY1 hlit
set_option maxHeartbeats 4000000 in
set_option maxRecDepth 100000 in
theorem law_case_4 {G : gG} {p : Program} {e : Env} {s : State} {m : MethodId} {below : List Frame} {meth : Method} {c : Code} {b L : Nat} {xs : Nat → Int32} {fx fy : Nat → Nat → Nat} (hL : L ≤ 4608) (C0 : lw_At p s m meth c b L xs) (hK : wK G s) (hdj : dj fx fy) {sx sy : sG} {M : wM} {i : Int} (hi0 : 0 ≤ i) (hi9 : i + 9 ≤ L) (hX : wX G fx sx M) (hY : wY G fy sy M) (hlit : lt2 sx sy) (hend : ∀ sx sy M, wX G fx sx M → wY G fy sy M → lt2 sx sy → wL G p e s m below meth c b 198 12034 1075 [(0, .ref b), (1, .ref (fx 0 0)), (2, .ref (fy 0 0)), (3, .int (gI i))] [] M) : wL G p e s m below meth c b 198 12034 362 [(0, .ref b), (1, .ref (fx 0 0)), (2, .ref (fy 0 0)), (3, .int (gI i))] [] M := by
  refine u_aloadn C0 dL_law_362 rfl ?_
  refine u_aloadn C0 dL_law_363 rfl ?_
  refine u_iloadn C0 dL_law_364 rfl ?_
  refine u_iconst C0 dL_law_365 ?_
  refine u_iadd C0 dL_law_366 ?_
  refine u_sld C0 dL_law_367 (by omega) (by omega) (by omega) ?_
  refine u_aloadn C0 dL_law_368 rfl ?_
  refine u_iloadn C0 dL_law_369 rfl ?_
  refine u_iconst C0 dL_law_370 ?_
  refine u_iadd C0 dL_law_371 ?_
  refine u_sld C0 dL_law_372 (by omega) (by omega) (by omega) ?_
  have hI0 := hX.2.2
  have hIY := hY.2.2
  refine u_callV C0 hK (tX6_rule hX (rng_of _) (rng_of _)) ll_34 ⟨(Nat.le_of_ble_eq_true rfl), (Nat.le_of_ble_eq_true rfl)⟩ dL_law_373 rfl rfl (Nat.le_of_ble_eq_true rfl) ⟨by omega, by omega⟩ ⟨_, _, _, _, hX.2.1 0 0 (by decide), rfl⟩ (uI fun r1 M1 hr1 hp1 => ?_)
  obtain ⟨sx1, hX1, hO1, hR1⟩ := hp1
  have hY := wY_keep hY hdj hO1
  refine u_pop C0 dL_law_376 rfl ?_
  refine u_aloadn C0 dL_law_377 rfl ?_
  refine u_aloadn C0 dL_law_378 rfl ?_
  refine u_iloadn C0 dL_law_379 rfl ?_
  refine u_iconst C0 dL_law_380 ?_
  refine u_iadd C0 dL_law_381 ?_
  refine u_sld C0 dL_law_382 (by omega) (by omega) (by omega) ?_
  refine u_aloadn C0 dL_law_383 rfl ?_
  refine u_iloadn C0 dL_law_384 rfl ?_
  refine u_iconst C0 dL_law_385 ?_
  refine u_iadd C0 dL_law_386 ?_
  refine u_sld C0 dL_law_387 (by omega) (by omega) (by omega) ?_
  refine u_callV C0 hK (tX7_rule hY (rng_of _) (rng_of _)) ll_38 ⟨(Nat.le_of_ble_eq_true rfl), (Nat.le_of_ble_eq_true rfl)⟩ dL_law_388 rfl rfl (Nat.le_of_ble_eq_true rfl) ⟨by omega, by omega⟩ ⟨_, _, _, _, hY.2.1 0 0 (by decide), rfl⟩ (uI fun r2 M2 hr2 hp2 => ?_)
  obtain ⟨sy1, hY1, hO2, hR2⟩ := hp2
  obtain ⟨hrr, hlit⟩ := lt2_rule hlit hI0.1.1.2 hR1 hR2
  have hX := wX_keep hX1 hdj hO2
  refine u_pop C0 dL_law_391 rfl ?_
  refine u_goto 1075 C0 dL_law_392 (by decide) ?_
  exact hend sx1 sy1 M2 hX hY1 hlit
set_option maxHeartbeats 4000000 in
set_option maxRecDepth 100000 in
theorem law_case_5 {G : gG} {p : Program} {e : Env} {s : State} {m : MethodId} {below : List Frame} {meth : Method} {c : Code} {b L : Nat} {xs : Nat → Int32} {fx fy : Nat → Nat → Nat} (hL : L ≤ 4608) (C0 : lw_At p s m meth c b L xs) (hK : wK G s) (hdj : dj fx fy) {sx sy : sG} {M : wM} {i : Int} (hi0 : 0 ≤ i) (hi9 : i + 9 ≤ L) (hX : wX G fx sx M) (hY : wY G fy sy M) (hlit : lt2 sx sy) (hend : ∀ sx sy M, wX G fx sx M → wY G fy sy M → lt2 sx sy → wL G p e s m below meth c b 198 12034 1075 [(0, .ref b), (1, .ref (fx 0 0)), (2, .ref (fy 0 0)), (3, .int (gI i))] [] M) : wL G p e s m below meth c b 198 12034 395 [(0, .ref b), (1, .ref (fx 0 0)), (2, .ref (fy 0 0)), (3, .int (gI i))] [] M := by
  refine u_aloadn C0 dL_law_395 rfl ?_
  refine u_aloadn C0 dL_law_396 rfl ?_
  refine u_iloadn C0 dL_law_397 rfl ?_
  refine u_iconst C0 dL_law_398 ?_
  refine u_iadd C0 dL_law_399 ?_
  refine u_sld C0 dL_law_400 (by omega) (by omega) (by omega) ?_
  refine u_aloadn C0 dL_law_401 rfl ?_
  refine u_iloadn C0 dL_law_402 rfl ?_
  refine u_iconst C0 dL_law_403 ?_
  refine u_iadd C0 dL_law_404 ?_
  refine u_sld C0 dL_law_405 (by omega) (by omega) (by omega) ?_
  refine u_aloadn C0 dL_law_406 rfl ?_
  refine u_iloadn C0 dL_law_407 rfl ?_
  refine u_iconst C0 dL_law_408 ?_
  refine u_iadd C0 dL_law_409 ?_
  refine u_sld C0 dL_law_410 (by omega) (by omega) (by omega) ?_
  have hI0 := hX.2.2
  have hIY := hY.2.2
  refine u_callV C0 hK (tX6_call hX (rng_of _) (rng_of _) (rng_of _)) ll_39 ⟨(Nat.le_of_ble_eq_true rfl), (Nat.le_of_ble_eq_true rfl)⟩ dL_law_411 rfl rfl (Nat.le_of_ble_eq_true rfl) ⟨by omega, by omega⟩ ⟨_, _, _, _, hX.2.1 0 0 (by decide), rfl⟩ (uI fun r1 M1 hr1 hp1 => ?_)
  obtain ⟨sx1, hX1, hO1, hR1⟩ := hp1
  have hY := wY_keep hY hdj hO1
  refine u_pop C0 dL_law_414 rfl ?_
  refine u_aloadn C0 dL_law_415 rfl ?_
  refine u_aloadn C0 dL_law_416 rfl ?_
  refine u_iloadn C0 dL_law_417 rfl ?_
  refine u_iconst C0 dL_law_418 ?_
  refine u_iadd C0 dL_law_419 ?_
  refine u_sld C0 dL_law_420 (by omega) (by omega) (by omega) ?_
  refine u_aloadn C0 dL_law_421 rfl ?_
  refine u_iloadn C0 dL_law_422 rfl ?_
  refine u_iconst C0 dL_law_423 ?_
  refine u_iadd C0 dL_law_424 ?_
  refine u_sld C0 dL_law_425 (by omega) (by omega) (by omega) ?_
  refine u_aloadn C0 dL_law_426 rfl ?_
  refine u_iloadn C0 dL_law_427 rfl ?_
  refine u_iconst C0 dL_law_428 ?_
  refine u_iadd C0 dL_law_429 ?_
  refine u_sld C0 dL_law_430 (by omega) (by omega) (by omega) ?_
  refine u_callV C0 hK (tX7_call hY (rng_of _) (rng_of _) (rng_of _)) ll_42 ⟨(Nat.le_of_ble_eq_true rfl), (Nat.le_of_ble_eq_true rfl)⟩ dL_law_431 rfl rfl (Nat.le_of_ble_eq_true rfl) ⟨by omega, by omega⟩ ⟨_, _, _, _, hY.2.1 0 0 (by decide), rfl⟩ (uI fun r2 M2 hr2 hp2 => ?_)
  obtain ⟨sy1, hY1, hO2, hR2⟩ := hp2
  obtain ⟨hrr, hlit⟩ := lt2_call hlit hI0.1.1.2 hR1 hR2
  have hX := wX_keep hX1 hdj hO2
  refine u_pop C0 dL_law_434 rfl ?_
  refine u_goto 1075 C0 dL_law_435 (by decide) ?_
  exact hend sx1 sy1 M2 hX hY1 hlit
set_option maxHeartbeats 4000000 in
set_option maxRecDepth 100000 in
theorem law_case_6 {G : gG} {p : Program} {e : Env} {s : State} {m : MethodId} {below : List Frame} {meth : Method} {c : Code} {b L : Nat} {xs : Nat → Int32} {fx fy : Nat → Nat → Nat} (hL : L ≤ 4608) (C0 : lw_At p s m meth c b L xs) (hK : wK G s) (hdj : dj fx fy) {sx sy : sG} {M : wM} {i : Int} (hi0 : 0 ≤ i) (hi9 : i + 9 ≤ L) (hX : wX G fx sx M) (hY : wY G fy sy M) (hlit : lt2 sx sy) (hend : ∀ sx sy M, wX G fx sx M → wY G fy sy M → lt2 sx sy → wL G p e s m below meth c b 198 12034 1075 [(0, .ref b), (1, .ref (fx 0 0)), (2, .ref (fy 0 0)), (3, .int (gI i))] [] M) : wL G p e s m below meth c b 198 12034 438 [(0, .ref b), (1, .ref (fx 0 0)), (2, .ref (fy 0 0)), (3, .int (gI i))] [] M := by
  refine u_aloadn C0 dL_law_438 rfl ?_
  refine u_aloadn C0 dL_law_439 rfl ?_
  refine u_iloadn C0 dL_law_440 rfl ?_
  refine u_iconst C0 dL_law_441 ?_
  refine u_iadd C0 dL_law_442 ?_
  refine u_sld C0 dL_law_443 (by omega) (by omega) (by omega) ?_
  refine u_aloadn C0 dL_law_444 rfl ?_
  refine u_iloadn C0 dL_law_445 rfl ?_
  refine u_iconst C0 dL_law_446 ?_
  refine u_iadd C0 dL_law_447 ?_
  refine u_sld C0 dL_law_448 (by omega) (by omega) (by omega) ?_
  have hI0 := hX.2.2
  have hIY := hY.2.2
  refine u_callV C0 hK (tX6_shift hX (rng_of _) (rng_of _)) ll_43 ⟨(Nat.le_of_ble_eq_true rfl), (Nat.le_of_ble_eq_true rfl)⟩ dL_law_449 rfl rfl (Nat.le_of_ble_eq_true rfl) ⟨by omega, by omega⟩ ⟨_, _, _, _, hX.2.1 0 0 (by decide), rfl⟩ (uI fun r1 M1 hr1 hp1 => ?_)
  obtain ⟨sx1, hX1, hO1, hR1⟩ := hp1
  have hY := wY_keep hY hdj hO1
  refine u_pop C0 dL_law_452 rfl ?_
  refine u_aloadn C0 dL_law_453 rfl ?_
  refine u_aloadn C0 dL_law_454 rfl ?_
  refine u_iloadn C0 dL_law_455 rfl ?_
  refine u_iconst C0 dL_law_456 ?_
  refine u_iadd C0 dL_law_457 ?_
  refine u_sld C0 dL_law_458 (by omega) (by omega) (by omega) ?_
  refine u_aloadn C0 dL_law_459 rfl ?_
  refine u_iloadn C0 dL_law_460 rfl ?_
  refine u_iconst C0 dL_law_461 ?_
  refine u_iadd C0 dL_law_462 ?_
  refine u_sld C0 dL_law_463 (by omega) (by omega) (by omega) ?_
  refine u_callV C0 hK (tX7_shift hY (rng_of _) (rng_of _)) ll_46 ⟨(Nat.le_of_ble_eq_true rfl), (Nat.le_of_ble_eq_true rfl)⟩ dL_law_464 rfl rfl (Nat.le_of_ble_eq_true rfl) ⟨by omega, by omega⟩ ⟨_, _, _, _, hY.2.1 0 0 (by decide), rfl⟩ (uI fun r2 M2 hr2 hp2 => ?_)
  obtain ⟨sy1, hY1, hO2, hR2⟩ := hp2
  obtain ⟨hrr, hlit⟩ := lt2_shift hlit hI0.1.1.2 hR1 hR2
  have hX := wX_keep hX1 hdj hO2
  refine u_pop C0 dL_law_467 rfl ?_
  refine u_goto 1075 C0 dL_law_468 (by decide) ?_
  exact hend sx1 sy1 M2 hX hY1 hlit
set_option maxHeartbeats 4000000 in
set_option maxRecDepth 100000 in
theorem law_case_7 {G : gG} {p : Program} {e : Env} {s : State} {m : MethodId} {below : List Frame} {meth : Method} {c : Code} {b L : Nat} {xs : Nat → Int32} {fx fy : Nat → Nat → Nat} (hL : L ≤ 4608) (C0 : lw_At p s m meth c b L xs) (hK : wK G s) (hdj : dj fx fy) {sx sy : sG} {M : wM} {i : Int} (hi0 : 0 ≤ i) (hi9 : i + 9 ≤ L) (hX : wX G fx sx M) (hY : wY G fy sy M) (hlit : lt2 sx sy) (hend : ∀ sx sy M, wX G fx sx M → wY G fy sy M → lt2 sx sy → wL G p e s m below meth c b 198 12034 1075 [(0, .ref b), (1, .ref (fx 0 0)), (2, .ref (fy 0 0)), (3, .int (gI i))] [] M) : wL G p e s m below meth c b 198 12034 471 [(0, .ref b), (1, .ref (fx 0 0)), (2, .ref (fy 0 0)), (3, .int (gI i))] [] M := by
  refine u_aloadn C0 dL_law_471 rfl ?_
  refine u_aloadn C0 dL_law_472 rfl ?_
  refine u_iloadn C0 dL_law_473 rfl ?_
  refine u_iconst C0 dL_law_474 ?_
  refine u_iadd C0 dL_law_475 ?_
  refine u_sld C0 dL_law_476 (by omega) (by omega) (by omega) ?_
  refine u_aloadn C0 dL_law_477 rfl ?_
  refine u_iloadn C0 dL_law_478 rfl ?_
  refine u_iconst C0 dL_law_479 ?_
  refine u_iadd C0 dL_law_480 ?_
  refine u_sld C0 dL_law_481 (by omega) (by omega) (by omega) ?_
  refine u_aloadn C0 dL_law_482 rfl ?_
  refine u_iloadn C0 dL_law_483 rfl ?_
  refine u_iconst C0 dL_law_484 ?_
  refine u_iadd C0 dL_law_485 ?_
  refine u_sld C0 dL_law_486 (by omega) (by omega) (by omega) ?_
  have hI0 := hX.2.2
  have hIY := hY.2.2
  refine u_callV C0 hK (fX6_mask hX (rng_of _) (rng_of _) (rng_of _)) ll_47 ⟨(Nat.le_of_ble_eq_true rfl), (Nat.le_of_ble_eq_true rfl)⟩ dL_law_487 rfl rfl (Nat.le_of_ble_eq_true rfl) ⟨by omega, by omega⟩ ⟨_, _, _, _, hX.2.1 0 0 (by decide), rfl⟩ (uI fun r1 M1 hr1 hp1 => ?_)
  obtain ⟨sx1, hX1, hO1, hR1⟩ := hp1
  have hY := wY_keep hY hdj hO1
  refine u_pop C0 dL_law_490 rfl ?_
  refine u_aloadn C0 dL_law_491 rfl ?_
  refine u_aloadn C0 dL_law_492 rfl ?_
  refine u_iloadn C0 dL_law_493 rfl ?_
  refine u_iconst C0 dL_law_494 ?_
  refine u_iadd C0 dL_law_495 ?_
  refine u_sld C0 dL_law_496 (by omega) (by omega) (by omega) ?_
  refine u_aloadn C0 dL_law_497 rfl ?_
  refine u_iloadn C0 dL_law_498 rfl ?_
  refine u_iconst C0 dL_law_499 ?_
  refine u_iadd C0 dL_law_500 ?_
  refine u_sld C0 dL_law_501 (by omega) (by omega) (by omega) ?_
  refine u_aloadn C0 dL_law_502 rfl ?_
  refine u_iloadn C0 dL_law_503 rfl ?_
  refine u_iconst C0 dL_law_504 ?_
  refine u_iadd C0 dL_law_505 ?_
  refine u_sld C0 dL_law_506 (by omega) (by omega) (by omega) ?_
  refine u_callV C0 hK (tX7_mask hY (rng_of _) (rng_of _) (rng_of _)) ll_50 ⟨(Nat.le_of_ble_eq_true rfl), (Nat.le_of_ble_eq_true rfl)⟩ dL_law_507 rfl rfl (Nat.le_of_ble_eq_true rfl) ⟨by omega, by omega⟩ ⟨_, _, _, _, hY.2.1 0 0 (by decide), rfl⟩ (uI fun r2 M2 hr2 hp2 => ?_)
  obtain ⟨sy1, hY1, hO2, hR2⟩ := hp2
  obtain ⟨hrr, hlit⟩ := lt2_mask hlit hI0 hR1 hR2
  have hX := wX_keep hX1 hdj hO2
  refine u_pop C0 dL_law_510 rfl ?_
  refine u_goto 1075 C0 dL_law_511 (by decide) ?_
  exact hend sx1 sy1 M2 hX hY1 hlit
set_option maxHeartbeats 4000000 in
set_option maxRecDepth 100000 in
theorem law_case_8 {G : gG} {p : Program} {e : Env} {s : State} {m : MethodId} {below : List Frame} {meth : Method} {c : Code} {b L : Nat} {xs : Nat → Int32} {fx fy : Nat → Nat → Nat} (hL : L ≤ 4608) (C0 : lw_At p s m meth c b L xs) (hK : wK G s) (hdj : dj fx fy) {sx sy : sG} {M : wM} {i : Int} (hi0 : 0 ≤ i) (hi9 : i + 9 ≤ L) (hX : wX G fx sx M) (hY : wY G fy sy M) (hlit : lt2 sx sy) (hend : ∀ sx sy M, wX G fx sx M → wY G fy sy M → lt2 sx sy → wL G p e s m below meth c b 198 12034 1075 [(0, .ref b), (1, .ref (fx 0 0)), (2, .ref (fy 0 0)), (3, .int (gI i))] [] M) : wL G p e s m below meth c b 198 12034 514 [(0, .ref b), (1, .ref (fx 0 0)), (2, .ref (fy 0 0)), (3, .int (gI i))] [] M := by
  refine u_aloadn C0 dL_law_514 rfl ?_
  refine u_aloadn C0 dL_law_515 rfl ?_
  refine u_iloadn C0 dL_law_516 rfl ?_
  refine u_iconst C0 dL_law_517 ?_
  refine u_iadd C0 dL_law_518 ?_
  refine u_sld C0 dL_law_519 (by omega) (by omega) (by omega) ?_
  refine u_aloadn C0 dL_law_520 rfl ?_
  refine u_iloadn C0 dL_law_521 rfl ?_
  refine u_iconst C0 dL_law_522 ?_
  refine u_iadd C0 dL_law_523 ?_
  refine u_sld C0 dL_law_524 (by omega) (by omega) (by omega) ?_
  refine u_aloadn C0 dL_law_525 rfl ?_
  refine u_iloadn C0 dL_law_526 rfl ?_
  refine u_iconst C0 dL_law_527 ?_
  refine u_iadd C0 dL_law_528 ?_
  refine u_sld C0 dL_law_529 (by omega) (by omega) (by omega) ?_
  have hI0 := hX.2.2
  have hIY := hY.2.2
  refine u_callV C0 hK (fX6_maskWhile hX (rng_of _) (rng_of _) (rng_of _)) ll_51 ⟨(Nat.le_of_ble_eq_true rfl), (Nat.le_of_ble_eq_true rfl)⟩ dL_law_530 rfl rfl (Nat.le_of_ble_eq_true rfl) ⟨by omega, by omega⟩ ⟨_, _, _, _, hX.2.1 0 0 (by decide), rfl⟩ (uI fun r1 M1 hr1 hp1 => ?_)
  obtain ⟨sx1, hX1, hO1, hR1⟩ := hp1
  have hY := wY_keep hY hdj hO1
  refine u_pop C0 dL_law_533 rfl ?_
  refine u_aloadn C0 dL_law_534 rfl ?_
  refine u_aloadn C0 dL_law_535 rfl ?_
  refine u_iloadn C0 dL_law_536 rfl ?_
  refine u_iconst C0 dL_law_537 ?_
  refine u_iadd C0 dL_law_538 ?_
  refine u_sld C0 dL_law_539 (by omega) (by omega) (by omega) ?_
  refine u_aloadn C0 dL_law_540 rfl ?_
  refine u_iloadn C0 dL_law_541 rfl ?_
  refine u_iconst C0 dL_law_542 ?_
  refine u_iadd C0 dL_law_543 ?_
  refine u_sld C0 dL_law_544 (by omega) (by omega) (by omega) ?_
  refine u_aloadn C0 dL_law_545 rfl ?_
  refine u_iloadn C0 dL_law_546 rfl ?_
  refine u_iconst C0 dL_law_547 ?_
  refine u_iadd C0 dL_law_548 ?_
  refine u_sld C0 dL_law_549 (by omega) (by omega) (by omega) ?_
  refine u_callV C0 hK (tX7_maskWhile hY (rng_of _) (rng_of _) (rng_of _)) ll_54 ⟨(Nat.le_of_ble_eq_true rfl), (Nat.le_of_ble_eq_true rfl)⟩ dL_law_550 rfl rfl (Nat.le_of_ble_eq_true rfl) ⟨by omega, by omega⟩ ⟨_, _, _, _, hY.2.1 0 0 (by decide), rfl⟩ (uI fun r2 M2 hr2 hp2 => ?_)
  obtain ⟨sy1, hY1, hO2, hR2⟩ := hp2
  obtain ⟨hrr, hlit⟩ := lt2_maskWhile hlit hI0 hR1 hR2
  have hX := wX_keep hX1 hdj hO2
  refine u_pop C0 dL_law_553 rfl ?_
  refine u_goto 1075 C0 dL_law_554 (by decide) ?_
  exact hend sx1 sy1 M2 hX hY1 hlit
set_option maxHeartbeats 4000000 in
set_option maxRecDepth 100000 in
theorem law_case_9 {G : gG} {p : Program} {e : Env} {s : State} {m : MethodId} {below : List Frame} {meth : Method} {c : Code} {b L : Nat} {xs : Nat → Int32} {fx fy : Nat → Nat → Nat} (hL : L ≤ 4608) (C0 : lw_At p s m meth c b L xs) (hK : wK G s) (hdj : dj fx fy) {sx sy : sG} {M : wM} {i : Int} (hi0 : 0 ≤ i) (hi9 : i + 9 ≤ L) (hX : wX G fx sx M) (hY : wY G fy sy M) (hlit : lt2 sx sy) (hend : ∀ sx sy M, wX G fx sx M → wY G fy sy M → lt2 sx sy → wL G p e s m below meth c b 198 12034 1075 [(0, .ref b), (1, .ref (fx 0 0)), (2, .ref (fy 0 0)), (3, .int (gI i))] [] M) : wL G p e s m below meth c b 198 12034 557 [(0, .ref b), (1, .ref (fx 0 0)), (2, .ref (fy 0 0)), (3, .int (gI i))] [] M := by
  refine u_aloadn C0 dL_law_557 rfl ?_
  have hI0 := hX.2.2
  have hIY := hY.2.2
  refine u_callV C0 hK (tX6_noMasks hX ) ll_55 ⟨(Nat.le_of_ble_eq_true rfl), (Nat.le_of_ble_eq_true rfl)⟩ dL_law_558 rfl rfl (Nat.le_of_ble_eq_true rfl) ⟨by omega, by omega⟩ ⟨_, _, _, _, hX.2.1 0 0 (by decide), rfl⟩ (uI fun r1 M1 hr1 hp1 => ?_)
  obtain ⟨sx1, hX1, hO1, hR1⟩ := hp1
  have hY := wY_keep hY hdj hO1
  refine u_pop C0 dL_law_561 rfl ?_
  refine u_aloadn C0 dL_law_562 rfl ?_
  refine u_callV C0 hK (tX7_noMasks hY ) ll_59 ⟨(Nat.le_of_ble_eq_true rfl), (Nat.le_of_ble_eq_true rfl)⟩ dL_law_563 rfl rfl (Nat.le_of_ble_eq_true rfl) ⟨by omega, by omega⟩ ⟨_, _, _, _, hY.2.1 0 0 (by decide), rfl⟩ (uI fun r2 M2 hr2 hp2 => ?_)
  obtain ⟨sy1, hY1, hO2, hR2⟩ := hp2
  obtain ⟨hrr, hlit⟩ := lt2_noMasks hlit hI0.1.1.2 hR1 hR2
  have hX := wX_keep hX1 hdj hO2
  refine u_pop C0 dL_law_566 rfl ?_
  refine u_goto 1075 C0 dL_law_567 (by decide) ?_
  exact hend sx1 sy1 M2 hX hY1 hlit
set_option maxHeartbeats 4000000 in
set_option maxRecDepth 100000 in
theorem law_case_10 {G : gG} {p : Program} {e : Env} {s : State} {m : MethodId} {below : List Frame} {meth : Method} {c : Code} {b L : Nat} {xs : Nat → Int32} {fx fy : Nat → Nat → Nat} (hL : L ≤ 4608) (C0 : lw_At p s m meth c b L xs) (hK : wK G s) (hdj : dj fx fy) {sx sy : sG} {M : wM} {i : Int} (hi0 : 0 ≤ i) (hi9 : i + 9 ≤ L) (hX : wX G fx sx M) (hY : wY G fy sy M) (hlit : lt2 sx sy) (hend : ∀ sx sy M, wX G fx sx M → wY G fy sy M → lt2 sx sy → wL G p e s m below meth c b 198 12034 1075 [(0, .ref b), (1, .ref (fx 0 0)), (2, .ref (fy 0 0)), (3, .int (gI i))] [] M) : wL G p e s m below meth c b 198 12034 570 [(0, .ref b), (1, .ref (fx 0 0)), (2, .ref (fy 0 0)), (3, .int (gI i))] [] M := by
  refine u_aloadn C0 dL_law_570 rfl ?_
  have hI0 := hX.2.2
  have hIY := hY.2.2
  refine u_callV C0 hK (tX6_differences hX ) ll_60 ⟨(Nat.le_of_ble_eq_true rfl), (Nat.le_of_ble_eq_true rfl)⟩ dL_law_571 rfl rfl (Nat.le_of_ble_eq_true rfl) ⟨by omega, by omega⟩ ⟨_, _, _, _, hX.2.1 0 0 (by decide), rfl⟩ (uI fun r1 M1 hr1 hp1 => ?_)
  obtain ⟨sx1, hX1, hO1, hl1⟩ : ∃ s', wX G fx s' M1 ∧ wO cntX fx M M1 ∧ eX sx s' := by obtain ⟨s', g1, g2, g3⟩ := hp1; exact ⟨s', g1, g2, eX.kp g3⟩
  clear hp1
  have hY := wY_keep hY hdj hO1
  refine u_pop C0 dL_law_574 rfl ?_
  refine u_aloadn C0 dL_law_575 rfl ?_
  refine u_callV C0 hK (tX7_differences hY ) ll_63 ⟨(Nat.le_of_ble_eq_true rfl), (Nat.le_of_ble_eq_true rfl)⟩ dL_law_576 rfl rfl (Nat.le_of_ble_eq_true rfl) ⟨by omega, by omega⟩ ⟨_, _, _, _, hY.2.1 0 0 (by decide), rfl⟩ (uI fun r2 M2 hr2 hp2 => ?_)
  obtain ⟨sy1, hY1, hO2, hl2⟩ : ∃ s', wY G fy s' M2 ∧ wO cntY fy M1 M2 ∧ eY sy s' := by obtain ⟨s', g1, g2, g3⟩ := hp2; exact ⟨s', g1, g2, eY.kp g3⟩
  clear hp2
  have hlit := hlit.go hI0.1.1.2 hl1 hl2
  have hX := wX_keep hX1 hdj hO2
  refine u_pop C0 dL_law_579 rfl ?_
  refine u_goto 1075 C0 dL_law_580 (by decide) ?_
  exact hend sx1 sy1 M2 hX hY1 hlit
set_option maxHeartbeats 4000000 in
set_option maxRecDepth 100000 in
theorem law_case_11 {G : gG} {p : Program} {e : Env} {s : State} {m : MethodId} {below : List Frame} {meth : Method} {c : Code} {b L : Nat} {xs : Nat → Int32} {fx fy : Nat → Nat → Nat} (hL : L ≤ 4608) (C0 : lw_At p s m meth c b L xs) (hK : wK G s) (hdj : dj fx fy) {sx sy : sG} {M : wM} {i : Int} (hi0 : 0 ≤ i) (hi9 : i + 9 ≤ L) (hX : wX G fx sx M) (hY : wY G fy sy M) (hlit : lt2 sx sy) (hend : ∀ sx sy M, wX G fx sx M → wY G fy sy M → lt2 sx sy → wL G p e s m below meth c b 198 12034 1075 [(0, .ref b), (1, .ref (fx 0 0)), (2, .ref (fy 0 0)), (3, .int (gI i))] [] M) : wL G p e s m below meth c b 198 12034 583 [(0, .ref b), (1, .ref (fx 0 0)), (2, .ref (fy 0 0)), (3, .int (gI i))] [] M := by
  refine u_aloadn C0 dL_law_583 rfl ?_
  refine u_aloadn C0 dL_law_584 rfl ?_
  refine u_iloadn C0 dL_law_585 rfl ?_
  refine u_iconst C0 dL_law_586 ?_
  refine u_iadd C0 dL_law_587 ?_
  refine u_sld C0 dL_law_588 (by omega) (by omega) (by omega) ?_
  refine u_aloadn C0 dL_law_589 rfl ?_
  refine u_iloadn C0 dL_law_590 rfl ?_
  refine u_iconst C0 dL_law_591 ?_
  refine u_iadd C0 dL_law_592 ?_
  refine u_sld C0 dL_law_593 (by omega) (by omega) (by omega) ?_
  have hI0 := hX.2.2
  have hIY := hY.2.2
  refine u_callV C0 hK (tX6_difference hX (rng_of _) (rng_of _)) ll_64 ⟨(Nat.le_of_ble_eq_true rfl), (Nat.le_of_ble_eq_true rfl)⟩ dL_law_594 rfl rfl (Nat.le_of_ble_eq_true rfl) ⟨by omega, by omega⟩ ⟨_, _, _, _, hX.2.1 0 0 (by decide), rfl⟩ (uI fun r1 M1 hr1 hp1 => ?_)
  obtain ⟨sx1, hX1, hO1, hl1⟩ : ∃ s', wX G fx s' M1 ∧ wO cntX fx M M1 ∧ eX sx s' := by obtain ⟨s', g1, g2, g3⟩ := hp1; exact ⟨s', g1, g2, eX.kp g3⟩
  clear hp1
  have hY := wY_keep hY hdj hO1
  refine u_pop C0 dL_law_597 rfl ?_
  refine u_aloadn C0 dL_law_598 rfl ?_
  refine u_aloadn C0 dL_law_599 rfl ?_
  refine u_iloadn C0 dL_law_600 rfl ?_
  refine u_iconst C0 dL_law_601 ?_
  refine u_iadd C0 dL_law_602 ?_
  refine u_sld C0 dL_law_603 (by omega) (by omega) (by omega) ?_
  refine u_aloadn C0 dL_law_604 rfl ?_
  refine u_iloadn C0 dL_law_605 rfl ?_
  refine u_iconst C0 dL_law_606 ?_
  refine u_iadd C0 dL_law_607 ?_
  refine u_sld C0 dL_law_608 (by omega) (by omega) (by omega) ?_
  refine u_callV C0 hK (tX7_difference hY (rng_of _) (rng_of _)) ll_67 ⟨(Nat.le_of_ble_eq_true rfl), (Nat.le_of_ble_eq_true rfl)⟩ dL_law_609 rfl rfl (Nat.le_of_ble_eq_true rfl) ⟨by omega, by omega⟩ ⟨_, _, _, _, hY.2.1 0 0 (by decide), rfl⟩ (uI fun r2 M2 hr2 hp2 => ?_)
  obtain ⟨sy1, hY1, hO2, hl2⟩ : ∃ s', wY G fy s' M2 ∧ wO cntY fy M1 M2 ∧ eY sy s' := by obtain ⟨s', g1, g2, g3⟩ := hp2; exact ⟨s', g1, g2, eY.kp g3⟩
  clear hp2
  have hlit := hlit.go hI0.1.1.2 hl1 hl2
  have hX := wX_keep hX1 hdj hO2
  refine u_pop C0 dL_law_612 rfl ?_
  refine u_goto 1075 C0 dL_law_613 (by decide) ?_
  exact hend sx1 sy1 M2 hX hY1 hlit
set_option maxHeartbeats 4000000 in
set_option maxRecDepth 100000 in
theorem law_case_12 {G : gG} {p : Program} {e : Env} {s : State} {m : MethodId} {below : List Frame} {meth : Method} {c : Code} {b L : Nat} {xs : Nat → Int32} {fx fy : Nat → Nat → Nat} (hL : L ≤ 4608) (C0 : lw_At p s m meth c b L xs) (hK : wK G s) (hdj : dj fx fy) {sx sy : sG} {M : wM} {i : Int} (hi0 : 0 ≤ i) (hi9 : i + 9 ≤ L) (hX : wX G fx sx M) (hY : wY G fy sy M) (hlit : lt2 sx sy) (hend : ∀ sx sy M, wX G fx sx M → wY G fy sy M → lt2 sx sy → wL G p e s m below meth c b 198 12034 1075 [(0, .ref b), (1, .ref (fx 0 0)), (2, .ref (fy 0 0)), (3, .int (gI i))] [] M) : wL G p e s m below meth c b 198 12034 616 [(0, .ref b), (1, .ref (fx 0 0)), (2, .ref (fy 0 0)), (3, .int (gI i))] [] M := by
  refine u_aloadn C0 dL_law_616 rfl ?_
  have hI0 := hX.2.2
  have hIY := hY.2.2
  refine u_callV C0 hK (tX6_first hX ) ll_68 ⟨(Nat.le_of_ble_eq_true rfl), (Nat.le_of_ble_eq_true rfl)⟩ dL_law_617 rfl rfl (Nat.le_of_ble_eq_true rfl) ⟨by omega, by omega⟩ ⟨_, _, _, _, hX.2.1 0 0 (by decide), rfl⟩ (uI fun r1 M1 hr1 hp1 => ?_)
  obtain ⟨sx1, hX1, hO1, hl1⟩ : ∃ s', wX G fx s' M1 ∧ wO cntX fx M M1 ∧ eX sx s' := by obtain ⟨s', g1, g2, g3⟩ := hp1; exact ⟨s', g1, g2, eX.kp g3⟩
  clear hp1
  have hY := wY_keep hY hdj hO1
  refine u_pop C0 dL_law_620 rfl ?_
  refine u_aloadn C0 dL_law_621 rfl ?_
  refine u_callV C0 hK (tX7_first hY ) ll_71 ⟨(Nat.le_of_ble_eq_true rfl), (Nat.le_of_ble_eq_true rfl)⟩ dL_law_622 rfl rfl (Nat.le_of_ble_eq_true rfl) ⟨by omega, by omega⟩ ⟨_, _, _, _, hY.2.1 0 0 (by decide), rfl⟩ (uI fun r2 M2 hr2 hp2 => ?_)
  obtain ⟨sy1, hY1, hO2, hl2⟩ : ∃ s', wY G fy s' M2 ∧ wO cntY fy M1 M2 ∧ eY sy s' := by obtain ⟨rfl, -⟩ := hp2; exact ⟨sy, hY, wO.rf, eY.rf⟩
  clear hp2
  have hlit := hlit.go hI0.1.1.2 hl1 hl2
  have hX := wX_keep hX1 hdj hO2
  refine u_pop C0 dL_law_625 rfl ?_
  refine u_goto 1075 C0 dL_law_626 (by decide) ?_
  exact hend sx1 sy1 M2 hX hY1 hlit
set_option maxHeartbeats 4000000 in
set_option maxRecDepth 100000 in
theorem law_case_13 {G : gG} {p : Program} {e : Env} {s : State} {m : MethodId} {below : List Frame} {meth : Method} {c : Code} {b L : Nat} {xs : Nat → Int32} {fx fy : Nat → Nat → Nat} (hL : L ≤ 4608) (C0 : lw_At p s m meth c b L xs) (hK : wK G s) (hdj : dj fx fy) {sx sy : sG} {M : wM} {i : Int} (hi0 : 0 ≤ i) (hi9 : i + 9 ≤ L) (hX : wX G fx sx M) (hY : wY G fy sy M) (hlit : lt2 sx sy) (hend : ∀ sx sy M, wX G fx sx M → wY G fy sy M → lt2 sx sy → wL G p e s m below meth c b 198 12034 1075 [(0, .ref b), (1, .ref (fx 0 0)), (2, .ref (fy 0 0)), (3, .int (gI i))] [] M) : wL G p e s m below meth c b 198 12034 629 [(0, .ref b), (1, .ref (fx 0 0)), (2, .ref (fy 0 0)), (3, .int (gI i))] [] M := by
  refine u_aloadn C0 dL_law_629 rfl ?_
  refine u_aloadn C0 dL_law_630 rfl ?_
  refine u_iloadn C0 dL_law_631 rfl ?_
  refine u_iconst C0 dL_law_632 ?_
  refine u_iadd C0 dL_law_633 ?_
  refine u_sld C0 dL_law_634 (by omega) (by omega) (by omega) ?_
  refine u_aloadn C0 dL_law_635 rfl ?_
  refine u_iloadn C0 dL_law_636 rfl ?_
  refine u_iconst C0 dL_law_637 ?_
  refine u_iadd C0 dL_law_638 ?_
  refine u_sld C0 dL_law_639 (by omega) (by omega) (by omega) ?_
  refine u_aloadn C0 dL_law_640 rfl ?_
  refine u_iloadn C0 dL_law_641 rfl ?_
  refine u_iconst C0 dL_law_642 ?_
  refine u_iadd C0 dL_law_643 ?_
  refine u_sld C0 dL_law_644 (by omega) (by omega) (by omega) ?_
  refine u_aloadn C0 dL_law_645 rfl ?_
  refine u_iloadn C0 dL_law_646 rfl ?_
  refine u_iconst C0 dL_law_647 ?_
  refine u_iadd C0 dL_law_648 ?_
  refine u_sld C0 dL_law_649 (by omega) (by omega) (by omega) ?_
  refine u_aloadn C0 dL_law_650 rfl ?_
  refine u_iloadn C0 dL_law_651 rfl ?_
  refine u_iconst C0 dL_law_652 ?_
  refine u_iadd C0 dL_law_653 ?_
  refine u_sld C0 dL_law_654 (by omega) (by omega) (by omega) ?_
  have hI0 := hX.2.2
  have hIY := hY.2.2
  refine u_callV C0 hK (tX6_channel hX (rng_of _) (rng_of _) (rng_of _) (rng_of _) (rng_of _)) ll_72 ⟨(Nat.le_of_ble_eq_true rfl), (Nat.le_of_ble_eq_true rfl)⟩ dL_law_655 rfl rfl (Nat.le_of_ble_eq_true rfl) ⟨by omega, by omega⟩ ⟨_, _, _, _, hX.2.1 0 0 (by decide), rfl⟩ (uI fun r1 M1 hr1 hp1 => ?_)
  obtain ⟨sx1, hX1, hO1, hR1⟩ := hp1
  have hY := wY_keep hY hdj hO1
  refine u_pop C0 dL_law_658 rfl ?_
  refine u_aloadn C0 dL_law_659 rfl ?_
  refine u_aloadn C0 dL_law_660 rfl ?_
  refine u_iloadn C0 dL_law_661 rfl ?_
  refine u_iconst C0 dL_law_662 ?_
  refine u_iadd C0 dL_law_663 ?_
  refine u_sld C0 dL_law_664 (by omega) (by omega) (by omega) ?_
  refine u_aloadn C0 dL_law_665 rfl ?_
  refine u_iloadn C0 dL_law_666 rfl ?_
  refine u_iconst C0 dL_law_667 ?_
  refine u_iadd C0 dL_law_668 ?_
  refine u_sld C0 dL_law_669 (by omega) (by omega) (by omega) ?_
  refine u_aloadn C0 dL_law_670 rfl ?_
  refine u_iloadn C0 dL_law_671 rfl ?_
  refine u_iconst C0 dL_law_672 ?_
  refine u_iadd C0 dL_law_673 ?_
  refine u_sld C0 dL_law_674 (by omega) (by omega) (by omega) ?_
  refine u_aloadn C0 dL_law_675 rfl ?_
  refine u_iloadn C0 dL_law_676 rfl ?_
  refine u_iconst C0 dL_law_677 ?_
  refine u_iadd C0 dL_law_678 ?_
  refine u_sld C0 dL_law_679 (by omega) (by omega) (by omega) ?_
  refine u_aloadn C0 dL_law_680 rfl ?_
  refine u_iloadn C0 dL_law_681 rfl ?_
  refine u_iconst C0 dL_law_682 ?_
  refine u_iadd C0 dL_law_683 ?_
  refine u_sld C0 dL_law_684 (by omega) (by omega) (by omega) ?_
  refine u_callV C0 hK (fX7_channel hY (rng_of _) (rng_of _) (rng_of _) (rng_of _) (rng_of _)) ll_76 ⟨(Nat.le_of_ble_eq_true rfl), (Nat.le_of_ble_eq_true rfl)⟩ dL_law_685 rfl rfl (Nat.le_of_ble_eq_true rfl) ⟨by omega, by omega⟩ ⟨_, _, _, _, hY.2.1 0 0 (by decide), rfl⟩ (uI fun r2 M2 hr2 hp2 => ?_)
  obtain ⟨sy1, hY1, hO2, hR2⟩ := hp2
  obtain ⟨hrr, hlit⟩ := lt2_channel hlit hI0.1.1.2 hR1 hR2
  have hX := wX_keep hX1 hdj hO2
  refine u_pop C0 dL_law_688 rfl ?_
  refine u_goto 1075 C0 dL_law_689 (by decide) ?_
  exact hend sx1 sy1 M2 hX hY1 hlit
set_option maxHeartbeats 4000000 in
set_option maxRecDepth 100000 in
theorem law_case_14 {G : gG} {p : Program} {e : Env} {s : State} {m : MethodId} {below : List Frame} {meth : Method} {c : Code} {b L : Nat} {xs : Nat → Int32} {fx fy : Nat → Nat → Nat} (hL : L ≤ 4608) (C0 : lw_At p s m meth c b L xs) (hK : wK G s) (hdj : dj fx fy) {sx sy : sG} {M : wM} {i : Int} (hi0 : 0 ≤ i) (hi9 : i + 9 ≤ L) (hX : wX G fx sx M) (hY : wY G fy sy M) (hlit : lt2 sx sy) (hend : ∀ sx sy M, wX G fx sx M → wY G fy sy M → lt2 sx sy → wL G p e s m below meth c b 198 12034 1075 [(0, .ref b), (1, .ref (fx 0 0)), (2, .ref (fy 0 0)), (3, .int (gI i))] [] M) : wL G p e s m below meth c b 198 12034 692 [(0, .ref b), (1, .ref (fx 0 0)), (2, .ref (fy 0 0)), (3, .int (gI i))] [] M := by
  refine u_aloadn C0 dL_law_692 rfl ?_
  refine u_aloadn C0 dL_law_693 rfl ?_
  refine u_iloadn C0 dL_law_694 rfl ?_
  refine u_iconst C0 dL_law_695 ?_
  refine u_iadd C0 dL_law_696 ?_
  refine u_sld C0 dL_law_697 (by omega) (by omega) (by omega) ?_
  refine u_aloadn C0 dL_law_698 rfl ?_
  refine u_iloadn C0 dL_law_699 rfl ?_
  refine u_iconst C0 dL_law_700 ?_
  refine u_iadd C0 dL_law_701 ?_
  refine u_sld C0 dL_law_702 (by omega) (by omega) (by omega) ?_
  refine u_aloadn C0 dL_law_703 rfl ?_
  refine u_iloadn C0 dL_law_704 rfl ?_
  refine u_iconst C0 dL_law_705 ?_
  refine u_iadd C0 dL_law_706 ?_
  refine u_sld C0 dL_law_707 (by omega) (by omega) (by omega) ?_
  refine u_aloadn C0 dL_law_708 rfl ?_
  refine u_iloadn C0 dL_law_709 rfl ?_
  refine u_iconst C0 dL_law_710 ?_
  refine u_iadd C0 dL_law_711 ?_
  refine u_sld C0 dL_law_712 (by omega) (by omega) (by omega) ?_
  have hI0 := hX.2.2
  have hIY := hY.2.2
  refine u_callV C0 hK (tX6_act hX (rng_of _) (rng_of _) (rng_of _) (rng_of _)) ll_77 ⟨(Nat.le_of_ble_eq_true rfl), (Nat.le_of_ble_eq_true rfl)⟩ dL_law_713 rfl rfl (Nat.le_of_ble_eq_true rfl) ⟨by omega, by omega⟩ ⟨_, _, _, _, hX.2.1 0 0 (by decide), rfl⟩ (uI fun r1 M1 hr1 hp1 => ?_)
  obtain ⟨sx1, hX1, hO1, hl1⟩ : ∃ s', wX G fx s' M1 ∧ wO cntX fx M M1 ∧ eX sx s' := by obtain ⟨rfl, -⟩ := hp1; exact ⟨sx, hX, wO.rf, eX.rf⟩
  clear hp1
  have hY := wY_keep hY hdj hO1
  refine u_pop C0 dL_law_716 rfl ?_
  refine u_aloadn C0 dL_law_717 rfl ?_
  refine u_aloadn C0 dL_law_718 rfl ?_
  refine u_iloadn C0 dL_law_719 rfl ?_
  refine u_iconst C0 dL_law_720 ?_
  refine u_iadd C0 dL_law_721 ?_
  refine u_sld C0 dL_law_722 (by omega) (by omega) (by omega) ?_
  refine u_aloadn C0 dL_law_723 rfl ?_
  refine u_iloadn C0 dL_law_724 rfl ?_
  refine u_iconst C0 dL_law_725 ?_
  refine u_iadd C0 dL_law_726 ?_
  refine u_sld C0 dL_law_727 (by omega) (by omega) (by omega) ?_
  refine u_aloadn C0 dL_law_728 rfl ?_
  refine u_iloadn C0 dL_law_729 rfl ?_
  refine u_iconst C0 dL_law_730 ?_
  refine u_iadd C0 dL_law_731 ?_
  refine u_sld C0 dL_law_732 (by omega) (by omega) (by omega) ?_
  refine u_aloadn C0 dL_law_733 rfl ?_
  refine u_iloadn C0 dL_law_734 rfl ?_
  refine u_iconst C0 dL_law_735 ?_
  refine u_iadd C0 dL_law_736 ?_
  refine u_sld C0 dL_law_737 (by omega) (by omega) (by omega) ?_
  refine u_callV C0 hK (tX7_act hY (rng_of _) (rng_of _) (rng_of _) (rng_of _)) ll_80 ⟨(Nat.le_of_ble_eq_true rfl), (Nat.le_of_ble_eq_true rfl)⟩ dL_law_738 rfl rfl (Nat.le_of_ble_eq_true rfl) ⟨by omega, by omega⟩ ⟨_, _, _, _, hY.2.1 0 0 (by decide), rfl⟩ (uI fun r2 M2 hr2 hp2 => ?_)
  obtain ⟨sy1, hY1, hO2, hl2⟩ : ∃ s', wY G fy s' M2 ∧ wO cntY fy M1 M2 ∧ eY sy s' := by obtain ⟨s', g1, g2, g3⟩ := hp2; exact ⟨s', g1, g2, eY.kp g3⟩
  clear hp2
  have hlit := hlit.go hI0.1.1.2 hl1 hl2
  have hX := wX_keep hX1 hdj hO2
  refine u_pop C0 dL_law_741 rfl ?_
  refine u_goto 1075 C0 dL_law_742 (by decide) ?_
  exact hend sx1 sy1 M2 hX hY1 hlit
set_option maxHeartbeats 4000000 in
set_option maxRecDepth 100000 in
theorem law_case_15 {G : gG} {p : Program} {e : Env} {s : State} {m : MethodId} {below : List Frame} {meth : Method} {c : Code} {b L : Nat} {xs : Nat → Int32} {fx fy : Nat → Nat → Nat} (hL : L ≤ 4608) (C0 : lw_At p s m meth c b L xs) (hK : wK G s) (hdj : dj fx fy) {sx sy : sG} {M : wM} {i : Int} (hi0 : 0 ≤ i) (hi9 : i + 9 ≤ L) (hX : wX G fx sx M) (hY : wY G fy sy M) (hlit : lt2 sx sy) (hend : ∀ sx sy M, wX G fx sx M → wY G fy sy M → lt2 sx sy → wL G p e s m below meth c b 198 12034 1075 [(0, .ref b), (1, .ref (fx 0 0)), (2, .ref (fy 0 0)), (3, .int (gI i))] [] M) : wL G p e s m below meth c b 198 12034 745 [(0, .ref b), (1, .ref (fx 0 0)), (2, .ref (fy 0 0)), (3, .int (gI i))] [] M := by
  refine u_aloadn C0 dL_law_745 rfl ?_
  refine u_aloadn C0 dL_law_746 rfl ?_
  refine u_iloadn C0 dL_law_747 rfl ?_
  refine u_iconst C0 dL_law_748 ?_
  refine u_iadd C0 dL_law_749 ?_
  refine u_sld C0 dL_law_750 (by omega) (by omega) (by omega) ?_
  have hI0 := hX.2.2
  have hIY := hY.2.2
  refine u_callV C0 hK (fX6_unlike (ans_x hlit hI0) hX (rng_of _)) ll_81 ⟨(Nat.le_of_ble_eq_true rfl), (Nat.le_of_ble_eq_true rfl)⟩ dL_law_751 rfl rfl (Nat.le_of_ble_eq_true rfl) ⟨by omega, by omega⟩ ⟨_, _, _, _, hX.2.1 0 0 (by decide), rfl⟩ (uI fun r1 M1 hr1 hp1 => ?_)
  have ha1 := hp1.2
  obtain ⟨sx1, hX1, hO1, hl1⟩ : ∃ s', wX G fx s' M1 ∧ wO cntX fx M M1 ∧ eX sx s' := by obtain ⟨rfl, -⟩ := hp1; exact ⟨sx, hX, wO.rf, eX.rf⟩
  clear hp1
  have hY := wY_keep hY hdj hO1
  refine u_aloadn C0 dL_law_754 rfl ?_
  refine u_aloadn C0 dL_law_755 rfl ?_
  refine u_iloadn C0 dL_law_756 rfl ?_
  refine u_iconst C0 dL_law_757 ?_
  refine u_iadd C0 dL_law_758 ?_
  refine u_sld C0 dL_law_759 (by omega) (by omega) (by omega) ?_
  refine u_callV C0 hK (fX7_unlike (ans_y hlit) hY (rng_of _)) ll_85 ⟨(Nat.le_of_ble_eq_true rfl), (Nat.le_of_ble_eq_true rfl)⟩ dL_law_760 rfl rfl (Nat.le_of_ble_eq_true rfl) ⟨by omega, by omega⟩ ⟨_, _, _, _, hY.2.1 0 0 (by decide), rfl⟩ (uI fun r2 M2 hr2 hp2 => ?_)
  obtain ⟨_, -, -, -, ha2⟩ := id hp2
  obtain ⟨sy1, hY1, hO2, hl2⟩ : ∃ s', wY G fy s' M2 ∧ wO cntY fy M1 M2 ∧ eY sy s' := by obtain ⟨s', g1, g2, g3, -⟩ := hp2; exact ⟨s', g1, g2, eY.kp g3⟩
  clear hp2
  have hrr := ans_unlike hlit hI0 hIY ha1 ha2
  have hlit := hlit.go hI0.1.1.2 hl1 hl2
  have hX := wX_keep hX1 hdj hO2
  refine u_icmp_eq 1075 C0 dL_law_763 (by decide) hr1 hr2 (fun hcmp => ?_) (fun hcmp => ?_)
  · exact hend sx1 sy1 M2 hX hY1 hlit
  · exact absurd hrr hcmp
set_option maxHeartbeats 4000000 in
set_option maxRecDepth 100000 in
theorem law_case_16 {G : gG} {p : Program} {e : Env} {s : State} {m : MethodId} {below : List Frame} {meth : Method} {c : Code} {b L : Nat} {xs : Nat → Int32} {fx fy : Nat → Nat → Nat} (hL : L ≤ 4608) (C0 : lw_At p s m meth c b L xs) (hK : wK G s) (hdj : dj fx fy) {sx sy : sG} {M : wM} {i : Int} (hi0 : 0 ≤ i) (hi9 : i + 9 ≤ L) (hX : wX G fx sx M) (hY : wY G fy sy M) (hlit : lt2 sx sy) (hend : ∀ sx sy M, wX G fx sx M → wY G fy sy M → lt2 sx sy → wL G p e s m below meth c b 198 12034 1075 [(0, .ref b), (1, .ref (fx 0 0)), (2, .ref (fy 0 0)), (3, .int (gI i))] [] M) : wL G p e s m below meth c b 198 12034 768 [(0, .ref b), (1, .ref (fx 0 0)), (2, .ref (fy 0 0)), (3, .int (gI i))] [] M := by
  refine u_aloadn C0 dL_law_768 rfl ?_
  refine u_aloadn C0 dL_law_769 rfl ?_
  refine u_iloadn C0 dL_law_770 rfl ?_
  refine u_iconst C0 dL_law_771 ?_
  refine u_iadd C0 dL_law_772 ?_
  refine u_sld C0 dL_law_773 (by omega) (by omega) (by omega) ?_
  have hI0 := hX.2.2
  have hIY := hY.2.2
  refine u_callV C0 hK (tX6_fit hX (rng_of _)) ll_86 ⟨(Nat.le_of_ble_eq_true rfl), (Nat.le_of_ble_eq_true rfl)⟩ dL_law_774 rfl rfl (Nat.le_of_ble_eq_true rfl) ⟨by omega, by omega⟩ ⟨_, _, _, _, hX.2.1 0 0 (by decide), rfl⟩ (uI fun r1 M1 hr1 hp1 => ?_)
  obtain ⟨sx1, hX1, hO1, hl1⟩ : ∃ s', wX G fx s' M1 ∧ wO cntX fx M M1 ∧ eX sx s' := by obtain ⟨s', g1, g2, g3⟩ := hp1; exact ⟨s', g1, g2, eX.kp g3⟩
  clear hp1
  have hY := wY_keep hY hdj hO1
  refine u_pop C0 dL_law_777 rfl ?_
  refine u_aloadn C0 dL_law_778 rfl ?_
  refine u_aloadn C0 dL_law_779 rfl ?_
  refine u_iloadn C0 dL_law_780 rfl ?_
  refine u_iconst C0 dL_law_781 ?_
  refine u_iadd C0 dL_law_782 ?_
  refine u_sld C0 dL_law_783 (by omega) (by omega) (by omega) ?_
  refine u_callV C0 hK (tX7_fit hY (rng_of _)) ll_89 ⟨(Nat.le_of_ble_eq_true rfl), (Nat.le_of_ble_eq_true rfl)⟩ dL_law_784 rfl rfl (Nat.le_of_ble_eq_true rfl) ⟨by omega, by omega⟩ ⟨_, _, _, _, hY.2.1 0 0 (by decide), rfl⟩ (uI fun r2 M2 hr2 hp2 => ?_)
  obtain ⟨sy1, hY1, hO2, hl2⟩ : ∃ s', wY G fy s' M2 ∧ wO cntY fy M1 M2 ∧ eY sy s' := by obtain ⟨rfl, -⟩ := hp2; exact ⟨sy, hY, wO.rf, eY.rf⟩
  clear hp2
  have hlit := hlit.go hI0.1.1.2 hl1 hl2
  have hX := wX_keep hX1 hdj hO2
  refine u_pop C0 dL_law_787 rfl ?_
  refine u_goto 1075 C0 dL_law_788 (by decide) ?_
  exact hend sx1 sy1 M2 hX hY1 hlit
set_option maxHeartbeats 4000000 in
set_option maxRecDepth 100000 in
theorem law_case_17 {G : gG} {p : Program} {e : Env} {s : State} {m : MethodId} {below : List Frame} {meth : Method} {c : Code} {b L : Nat} {xs : Nat → Int32} {fx fy : Nat → Nat → Nat} (hL : L ≤ 4608) (C0 : lw_At p s m meth c b L xs) (hK : wK G s) (hdj : dj fx fy) {sx sy : sG} {M : wM} {i : Int} (hi0 : 0 ≤ i) (hi9 : i + 9 ≤ L) (hX : wX G fx sx M) (hY : wY G fy sy M) (hlit : lt2 sx sy) (hend : ∀ sx sy M, wX G fx sx M → wY G fy sy M → lt2 sx sy → wL G p e s m below meth c b 198 12034 1075 [(0, .ref b), (1, .ref (fx 0 0)), (2, .ref (fy 0 0)), (3, .int (gI i))] [] M) : wL G p e s m below meth c b 198 12034 791 [(0, .ref b), (1, .ref (fx 0 0)), (2, .ref (fy 0 0)), (3, .int (gI i))] [] M := by
  refine u_aloadn C0 dL_law_791 rfl ?_
  refine u_aloadn C0 dL_law_792 rfl ?_
  refine u_iloadn C0 dL_law_793 rfl ?_
  refine u_iconst C0 dL_law_794 ?_
  refine u_iadd C0 dL_law_795 ?_
  refine u_sld C0 dL_law_796 (by omega) (by omega) (by omega) ?_
  refine u_aloadn C0 dL_law_797 rfl ?_
  refine u_iloadn C0 dL_law_798 rfl ?_
  refine u_iconst C0 dL_law_799 ?_
  refine u_iadd C0 dL_law_800 ?_
  refine u_sld C0 dL_law_801 (by omega) (by omega) (by omega) ?_
  refine u_aloadn C0 dL_law_802 rfl ?_
  refine u_iloadn C0 dL_law_803 rfl ?_
  refine u_iconst C0 dL_law_804 ?_
  refine u_iadd C0 dL_law_805 ?_
  refine u_sld C0 dL_law_806 (by omega) (by omega) (by omega) ?_
  refine u_aloadn C0 dL_law_807 rfl ?_
  refine u_iloadn C0 dL_law_808 rfl ?_
  refine u_iconst C0 dL_law_809 ?_
  refine u_iadd C0 dL_law_810 ?_
  refine u_sld C0 dL_law_811 (by omega) (by omega) (by omega) ?_
  have hI0 := hX.2.2
  have hIY := hY.2.2
  refine u_callV C0 hK (tX6_gate hX (rng_of _) (rng_of _) (rng_of _) (rng_of _)) ll_90 ⟨(Nat.le_of_ble_eq_true rfl), (Nat.le_of_ble_eq_true rfl)⟩ dL_law_812 rfl rfl (Nat.le_of_ble_eq_true rfl) ⟨by omega, by omega⟩ ⟨_, _, _, _, hX.2.1 0 0 (by decide), rfl⟩ (uI fun r1 M1 hr1 hp1 => ?_)
  obtain ⟨sx1, hX1, hO1, hl1⟩ : ∃ s', wX G fx s' M1 ∧ wO cntX fx M M1 ∧ eX sx s' := by obtain ⟨s', g1, g2, g3⟩ := hp1; exact ⟨s', g1, g2, by rcases g3 with ⟨-, -, rfl⟩ | ⟨-, -, rfl⟩ <;> first | exact eX.rf | exact eX.g⟩
  clear hp1
  have hY := wY_keep hY hdj hO1
  refine u_pop C0 dL_law_815 rfl ?_
  refine u_aloadn C0 dL_law_816 rfl ?_
  refine u_aloadn C0 dL_law_817 rfl ?_
  refine u_iloadn C0 dL_law_818 rfl ?_
  refine u_iconst C0 dL_law_819 ?_
  refine u_iadd C0 dL_law_820 ?_
  refine u_sld C0 dL_law_821 (by omega) (by omega) (by omega) ?_
  refine u_aloadn C0 dL_law_822 rfl ?_
  refine u_iloadn C0 dL_law_823 rfl ?_
  refine u_iconst C0 dL_law_824 ?_
  refine u_iadd C0 dL_law_825 ?_
  refine u_sld C0 dL_law_826 (by omega) (by omega) (by omega) ?_
  refine u_aloadn C0 dL_law_827 rfl ?_
  refine u_iloadn C0 dL_law_828 rfl ?_
  refine u_iconst C0 dL_law_829 ?_
  refine u_iadd C0 dL_law_830 ?_
  refine u_sld C0 dL_law_831 (by omega) (by omega) (by omega) ?_
  refine u_aloadn C0 dL_law_832 rfl ?_
  refine u_iloadn C0 dL_law_833 rfl ?_
  refine u_iconst C0 dL_law_834 ?_
  refine u_iadd C0 dL_law_835 ?_
  refine u_sld C0 dL_law_836 (by omega) (by omega) (by omega) ?_
  refine u_callV C0 hK (tX7_gate hY (rng_of _) (rng_of _) (rng_of _) (rng_of _)) ll_93 ⟨(Nat.le_of_ble_eq_true rfl), (Nat.le_of_ble_eq_true rfl)⟩ dL_law_837 rfl rfl (Nat.le_of_ble_eq_true rfl) ⟨by omega, by omega⟩ ⟨_, _, _, _, hY.2.1 0 0 (by decide), rfl⟩ (uI fun r2 M2 hr2 hp2 => ?_)
  obtain ⟨sy1, hY1, hO2, hl2⟩ : ∃ s', wY G fy s' M2 ∧ wO cntY fy M1 M2 ∧ eY sy s' := by obtain ⟨s', g1, g2, g3⟩ := hp2; exact ⟨s', g1, g2, eY.g g3⟩
  clear hp2
  have hlit := hlit.go hI0.1.1.2 hl1 hl2
  have hX := wX_keep hX1 hdj hO2
  refine u_pop C0 dL_law_840 rfl ?_
  refine u_goto 1075 C0 dL_law_841 (by decide) ?_
  exact hend sx1 sy1 M2 hX hY1 hlit
set_option maxHeartbeats 4000000 in
set_option maxRecDepth 100000 in
theorem law_case_18 {G : gG} {p : Program} {e : Env} {s : State} {m : MethodId} {below : List Frame} {meth : Method} {c : Code} {b L : Nat} {xs : Nat → Int32} {fx fy : Nat → Nat → Nat} (hL : L ≤ 4608) (C0 : lw_At p s m meth c b L xs) (hK : wK G s) (hdj : dj fx fy) {sx sy : sG} {M : wM} {i : Int} (hi0 : 0 ≤ i) (hi9 : i + 9 ≤ L) (hX : wX G fx sx M) (hY : wY G fy sy M) (hlit : lt2 sx sy) (hend : ∀ sx sy M, wX G fx sx M → wY G fy sy M → lt2 sx sy → wL G p e s m below meth c b 198 12034 1075 [(0, .ref b), (1, .ref (fx 0 0)), (2, .ref (fy 0 0)), (3, .int (gI i))] [] M) : wL G p e s m below meth c b 198 12034 844 [(0, .ref b), (1, .ref (fx 0 0)), (2, .ref (fy 0 0)), (3, .int (gI i))] [] M := by
  refine u_aloadn C0 dL_law_844 rfl ?_
  refine u_aloadn C0 dL_law_845 rfl ?_
  refine u_iloadn C0 dL_law_846 rfl ?_
  refine u_iconst C0 dL_law_847 ?_
  refine u_iadd C0 dL_law_848 ?_
  refine u_sld C0 dL_law_849 (by omega) (by omega) (by omega) ?_
  have hI0 := hX.2.2
  have hIY := hY.2.2
  refine u_callV C0 hK (tX6_guilty hX (rng_of _)) ll_94 ⟨(Nat.le_of_ble_eq_true rfl), (Nat.le_of_ble_eq_true rfl)⟩ dL_law_850 rfl rfl (Nat.le_of_ble_eq_true rfl) ⟨by omega, by omega⟩ ⟨_, _, _, _, hX.2.1 0 0 (by decide), rfl⟩ (uI fun r1 M1 hr1 hp1 => ?_)
  obtain ⟨sx1, hX1, hO1, hl1⟩ : ∃ s', wX G fx s' M1 ∧ wO cntX fx M M1 ∧ eX sx s' := by obtain ⟨rfl, -⟩ := hp1; exact ⟨sx, hX, wO.rf, eX.rf⟩
  clear hp1
  have hY := wY_keep hY hdj hO1
  refine u_pop C0 dL_law_853 rfl ?_
  refine u_aloadn C0 dL_law_854 rfl ?_
  refine u_aloadn C0 dL_law_855 rfl ?_
  refine u_iloadn C0 dL_law_856 rfl ?_
  refine u_iconst C0 dL_law_857 ?_
  refine u_iadd C0 dL_law_858 ?_
  refine u_sld C0 dL_law_859 (by omega) (by omega) (by omega) ?_
  refine u_callV C0 hK (tX7_guilty hY (rng_of _)) ll_97 ⟨(Nat.le_of_ble_eq_true rfl), (Nat.le_of_ble_eq_true rfl)⟩ dL_law_860 rfl rfl (Nat.le_of_ble_eq_true rfl) ⟨by omega, by omega⟩ ⟨_, _, _, _, hY.2.1 0 0 (by decide), rfl⟩ (uI fun r2 M2 hr2 hp2 => ?_)
  obtain ⟨sy1, hY1, hO2, hl2⟩ : ∃ s', wY G fy s' M2 ∧ wO cntY fy M1 M2 ∧ eY sy s' := by obtain ⟨rfl, -⟩ := hp2; exact ⟨sy, hY, wO.rf, eY.rf⟩
  clear hp2
  have hlit := hlit.go hI0.1.1.2 hl1 hl2
  have hX := wX_keep hX1 hdj hO2
  refine u_pop C0 dL_law_863 rfl ?_
  refine u_goto 1075 C0 dL_law_864 (by decide) ?_
  exact hend sx1 sy1 M2 hX hY1 hlit
set_option maxHeartbeats 4000000 in
set_option maxRecDepth 100000 in
theorem law_case_19 {G : gG} {p : Program} {e : Env} {s : State} {m : MethodId} {below : List Frame} {meth : Method} {c : Code} {b L : Nat} {xs : Nat → Int32} {fx fy : Nat → Nat → Nat} (hL : L ≤ 4608) (C0 : lw_At p s m meth c b L xs) (hK : wK G s) (hdj : dj fx fy) {sx sy : sG} {M : wM} {i : Int} (hi0 : 0 ≤ i) (hi9 : i + 9 ≤ L) (hX : wX G fx sx M) (hY : wY G fy sy M) (hlit : lt2 sx sy) (hend : ∀ sx sy M, wX G fx sx M → wY G fy sy M → lt2 sx sy → wL G p e s m below meth c b 198 12034 1075 [(0, .ref b), (1, .ref (fx 0 0)), (2, .ref (fy 0 0)), (3, .int (gI i))] [] M) : wL G p e s m below meth c b 198 12034 867 [(0, .ref b), (1, .ref (fx 0 0)), (2, .ref (fy 0 0)), (3, .int (gI i))] [] M := by
  refine u_aloadn C0 dL_law_867 rfl ?_
  refine u_aloadn C0 dL_law_868 rfl ?_
  refine u_iloadn C0 dL_law_869 rfl ?_
  refine u_iconst C0 dL_law_870 ?_
  refine u_iadd C0 dL_law_871 ?_
  refine u_sld C0 dL_law_872 (by omega) (by omega) (by omega) ?_
  have hI0 := hX.2.2
  have hIY := hY.2.2
  refine u_callV C0 hK (tX6_alike hX (rng_of _)) ll_98 ⟨(Nat.le_of_ble_eq_true rfl), (Nat.le_of_ble_eq_true rfl)⟩ dL_law_873 rfl rfl (Nat.le_of_ble_eq_true rfl) ⟨by omega, by omega⟩ ⟨_, _, _, _, hX.2.1 0 0 (by decide), rfl⟩ (uI fun r1 M1 hr1 hp1 => ?_)
  obtain ⟨sx1, hX1, hO1, hl1⟩ : ∃ s', wX G fx s' M1 ∧ wO cntX fx M M1 ∧ eX sx s' := by obtain ⟨s', g1, g2, g3⟩ := hp1; exact ⟨s', g1, g2, eX.kp g3⟩
  clear hp1
  have hY := wY_keep hY hdj hO1
  refine u_pop C0 dL_law_876 rfl ?_
  refine u_aloadn C0 dL_law_877 rfl ?_
  refine u_aloadn C0 dL_law_878 rfl ?_
  refine u_iloadn C0 dL_law_879 rfl ?_
  refine u_iconst C0 dL_law_880 ?_
  refine u_iadd C0 dL_law_881 ?_
  refine u_sld C0 dL_law_882 (by omega) (by omega) (by omega) ?_
  refine u_callV C0 hK (tX7_alike hY (rng_of _)) ll_101 ⟨(Nat.le_of_ble_eq_true rfl), (Nat.le_of_ble_eq_true rfl)⟩ dL_law_883 rfl rfl (Nat.le_of_ble_eq_true rfl) ⟨by omega, by omega⟩ ⟨_, _, _, _, hY.2.1 0 0 (by decide), rfl⟩ (uI fun r2 M2 hr2 hp2 => ?_)
  obtain ⟨sy1, hY1, hO2, hl2⟩ : ∃ s', wY G fy s' M2 ∧ wO cntY fy M1 M2 ∧ eY sy s' := by obtain ⟨rfl, -⟩ := hp2; exact ⟨sy, hY, wO.rf, eY.rf⟩
  clear hp2
  have hlit := hlit.go hI0.1.1.2 hl1 hl2
  have hX := wX_keep hX1 hdj hO2
  refine u_pop C0 dL_law_886 rfl ?_
  refine u_goto 1075 C0 dL_law_887 (by decide) ?_
  exact hend sx1 sy1 M2 hX hY1 hlit
set_option maxHeartbeats 4000000 in
set_option maxRecDepth 100000 in
theorem law_case_20 {G : gG} {p : Program} {e : Env} {s : State} {m : MethodId} {below : List Frame} {meth : Method} {c : Code} {b L : Nat} {xs : Nat → Int32} {fx fy : Nat → Nat → Nat} (hL : L ≤ 4608) (C0 : lw_At p s m meth c b L xs) (hK : wK G s) (hdj : dj fx fy) {sx sy : sG} {M : wM} {i : Int} (hi0 : 0 ≤ i) (hi9 : i + 9 ≤ L) (hX : wX G fx sx M) (hY : wY G fy sy M) (hlit : lt2 sx sy) (hend : ∀ sx sy M, wX G fx sx M → wY G fy sy M → lt2 sx sy → wL G p e s m below meth c b 198 12034 1075 [(0, .ref b), (1, .ref (fx 0 0)), (2, .ref (fy 0 0)), (3, .int (gI i))] [] M) : wL G p e s m below meth c b 198 12034 890 [(0, .ref b), (1, .ref (fx 0 0)), (2, .ref (fy 0 0)), (3, .int (gI i))] [] M := by
  refine u_aloadn C0 dL_law_890 rfl ?_
  refine u_aloadn C0 dL_law_891 rfl ?_
  refine u_iloadn C0 dL_law_892 rfl ?_
  refine u_iconst C0 dL_law_893 ?_
  refine u_iadd C0 dL_law_894 ?_
  refine u_sld C0 dL_law_895 (by omega) (by omega) (by omega) ?_
  refine u_aloadn C0 dL_law_896 rfl ?_
  refine u_iloadn C0 dL_law_897 rfl ?_
  refine u_iconst C0 dL_law_898 ?_
  refine u_iadd C0 dL_law_899 ?_
  refine u_sld C0 dL_law_900 (by omega) (by omega) (by omega) ?_
  refine u_aloadn C0 dL_law_901 rfl ?_
  refine u_iloadn C0 dL_law_902 rfl ?_
  refine u_iconst C0 dL_law_903 ?_
  refine u_iadd C0 dL_law_904 ?_
  refine u_sld C0 dL_law_905 (by omega) (by omega) (by omega) ?_
  refine u_aloadn C0 dL_law_906 rfl ?_
  refine u_iloadn C0 dL_law_907 rfl ?_
  refine u_iconst C0 dL_law_908 ?_
  refine u_iadd C0 dL_law_909 ?_
  refine u_sld C0 dL_law_910 (by omega) (by omega) (by omega) ?_
  refine u_aloadn C0 dL_law_911 rfl ?_
  refine u_iloadn C0 dL_law_912 rfl ?_
  refine u_iconst C0 dL_law_913 ?_
  refine u_iadd C0 dL_law_914 ?_
  refine u_sld C0 dL_law_915 (by omega) (by omega) (by omega) ?_
  refine u_aloadn C0 dL_law_916 rfl ?_
  refine u_iloadn C0 dL_law_917 rfl ?_
  refine u_bipush C0 dL_law_918 (by decide) ?_
  refine u_iadd C0 dL_law_920 ?_
  refine u_sld C0 dL_law_921 (by omega) (by omega) (by omega) ?_
  refine u_aloadn C0 dL_law_922 rfl ?_
  refine u_iloadn C0 dL_law_923 rfl ?_
  refine u_bipush C0 dL_law_924 (by decide) ?_
  refine u_iadd C0 dL_law_926 ?_
  refine u_sld C0 dL_law_927 (by omega) (by omega) (by omega) ?_
  refine u_aloadn C0 dL_law_928 rfl ?_
  refine u_iloadn C0 dL_law_929 rfl ?_
  refine u_bipush C0 dL_law_930 (by decide) ?_
  refine u_iadd C0 dL_law_932 ?_
  refine u_sld C0 dL_law_933 (by omega) (by omega) (by omega) ?_
  have hI0 := hX.2.2
  have hIY := hY.2.2
  refine u_callV C0 hK (tX6_holds hX (rng_of _) (rng_of _) (rng_of _) (rng_of _) (rng_of _) (rng_of _) (rng_of _) (rng_of _)) ll_102 ⟨(Nat.le_of_ble_eq_true rfl), (Nat.le_of_ble_eq_true rfl)⟩ dL_law_934 rfl rfl (Nat.le_of_ble_eq_true rfl) ⟨by omega, by omega⟩ ⟨_, _, _, _, hX.2.1 0 0 (by decide), rfl⟩ (uI fun r1 M1 hr1 hp1 => ?_)
  obtain ⟨sx1, hX1, hO1, hl1⟩ : ∃ s', wX G fx s' M1 ∧ wO cntX fx M M1 ∧ eX sx s' := by obtain ⟨s', g1, g2, g3⟩ := hp1; exact ⟨s', g1, g2, eX.kp g3⟩
  clear hp1
  have hY := wY_keep hY hdj hO1
  refine u_pop C0 dL_law_937 rfl ?_
  refine u_aloadn C0 dL_law_938 rfl ?_
  refine u_aloadn C0 dL_law_939 rfl ?_
  refine u_iloadn C0 dL_law_940 rfl ?_
  refine u_iconst C0 dL_law_941 ?_
  refine u_iadd C0 dL_law_942 ?_
  refine u_sld C0 dL_law_943 (by omega) (by omega) (by omega) ?_
  refine u_aloadn C0 dL_law_944 rfl ?_
  refine u_iloadn C0 dL_law_945 rfl ?_
  refine u_iconst C0 dL_law_946 ?_
  refine u_iadd C0 dL_law_947 ?_
  refine u_sld C0 dL_law_948 (by omega) (by omega) (by omega) ?_
  refine u_aloadn C0 dL_law_949 rfl ?_
  refine u_iloadn C0 dL_law_950 rfl ?_
  refine u_iconst C0 dL_law_951 ?_
  refine u_iadd C0 dL_law_952 ?_
  refine u_sld C0 dL_law_953 (by omega) (by omega) (by omega) ?_
  refine u_aloadn C0 dL_law_954 rfl ?_
  refine u_iloadn C0 dL_law_955 rfl ?_
  refine u_iconst C0 dL_law_956 ?_
  refine u_iadd C0 dL_law_957 ?_
  refine u_sld C0 dL_law_958 (by omega) (by omega) (by omega) ?_
  refine u_aloadn C0 dL_law_959 rfl ?_
  refine u_iloadn C0 dL_law_960 rfl ?_
  refine u_iconst C0 dL_law_961 ?_
  refine u_iadd C0 dL_law_962 ?_
  refine u_sld C0 dL_law_963 (by omega) (by omega) (by omega) ?_
  refine u_aloadn C0 dL_law_964 rfl ?_
  refine u_iloadn C0 dL_law_965 rfl ?_
  refine u_bipush C0 dL_law_966 (by decide) ?_
  refine u_iadd C0 dL_law_968 ?_
  refine u_sld C0 dL_law_969 (by omega) (by omega) (by omega) ?_
  refine u_aloadn C0 dL_law_970 rfl ?_
  refine u_iloadn C0 dL_law_971 rfl ?_
  refine u_bipush C0 dL_law_972 (by decide) ?_
  refine u_iadd C0 dL_law_974 ?_
  refine u_sld C0 dL_law_975 (by omega) (by omega) (by omega) ?_
  refine u_aloadn C0 dL_law_976 rfl ?_
  refine u_iloadn C0 dL_law_977 rfl ?_
  refine u_bipush C0 dL_law_978 (by decide) ?_
  refine u_iadd C0 dL_law_980 ?_
  refine u_sld C0 dL_law_981 (by omega) (by omega) (by omega) ?_
  refine u_callV C0 hK (tX7_holds hY (rng_of _) (rng_of _) (rng_of _) (rng_of _) (rng_of _) (rng_of _) (rng_of _) (rng_of _)) ll_106 ⟨(Nat.le_of_ble_eq_true rfl), (Nat.le_of_ble_eq_true rfl)⟩ dL_law_982 rfl rfl (Nat.le_of_ble_eq_true rfl) ⟨by omega, by omega⟩ ⟨_, _, _, _, hY.2.1 0 0 (by decide), rfl⟩ (uI fun r2 M2 hr2 hp2 => ?_)
  obtain ⟨sy1, hY1, hO2, hl2⟩ : ∃ s', wY G fy s' M2 ∧ wO cntY fy M1 M2 ∧ eY sy s' := by obtain ⟨rfl, -⟩ := hp2; exact ⟨sy, hY, wO.rf, eY.rf⟩
  clear hp2
  have hlit := hlit.go hI0.1.1.2 hl1 hl2
  have hX := wX_keep hX1 hdj hO2
  refine u_pop C0 dL_law_985 rfl ?_
  refine u_goto 1075 C0 dL_law_986 (by decide) ?_
  exact hend sx1 sy1 M2 hX hY1 hlit
set_option maxHeartbeats 4000000 in
set_option maxRecDepth 100000 in
theorem law_case_21 {G : gG} {p : Program} {e : Env} {s : State} {m : MethodId} {below : List Frame} {meth : Method} {c : Code} {b L : Nat} {xs : Nat → Int32} {fx fy : Nat → Nat → Nat} (hL : L ≤ 4608) (C0 : lw_At p s m meth c b L xs) (hK : wK G s) (hdj : dj fx fy) {sx sy : sG} {M : wM} {i : Int} (hi0 : 0 ≤ i) (hi9 : i + 9 ≤ L) (hX : wX G fx sx M) (hY : wY G fy sy M) (hlit : lt2 sx sy) (hend : ∀ sx sy M, wX G fx sx M → wY G fy sy M → lt2 sx sy → wL G p e s m below meth c b 198 12034 1075 [(0, .ref b), (1, .ref (fx 0 0)), (2, .ref (fy 0 0)), (3, .int (gI i))] [] M) : wL G p e s m below meth c b 198 12034 989 [(0, .ref b), (1, .ref (fx 0 0)), (2, .ref (fy 0 0)), (3, .int (gI i))] [] M := by
  refine u_aloadn C0 dL_law_989 rfl ?_
  refine u_aloadn C0 dL_law_990 rfl ?_
  refine u_iloadn C0 dL_law_991 rfl ?_
  refine u_iconst C0 dL_law_992 ?_
  refine u_iadd C0 dL_law_993 ?_
  refine u_sld C0 dL_law_994 (by omega) (by omega) (by omega) ?_
  refine u_aloadn C0 dL_law_995 rfl ?_
  refine u_iloadn C0 dL_law_996 rfl ?_
  refine u_iconst C0 dL_law_997 ?_
  refine u_iadd C0 dL_law_998 ?_
  refine u_sld C0 dL_law_999 (by omega) (by omega) (by omega) ?_
  refine u_aloadn C0 dL_law_1000 rfl ?_
  refine u_iloadn C0 dL_law_1001 rfl ?_
  refine u_iconst C0 dL_law_1002 ?_
  refine u_iadd C0 dL_law_1003 ?_
  refine u_sld C0 dL_law_1004 (by omega) (by omega) (by omega) ?_
  refine u_aloadn C0 dL_law_1005 rfl ?_
  refine u_iloadn C0 dL_law_1006 rfl ?_
  refine u_iconst C0 dL_law_1007 ?_
  refine u_iadd C0 dL_law_1008 ?_
  refine u_sld C0 dL_law_1009 (by omega) (by omega) (by omega) ?_
  refine u_aloadn C0 dL_law_1010 rfl ?_
  refine u_iloadn C0 dL_law_1011 rfl ?_
  refine u_iconst C0 dL_law_1012 ?_
  refine u_iadd C0 dL_law_1013 ?_
  refine u_sld C0 dL_law_1014 (by omega) (by omega) (by omega) ?_
  have hI0 := hX.2.2
  have hIY := hY.2.2
  refine u_callV C0 hK (tX6_window hX (rng_of _) (rng_of _) (rng_of _) (rng_of _) (rng_of _)) ll_107 ⟨(Nat.le_of_ble_eq_true rfl), (Nat.le_of_ble_eq_true rfl)⟩ dL_law_1015 rfl rfl (Nat.le_of_ble_eq_true rfl) ⟨by omega, by omega⟩ ⟨_, _, _, _, hX.2.1 0 0 (by decide), rfl⟩ (uI fun r1 M1 hr1 hp1 => ?_)
  obtain ⟨sx1, hX1, hO1, hl1⟩ : ∃ s', wX G fx s' M1 ∧ wO cntX fx M M1 ∧ eX sx s' := by obtain ⟨rfl, -⟩ := hp1; exact ⟨sx, hX, wO.rf, eX.rf⟩
  clear hp1
  have hY := wY_keep hY hdj hO1
  refine u_pop C0 dL_law_1018 rfl ?_
  refine u_aloadn C0 dL_law_1019 rfl ?_
  refine u_aloadn C0 dL_law_1020 rfl ?_
  refine u_iloadn C0 dL_law_1021 rfl ?_
  refine u_iconst C0 dL_law_1022 ?_
  refine u_iadd C0 dL_law_1023 ?_
  refine u_sld C0 dL_law_1024 (by omega) (by omega) (by omega) ?_
  refine u_aloadn C0 dL_law_1025 rfl ?_
  refine u_iloadn C0 dL_law_1026 rfl ?_
  refine u_iconst C0 dL_law_1027 ?_
  refine u_iadd C0 dL_law_1028 ?_
  refine u_sld C0 dL_law_1029 (by omega) (by omega) (by omega) ?_
  refine u_aloadn C0 dL_law_1030 rfl ?_
  refine u_iloadn C0 dL_law_1031 rfl ?_
  refine u_iconst C0 dL_law_1032 ?_
  refine u_iadd C0 dL_law_1033 ?_
  refine u_sld C0 dL_law_1034 (by omega) (by omega) (by omega) ?_
  refine u_aloadn C0 dL_law_1035 rfl ?_
  refine u_iloadn C0 dL_law_1036 rfl ?_
  refine u_iconst C0 dL_law_1037 ?_
  refine u_iadd C0 dL_law_1038 ?_
  refine u_sld C0 dL_law_1039 (by omega) (by omega) (by omega) ?_
  refine u_aloadn C0 dL_law_1040 rfl ?_
  refine u_iloadn C0 dL_law_1041 rfl ?_
  refine u_iconst C0 dL_law_1042 ?_
  refine u_iadd C0 dL_law_1043 ?_
  refine u_sld C0 dL_law_1044 (by omega) (by omega) (by omega) ?_
  refine u_callV C0 hK (tX7_window hY (rng_of _) (rng_of _) (rng_of _) (rng_of _) (rng_of _)) ll_110 ⟨(Nat.le_of_ble_eq_true rfl), (Nat.le_of_ble_eq_true rfl)⟩ dL_law_1045 rfl rfl (Nat.le_of_ble_eq_true rfl) ⟨by omega, by omega⟩ ⟨_, _, _, _, hY.2.1 0 0 (by decide), rfl⟩ (uI fun r2 M2 hr2 hp2 => ?_)
  obtain ⟨sy1, hY1, hO2, hl2⟩ : ∃ s', wY G fy s' M2 ∧ wO cntY fy M1 M2 ∧ eY sy s' := by obtain ⟨rfl, -⟩ := hp2; exact ⟨sy, hY, wO.rf, eY.rf⟩
  clear hp2
  have hlit := hlit.go hI0.1.1.2 hl1 hl2
  have hX := wX_keep hX1 hdj hO2
  refine u_pop C0 dL_law_1048 rfl ?_
  refine u_goto 1075 C0 dL_law_1049 (by decide) ?_
  exact hend sx1 sy1 M2 hX hY1 hlit
set_option maxHeartbeats 4000000 in
set_option maxRecDepth 100000 in
theorem law_case_22 {G : gG} {p : Program} {e : Env} {s : State} {m : MethodId} {below : List Frame} {meth : Method} {c : Code} {b L : Nat} {xs : Nat → Int32} {fx fy : Nat → Nat → Nat} (hL : L ≤ 4608) (C0 : lw_At p s m meth c b L xs) (hK : wK G s) (hdj : dj fx fy) {sx sy : sG} {M : wM} {i : Int} (hi0 : 0 ≤ i) (hi9 : i + 9 ≤ L) (hX : wX G fx sx M) (hY : wY G fy sy M) (hlit : lt2 sx sy) (hend : ∀ sx sy M, wX G fx sx M → wY G fy sy M → lt2 sx sy → wL G p e s m below meth c b 198 12034 1075 [(0, .ref b), (1, .ref (fx 0 0)), (2, .ref (fy 0 0)), (3, .int (gI i))] [] M) : wL G p e s m below meth c b 198 12034 1052 [(0, .ref b), (1, .ref (fx 0 0)), (2, .ref (fy 0 0)), (3, .int (gI i))] [] M := by
  refine u_aloadn C0 dL_law_1052 rfl ?_
  refine u_aloadn C0 dL_law_1053 rfl ?_
  refine u_iloadn C0 dL_law_1054 rfl ?_
  refine u_iconst C0 dL_law_1055 ?_
  refine u_iadd C0 dL_law_1056 ?_
  refine u_sld C0 dL_law_1057 (by omega) (by omega) (by omega) ?_
  have hI0 := hX.2.2
  have hIY := hY.2.2
  refine u_callV C0 hK (tX6_count hX (rng_of _)) ll_111 ⟨(Nat.le_of_ble_eq_true rfl), (Nat.le_of_ble_eq_true rfl)⟩ dL_law_1058 rfl rfl (Nat.le_of_ble_eq_true rfl) ⟨by omega, by omega⟩ ⟨_, _, _, _, hX.2.1 0 0 (by decide), rfl⟩ (uI fun r1 M1 hr1 hp1 => ?_)
  obtain ⟨sx1, hX1, hO1, hl1⟩ : ∃ s', wX G fx s' M1 ∧ wO cntX fx M M1 ∧ eX sx s' := by obtain ⟨rfl, -⟩ := hp1; exact ⟨sx, hX, wO.rf, eX.rf⟩
  clear hp1
  have hY := wY_keep hY hdj hO1
  refine u_pop C0 dL_law_1061 rfl ?_
  refine u_aloadn C0 dL_law_1062 rfl ?_
  refine u_aloadn C0 dL_law_1063 rfl ?_
  refine u_iloadn C0 dL_law_1064 rfl ?_
  refine u_iconst C0 dL_law_1065 ?_
  refine u_iadd C0 dL_law_1066 ?_
  refine u_sld C0 dL_law_1067 (by omega) (by omega) (by omega) ?_
  refine u_callV C0 hK (tX7_count hY (rng_of _)) ll_114 ⟨(Nat.le_of_ble_eq_true rfl), (Nat.le_of_ble_eq_true rfl)⟩ dL_law_1068 rfl rfl (Nat.le_of_ble_eq_true rfl) ⟨by omega, by omega⟩ ⟨_, _, _, _, hY.2.1 0 0 (by decide), rfl⟩ (uI fun r2 M2 hr2 hp2 => ?_)
  obtain ⟨sy1, hY1, hO2, hl2⟩ : ∃ s', wY G fy s' M2 ∧ wO cntY fy M1 M2 ∧ eY sy s' := by obtain ⟨rfl, -⟩ := hp2; exact ⟨sy, hY, wO.rf, eY.rf⟩
  clear hp2
  have hlit := hlit.go hI0.1.1.2 hl1 hl2
  have hX := wX_keep hX1 hdj hO2
  refine u_pop C0 dL_law_1071 rfl ?_
  refine u_goto 1075 C0 dL_law_1072 (by decide) ?_
  exact hend sx1 sy1 M2 hX hY1 hlit
set_option maxHeartbeats 4000000 in
set_option maxRecDepth 100000 in
theorem law_loop {G : gG} {p : Program} {e : Env} {s : State} {m : MethodId} {below : List Frame} {meth : Method} {c : Code} {b L : Nat} {xs : Nat → Int32} {fx fy : Nat → Nat → Nat} (hL : L ≤ 4608) (C0 : lw_At p s m meth c b L xs) (hK : wK G s) (hdj : dj fx fy) : ∀ (k : Nat) (i : Int) (sx sy : sG) (M : wM), 0 ≤ i → i ≤ L + 9 → (L : Int) + 9 - i < k → wX G fx sx M → wY G fy sy M → lt2 sx sy → wL G p e s m below meth c b 198 12034 18 [(0, .ref b), (1, .ref (fx 0 0)), (2, .ref (fy 0 0)), (3, .int (gI i))] [] M := by
  intro k
  induction k with
  | zero =>
    intros
    omega
  | succ k ih =>
    intro i sx sy M hi0 hi9 hk hX hY hlit
    refine u_iloadn C0 dL_law_18 rfl ?_
    refine u_aloadn C0 dL_law_19 rfl ?_
    refine u_slen C0 dL_law_20 ?_
    refine u_bipush C0 dL_law_21 (by decide) ?_
    refine u_isub C0 dL_law_23 ?_
    refine u_icmp_gt 1081 C0 dL_law_24 (by decide) (by omega) (by omega) (fun hgt => ?_) (fun hgt => ?_)
    · refine u_iconst C0 dL_law_1081 ?_
      exact u_ret C0 dL_law_1082 ⟨by omega, by omega⟩
    · have hend : ∀ sx sy M, wX G fx sx M → wY G fy sy M → lt2 sx sy → wL G p e s m below meth c b 198 12034 1075 [(0, .ref b), (1, .ref (fx 0 0)), (2, .ref (fy 0 0)), (3, .int (gI i))] [] M := by
        intro sx sy M hX hY hlit
        refine u_iinc C0 dL_law_1075 rfl (by decide) ?_
        refine u_goto 18 C0 dL_law_1078 (by decide) ?_
        exact wL.locs (lv' := [(0, .ref b), (1, .ref (fx 0 0)), (2, .ref (fy 0 0)), (3, .int (gI (i + 9)))]) ⟨rfl, rfl, rfl, rfl, trivial⟩ (ih (i + 9) sx sy M (by omega) (by omega) (by omega) hX hY hlit)
      refine u_aloadn C0 dL_law_27 rfl ?_
      refine u_iloadn C0 dL_law_28 rfl ?_
      refine u_sld C0 dL_law_29 (by omega) (by omega) (by omega) ?_
      refine u_bipush C0 dL_law_30 (by decide) ?_
      refine u_iand C0 dL_law_32 ?_
      rw [gI_of (gI (xs i.toNat).toInt &&& gI 31)]
      have hz := rng_of (gI (xs i.toNat).toInt &&& gI 31)
      generalize (gI (xs i.toNat).toInt &&& gI 31).toInt = z at hz ⊢
      rcases (show z = 0 ∨ z = 1 ∨ z = 2 ∨ z = 3 ∨ z = 4 ∨ z = 5 ∨ z = 6 ∨ z = 7 ∨ z = 8 ∨ z = 9 ∨ z = 10 ∨ z = 11 ∨ z = 12 ∨ z = 13 ∨ z = 14 ∨ z = 15 ∨ z = 16 ∨ z = 17 ∨ z = 18 ∨ z = 19 ∨ z = 20 ∨ z = 21 ∨ z = 22 ∨ (z < 0 ∨ 22 < z) by omega) with rfl | rfl | rfl | rfl | rfl | rfl | rfl | rfl | rfl | rfl | rfl | rfl | rfl | rfl | rfl | rfl | rfl | rfl | rfl | rfl | rfl | rfl | rfl | hout
      · exact u_tin 140 C0 dL_law_33 hz (by omega) (by omega) rfl (by decide) (law_case_0 hL C0 hK hdj hi0 (by omega) hX hY hlit hend)
      · exact u_tin 193 C0 dL_law_33 hz (by omega) (by omega) rfl (by decide) (law_case_1 hL C0 hK hdj hi0 (by omega) hX hY hlit hend)
      · exact u_tin 276 C0 dL_law_33 hz (by omega) (by omega) rfl (by decide) (law_case_2 hL C0 hK hdj hi0 (by omega) hX hY hlit hend)
      · exact u_tin 319 C0 dL_law_33 hz (by omega) (by omega) rfl (by decide) (law_case_3 hL C0 hK hdj hi0 (by omega) hX hY hlit hend)
      · exact u_tin 362 C0 dL_law_33 hz (by omega) (by omega) rfl (by decide) (law_case_4 hL C0 hK hdj hi0 (by omega) hX hY hlit hend)
      · exact u_tin 395 C0 dL_law_33 hz (by omega) (by omega) rfl (by decide) (law_case_5 hL C0 hK hdj hi0 (by omega) hX hY hlit hend)
      · exact u_tin 438 C0 dL_law_33 hz (by omega) (by omega) rfl (by decide) (law_case_6 hL C0 hK hdj hi0 (by omega) hX hY hlit hend)
      · exact u_tin 471 C0 dL_law_33 hz (by omega) (by omega) rfl (by decide) (law_case_7 hL C0 hK hdj hi0 (by omega) hX hY hlit hend)
      · exact u_tin 514 C0 dL_law_33 hz (by omega) (by omega) rfl (by decide) (law_case_8 hL C0 hK hdj hi0 (by omega) hX hY hlit hend)
      · exact u_tin 557 C0 dL_law_33 hz (by omega) (by omega) rfl (by decide) (law_case_9 hL C0 hK hdj hi0 (by omega) hX hY hlit hend)
      · exact u_tin 570 C0 dL_law_33 hz (by omega) (by omega) rfl (by decide) (law_case_10 hL C0 hK hdj hi0 (by omega) hX hY hlit hend)
      · exact u_tin 583 C0 dL_law_33 hz (by omega) (by omega) rfl (by decide) (law_case_11 hL C0 hK hdj hi0 (by omega) hX hY hlit hend)
      · exact u_tin 616 C0 dL_law_33 hz (by omega) (by omega) rfl (by decide) (law_case_12 hL C0 hK hdj hi0 (by omega) hX hY hlit hend)
      · exact u_tin 629 C0 dL_law_33 hz (by omega) (by omega) rfl (by decide) (law_case_13 hL C0 hK hdj hi0 (by omega) hX hY hlit hend)
      · exact u_tin 692 C0 dL_law_33 hz (by omega) (by omega) rfl (by decide) (law_case_14 hL C0 hK hdj hi0 (by omega) hX hY hlit hend)
      · exact u_tin 745 C0 dL_law_33 hz (by omega) (by omega) rfl (by decide) (law_case_15 hL C0 hK hdj hi0 (by omega) hX hY hlit hend)
      · exact u_tin 768 C0 dL_law_33 hz (by omega) (by omega) rfl (by decide) (law_case_16 hL C0 hK hdj hi0 (by omega) hX hY hlit hend)
      · exact u_tin 791 C0 dL_law_33 hz (by omega) (by omega) rfl (by decide) (law_case_17 hL C0 hK hdj hi0 (by omega) hX hY hlit hend)
      · exact u_tin 844 C0 dL_law_33 hz (by omega) (by omega) rfl (by decide) (law_case_18 hL C0 hK hdj hi0 (by omega) hX hY hlit hend)
      · exact u_tin 867 C0 dL_law_33 hz (by omega) (by omega) rfl (by decide) (law_case_19 hL C0 hK hdj hi0 (by omega) hX hY hlit hend)
      · exact u_tin 890 C0 dL_law_33 hz (by omega) (by omega) rfl (by decide) (law_case_20 hL C0 hK hdj hi0 (by omega) hX hY hlit hend)
      · exact u_tin 989 C0 dL_law_33 hz (by omega) (by omega) rfl (by decide) (law_case_21 hL C0 hK hdj hi0 (by omega) hX hY hlit hend)
      · exact u_tin 1052 C0 dL_law_33 hz (by omega) (by omega) rfl (by decide) (law_case_22 hL C0 hK hdj hi0 (by omega) hX hY hlit hend)
      · exact u_tout 1075 C0 dL_law_33 hz hout (by decide) (hend sx sy M hX hY hlit)

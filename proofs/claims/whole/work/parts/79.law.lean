set_option maxHeartbeats 4000000 in
theorem lw_c0 {E : gT} {b L : Nat} {xs : Nat → Int32} {i : Nat} {u : Mm} {g : Gh} (hL : L ≤ 3072) (hi : i + 6 ≤ L) (hO : Ok g) (hC : InvC u g) (hM : InvM u g) (kk : ∀ (u : Mm) (g : Gh), Ok g → InvC u g → InvM u g → GL E b L xs 1002 (LV E b i) [] u) : GL E b L xs 152 (LV E b i) [] u := by
  refine gl_aload_n dL_law_152 rfl rfl ?_
  refine gl_arg 1 hL hi (by decide) dL_law_153 dL_law_154 dL_law_155 (by decide) dL_law_156 dL_law_157 ?_
  refine gl_arg 2 hL hi (by decide) dL_law_158 dL_law_159 dL_law_160 (by decide) dL_law_161 dL_law_162 ?_
  refine gl_arg 3 hL hi (by decide) dL_law_163 dL_law_164 dL_law_165 (by decide) dL_law_166 dL_law_167 ?_
  refine gl_arg 4 hL hi (by decide) dL_law_168 dL_law_169 dL_law_170 (by decide) dL_law_171 dL_law_172 ?_
  refine gl_call (d3_map E u g hO hC (xs (i + 1)) (xs (i + 2)) (xs (i + 3)) (xs (i + 4))) me_X3_map ml_L_13 sh_0 rfl rfl ⟨by decide, by decide⟩ rfl (Nat.le_of_ble_eq_true rfl) dL_law_173 (gl_I (fun r1 u1 h1 => ?_))
  obtain ⟨rfl, c1, f1⟩ := h1
  refine gl_aload_n dL_law_176 rfl rfl ?_
  refine gl_arg 1 hL hi (by decide) dL_law_177 dL_law_178 dL_law_179 (by decide) dL_law_180 dL_law_181 ?_
  refine gl_arg 2 hL hi (by decide) dL_law_182 dL_law_183 dL_law_184 (by decide) dL_law_185 dL_law_186 ?_
  refine gl_arg 3 hL hi (by decide) dL_law_187 dL_law_188 dL_law_189 (by decide) dL_law_190 dL_law_191 ?_
  refine gl_arg 4 hL hi (by decide) dL_law_192 dL_law_193 dL_law_194 (by decide) dL_law_195 dL_law_196 ?_
  refine gl_call (d4_map E u1 g hO (hM.cf f1) (xs (i + 1)) (xs (i + 2)) (xs (i + 3)) (xs (i + 4))) me_X4_map ml_L_17 sh_57 rfl rfl ⟨by decide, by decide⟩ rfl (Nat.le_of_ble_eq_true rfl) dL_law_197 (gl_I (fun r2 u2 h2 => ?_))
  obtain ⟨rfl, m2, f2⟩ := h2
  refine gl_icmp_eq 1002 rfl dL_law_200 (by decide) ?_
  exact kk u2 _ (ok_map hO (xs (i + 1)) (xs (i + 2)) (xs (i + 3)) (xs (i + 4))) (c1.rf f2) m2
set_option maxHeartbeats 4000000 in
theorem lw_c1 {E : gT} {b L : Nat} {xs : Nat → Int32} {i : Nat} {u : Mm} {g : Gh} (hL : L ≤ 3072) (hi : i + 6 ≤ L) (hO : Ok g) (hC : InvC u g) (hM : InvM u g) (kk : ∀ (u : Mm) (g : Gh), Ok g → InvC u g → InvM u g → GL E b L xs 1002 (LV E b i) [] u) : GL E b L xs 205 (LV E b i) [] u := by
  refine gl_aload_n dL_law_205 rfl rfl ?_
  refine gl_arg 1 hL hi (by decide) dL_law_206 dL_law_207 dL_law_208 (by decide) dL_law_209 dL_law_210 ?_
  refine gl_arg 2 hL hi (by decide) dL_law_211 dL_law_212 dL_law_213 (by decide) dL_law_214 dL_law_215 ?_
  refine gl_call (d3_ofArea E u g hO hC (xs (i + 1)) (xs (i + 2))) me_X3_ofArea ml_L_18 sh_0 rfl rfl ⟨by decide, by decide⟩ rfl (Nat.le_of_ble_eq_true rfl) dL_law_216 (gl_I (fun r1 u1 h1 => ?_))
  obtain ⟨rfl, c1, f1⟩ := h1
  refine gl_aload_n dL_law_219 rfl rfl ?_
  refine gl_arg 1 hL hi (by decide) dL_law_220 dL_law_221 dL_law_222 (by decide) dL_law_223 dL_law_224 ?_
  refine gl_arg 2 hL hi (by decide) dL_law_225 dL_law_226 dL_law_227 (by decide) dL_law_228 dL_law_229 ?_
  refine gl_call (d4_ofArea E u1 g hO (hM.cf f1) (xs (i + 1)) (xs (i + 2))) me_X4_ofArea ml_L_22 sh_57 rfl rfl ⟨by decide, by decide⟩ rfl (Nat.le_of_ble_eq_true rfl) dL_law_230 (gl_I (fun r2 u2 h2 => ?_))
  obtain ⟨rfl, m2, f2⟩ := h2
  refine gl_icmp_eq 1002 rfl dL_law_233 (by decide) ?_
  exact kk u2 _ (ok_ofArea hO (xs (i + 1)) (xs (i + 2))) (c1.rf f2) m2
set_option maxHeartbeats 4000000 in
theorem lw_c2 {E : gT} {b L : Nat} {xs : Nat → Int32} {i : Nat} {u : Mm} {g : Gh} (hL : L ≤ 3072) (hi : i + 6 ≤ L) (hO : Ok g) (hC : InvC u g) (hM : InvM u g) (kk : ∀ (u : Mm) (g : Gh), Ok g → InvC u g → InvM u g → GL E b L xs 1002 (LV E b i) [] u) : GL E b L xs 238 (LV E b i) [] u := by
  refine gl_aload_n dL_law_238 rfl rfl ?_
  refine gl_arg 1 hL hi (by decide) dL_law_239 dL_law_240 dL_law_241 (by decide) dL_law_242 dL_law_243 ?_
  refine gl_arg 2 hL hi (by decide) dL_law_244 dL_law_245 dL_law_246 (by decide) dL_law_247 dL_law_248 ?_
  refine gl_call (d3_width E u g hO hC (xs (i + 1)) (xs (i + 2))) me_X3_width ml_L_23 sh_0 rfl rfl ⟨by decide, by decide⟩ rfl (Nat.le_of_ble_eq_true rfl) dL_law_249 (gl_I (fun r1 u1 h1 => ?_))
  obtain ⟨rfl, c1, f1⟩ := h1
  refine gl_aload_n dL_law_252 rfl rfl ?_
  refine gl_arg 1 hL hi (by decide) dL_law_253 dL_law_254 dL_law_255 (by decide) dL_law_256 dL_law_257 ?_
  refine gl_arg 2 hL hi (by decide) dL_law_258 dL_law_259 dL_law_260 (by decide) dL_law_261 dL_law_262 ?_
  refine gl_call (d4_width E u1 g hO (hM.cf f1) (xs (i + 1)) (xs (i + 2))) me_X4_width ml_L_26 sh_57 rfl rfl ⟨by decide, by decide⟩ rfl (Nat.le_of_ble_eq_true rfl) dL_law_263 (gl_I (fun r2 u2 h2 => ?_))
  obtain ⟨rfl, m2, f2⟩ := h2
  refine gl_icmp_eq 1002 rfl dL_law_266 (by decide) ?_
  exact kk u2 _ (ok_width hO (xs (i + 1)) (xs (i + 2))) (c1.rf f2) m2
set_option maxHeartbeats 4000000 in
theorem lw_c3 {E : gT} {b L : Nat} {xs : Nat → Int32} {i : Nat} {u : Mm} {g : Gh} (hL : L ≤ 3072) (hi : i + 6 ≤ L) (hO : Ok g) (hC : InvC u g) (hM : InvM u g) (kk : ∀ (u : Mm) (g : Gh), Ok g → InvC u g → InvM u g → GL E b L xs 1002 (LV E b i) [] u) : GL E b L xs 271 (LV E b i) [] u := by
  refine gl_aload_n dL_law_271 rfl rfl ?_
  refine gl_arg 1 hL hi (by decide) dL_law_272 dL_law_273 dL_law_274 (by decide) dL_law_275 dL_law_276 ?_
  refine gl_arg 2 hL hi (by decide) dL_law_277 dL_law_278 dL_law_279 (by decide) dL_law_280 dL_law_281 ?_
  refine gl_call (d3_plot E u g hO hC (xs (i + 1)) (xs (i + 2))) me_X3_plot ml_L_27 sh_0 rfl rfl ⟨by decide, by decide⟩ rfl (Nat.le_of_ble_eq_true rfl) dL_law_282 (gl_I (fun r1 u1 h1 => ?_))
  obtain ⟨rfl, c1, f1⟩ := h1
  refine gl_aload_n dL_law_285 rfl rfl ?_
  refine gl_arg 1 hL hi (by decide) dL_law_286 dL_law_287 dL_law_288 (by decide) dL_law_289 dL_law_290 ?_
  refine gl_arg 2 hL hi (by decide) dL_law_291 dL_law_292 dL_law_293 (by decide) dL_law_294 dL_law_295 ?_
  refine gl_call (d4_plot E u1 g hO (hM.cf f1) (xs (i + 1)) (xs (i + 2))) me_X4_plot ml_L_30 sh_57 rfl rfl ⟨by decide, by decide⟩ rfl (Nat.le_of_ble_eq_true rfl) dL_law_296 (gl_I (fun r2 u2 h2 => ?_))
  obtain ⟨rfl, m2, f2⟩ := h2
  refine gl_icmp_eq 1002 rfl dL_law_299 (by decide) ?_
  exact kk u2 _ (ok_plot hO (xs (i + 1)) (xs (i + 2))) (c1.rf f2) m2
set_option maxHeartbeats 4000000 in
theorem lw_c4 {E : gT} {b L : Nat} {xs : Nat → Int32} {i : Nat} {u : Mm} {g : Gh} (hL : L ≤ 3072) (hi : i + 6 ≤ L) (hO : Ok g) (hC : InvC u g) (hM : InvM u g) (kk : ∀ (u : Mm) (g : Gh), Ok g → InvC u g → InvM u g → GL E b L xs 1002 (LV E b i) [] u) : GL E b L xs 304 (LV E b i) [] u := by
  refine gl_aload_n dL_law_304 rfl rfl ?_
  refine gl_arg 1 hL hi (by decide) dL_law_305 dL_law_306 dL_law_307 (by decide) dL_law_308 dL_law_309 ?_
  refine gl_arg 2 hL hi (by decide) dL_law_310 dL_law_311 dL_law_312 (by decide) dL_law_313 dL_law_314 ?_
  refine gl_call (d3_turn E u g hO hC (xs (i + 1)) (xs (i + 2))) me_X3_turn ml_L_31 sh_0 rfl rfl ⟨by decide, by decide⟩ rfl (Nat.le_of_ble_eq_true rfl) dL_law_315 (gl_I (fun r1 u1 h1 => ?_))
  obtain ⟨rfl, c1, f1⟩ := h1
  refine gl_aload_n dL_law_318 rfl rfl ?_
  refine gl_arg 1 hL hi (by decide) dL_law_319 dL_law_320 dL_law_321 (by decide) dL_law_322 dL_law_323 ?_
  refine gl_arg 2 hL hi (by decide) dL_law_324 dL_law_325 dL_law_326 (by decide) dL_law_327 dL_law_328 ?_
  refine gl_call (d4_turn E u1 g hO (hM.cf f1) (xs (i + 1)) (xs (i + 2))) me_X4_turn ml_L_34 sh_57 rfl rfl ⟨by decide, by decide⟩ rfl (Nat.le_of_ble_eq_true rfl) dL_law_329 (gl_I (fun r2 u2 h2 => ?_))
  obtain ⟨rfl, m2, f2⟩ := h2
  refine gl_icmp_eq 1002 rfl dL_law_332 (by decide) ?_
  exact kk u2 _ (ok_turn hO (xs (i + 1)) (xs (i + 2))) (c1.rf f2) m2
set_option maxHeartbeats 4000000 in
theorem lw_c5 {E : gT} {b L : Nat} {xs : Nat → Int32} {i : Nat} {u : Mm} {g : Gh} (hL : L ≤ 3072) (hi : i + 6 ≤ L) (hO : Ok g) (hC : InvC u g) (hM : InvM u g) (kk : ∀ (u : Mm) (g : Gh), Ok g → InvC u g → InvM u g → GL E b L xs 1002 (LV E b i) [] u) : GL E b L xs 337 (LV E b i) [] u := by
  refine gl_aload_n dL_law_337 rfl rfl ?_
  refine gl_arg 1 hL hi (by decide) dL_law_338 dL_law_339 dL_law_340 (by decide) dL_law_341 dL_law_342 ?_
  refine gl_call (d3_whole E u g hO hC (xs (i + 1))) me_X3_whole ml_L_35 sh_0 rfl rfl ⟨by decide, by decide⟩ rfl (Nat.le_of_ble_eq_true rfl) dL_law_343 (gl_I (fun r1 u1 h1 => ?_))
  obtain ⟨rfl, c1, f1⟩ := h1
  refine gl_aload_n dL_law_346 rfl rfl ?_
  refine gl_arg 1 hL hi (by decide) dL_law_347 dL_law_348 dL_law_349 (by decide) dL_law_350 dL_law_351 ?_
  refine gl_call (d4_whole E u1 g hO (hM.cf f1) (xs (i + 1))) me_X4_whole ml_L_39 sh_57 rfl rfl ⟨by decide, by decide⟩ rfl (Nat.le_of_ble_eq_true rfl) dL_law_352 (gl_I (fun r2 u2 h2 => ?_))
  obtain ⟨rfl, m2, f2⟩ := h2
  refine gl_icmp_eq 1002 rfl dL_law_355 (by decide) ?_
  exact kk u2 _ (ok_whole hO (xs (i + 1))) (c1.rf f2) m2
set_option maxHeartbeats 4000000 in
theorem lw_c6 {E : gT} {b L : Nat} {xs : Nat → Int32} {i : Nat} {u : Mm} {g : Gh} (hL : L ≤ 3072) (hi : i + 6 ≤ L) (hO : Ok g) (hC : InvC u g) (hM : InvM u g) (kk : ∀ (u : Mm) (g : Gh), Ok g → InvC u g → InvM u g → GL E b L xs 1002 (LV E b i) [] u) : GL E b L xs 360 (LV E b i) [] u := by
  refine gl_aload_n dL_law_360 rfl rfl ?_
  refine gl_arg 1 hL hi (by decide) dL_law_361 dL_law_362 dL_law_363 (by decide) dL_law_364 dL_law_365 ?_
  refine gl_call (d3_squeeze E u g hO hC (xs (i + 1))) me_X3_squeeze ml_L_40 sh_0 rfl rfl ⟨by decide, by decide⟩ rfl (Nat.le_of_ble_eq_true rfl) dL_law_366 (gl_I (fun r1 u1 h1 => ?_))
  obtain ⟨rfl, c1, f1⟩ := h1
  refine gl_aload_n dL_law_369 rfl rfl ?_
  refine gl_arg 1 hL hi (by decide) dL_law_370 dL_law_371 dL_law_372 (by decide) dL_law_373 dL_law_374 ?_
  refine gl_call (d4_squeeze E u1 g hO (hM.cf f1) (xs (i + 1))) me_X4_squeeze ml_L_43 sh_57 rfl rfl ⟨by decide, by decide⟩ rfl (Nat.le_of_ble_eq_true rfl) dL_law_375 (gl_I (fun r2 u2 h2 => ?_))
  obtain ⟨rfl, m2, f2⟩ := h2
  refine gl_icmp_eq 1002 rfl dL_law_378 (by decide) ?_
  exact kk u2 _ (ok_squeeze hO (xs (i + 1))) (c1.rf f2) m2
set_option maxHeartbeats 4000000 in
theorem lw_c7 {E : gT} {b L : Nat} {xs : Nat → Int32} {i : Nat} {u : Mm} {g : Gh} (hL : L ≤ 3072) (hi : i + 6 ≤ L) (hO : Ok g) (hC : InvC u g) (hM : InvM u g) (kk : ∀ (u : Mm) (g : Gh), Ok g → InvC u g → InvM u g → GL E b L xs 1002 (LV E b i) [] u) : GL E b L xs 383 (LV E b i) [] u := by
  refine gl_aload_n dL_law_383 rfl rfl ?_
  refine gl_arg 1 hL hi (by decide) dL_law_384 dL_law_385 dL_law_386 (by decide) dL_law_387 dL_law_388 ?_
  refine gl_arg 2 hL hi (by decide) dL_law_389 dL_law_390 dL_law_391 (by decide) dL_law_392 dL_law_393 ?_
  refine gl_arg 3 hL hi (by decide) dL_law_394 dL_law_395 dL_law_396 (by decide) dL_law_397 dL_law_398 ?_
  refine gl_arg 4 hL hi (by decide) dL_law_399 dL_law_400 dL_law_401 (by decide) dL_law_402 dL_law_403 ?_
  refine gl_arg 5 hL hi (by decide) dL_law_404 dL_law_405 dL_law_406 (by decide) dL_law_407 dL_law_408 ?_
  refine gl_call (d3_day E u g hO hC (xs (i + 1)) (xs (i + 2)) (xs (i + 3)) (xs (i + 4)) (xs (i + 5))) me_X3_day ml_L_44 sh_0 rfl rfl ⟨by decide, by decide⟩ rfl (Nat.le_of_ble_eq_true rfl) dL_law_409 (gl_I (fun r1 u1 h1 => ?_))
  obtain ⟨rfl, c1, f1⟩ := h1
  refine gl_aload_n dL_law_412 rfl rfl ?_
  refine gl_arg 1 hL hi (by decide) dL_law_413 dL_law_414 dL_law_415 (by decide) dL_law_416 dL_law_417 ?_
  refine gl_arg 2 hL hi (by decide) dL_law_418 dL_law_419 dL_law_420 (by decide) dL_law_421 dL_law_422 ?_
  refine gl_arg 3 hL hi (by decide) dL_law_423 dL_law_424 dL_law_425 (by decide) dL_law_426 dL_law_427 ?_
  refine gl_arg 4 hL hi (by decide) dL_law_428 dL_law_429 dL_law_430 (by decide) dL_law_431 dL_law_432 ?_
  refine gl_arg 5 hL hi (by decide) dL_law_433 dL_law_434 dL_law_435 (by decide) dL_law_436 dL_law_437 ?_
  refine gl_call (d4_day E u1 g hO (hM.cf f1) (xs (i + 1)) (xs (i + 2)) (xs (i + 3)) (xs (i + 4)) (xs (i + 5))) me_X4_day ml_L_48 sh_57 rfl rfl ⟨by decide, by decide⟩ rfl (Nat.le_of_ble_eq_true rfl) dL_law_438 (gl_I (fun r2 u2 h2 => ?_))
  obtain ⟨rfl, m2, f2⟩ := h2
  refine gl_icmp_eq 1002 rfl dL_law_441 (by decide) ?_
  exact kk u2 _ (ok_day hO (xs (i + 1)) (xs (i + 2)) (xs (i + 3)) (xs (i + 4)) (xs (i + 5))) (c1.rf f2) m2
set_option maxHeartbeats 4000000 in
theorem lw_c8 {E : gT} {b L : Nat} {xs : Nat → Int32} {i : Nat} {u : Mm} {g : Gh} (hL : L ≤ 3072) (hi : i + 6 ≤ L) (hO : Ok g) (hC : InvC u g) (hM : InvM u g) (kk : ∀ (u : Mm) (g : Gh), Ok g → InvC u g → InvM u g → GL E b L xs 1002 (LV E b i) [] u) : GL E b L xs 446 (LV E b i) [] u := by
  refine gl_aload_n dL_law_446 rfl rfl ?_
  refine gl_arg 1 hL hi (by decide) dL_law_447 dL_law_448 dL_law_449 (by decide) dL_law_450 dL_law_451 ?_
  refine gl_call (d3_least E u g hO hC (xs (i + 1))) me_X3_least ml_L_49 sh_0 rfl rfl ⟨by decide, by decide⟩ rfl (Nat.le_of_ble_eq_true rfl) dL_law_452 (gl_I (fun r1 u1 h1 => ?_))
  obtain ⟨rfl, c1, f1⟩ := h1
  refine gl_aload_n dL_law_455 rfl rfl ?_
  refine gl_arg 1 hL hi (by decide) dL_law_456 dL_law_457 dL_law_458 (by decide) dL_law_459 dL_law_460 ?_
  refine gl_call (d4_least E u1 g hO (hM.cf f1) (xs (i + 1))) me_X4_least ml_L_52 sh_57 rfl rfl ⟨by decide, by decide⟩ rfl (Nat.le_of_ble_eq_true rfl) dL_law_461 (gl_I (fun r2 u2 h2 => ?_))
  obtain ⟨rfl, m2, f2⟩ := h2
  refine gl_icmp_eq 1002 rfl dL_law_464 (by decide) ?_
  exact kk u2 _ (ok_least hO (xs (i + 1))) (c1.rf f2) m2
set_option maxHeartbeats 4000000 in
theorem lw_c9 {E : gT} {b L : Nat} {xs : Nat → Int32} {i : Nat} {u : Mm} {g : Gh} (hL : L ≤ 3072) (hi : i + 6 ≤ L) (hO : Ok g) (hC : InvC u g) (hM : InvM u g) (kk : ∀ (u : Mm) (g : Gh), Ok g → InvC u g → InvM u g → GL E b L xs 1002 (LV E b i) [] u) : GL E b L xs 469 (LV E b i) [] u := by
  refine gl_aload_n dL_law_469 rfl rfl ?_
  refine gl_arg 1 hL hi (by decide) dL_law_470 dL_law_471 dL_law_472 (by decide) dL_law_473 dL_law_474 ?_
  refine gl_arg 2 hL hi (by decide) dL_law_475 dL_law_476 dL_law_477 (by decide) dL_law_478 dL_law_479 ?_
  refine gl_arg 3 hL hi (by decide) dL_law_480 dL_law_481 dL_law_482 (by decide) dL_law_483 dL_law_484 ?_
  refine gl_arg 4 hL hi (by decide) dL_law_485 dL_law_486 dL_law_487 (by decide) dL_law_488 dL_law_489 ?_
  refine gl_call (d3_wishes E u g hO hC (xs (i + 1)) (xs (i + 2)) (xs (i + 3)) (xs (i + 4))) me_X3_wishes ml_L_53 sh_0 rfl rfl ⟨by decide, by decide⟩ rfl (Nat.le_of_ble_eq_true rfl) dL_law_490 (gl_I (fun r1 u1 h1 => ?_))
  obtain ⟨rfl, c1, f1⟩ := h1
  refine gl_aload_n dL_law_493 rfl rfl ?_
  refine gl_arg 1 hL hi (by decide) dL_law_494 dL_law_495 dL_law_496 (by decide) dL_law_497 dL_law_498 ?_
  refine gl_arg 2 hL hi (by decide) dL_law_499 dL_law_500 dL_law_501 (by decide) dL_law_502 dL_law_503 ?_
  refine gl_arg 3 hL hi (by decide) dL_law_504 dL_law_505 dL_law_506 (by decide) dL_law_507 dL_law_508 ?_
  refine gl_arg 4 hL hi (by decide) dL_law_509 dL_law_510 dL_law_511 (by decide) dL_law_512 dL_law_513 ?_
  refine gl_call (d4_wishes E u1 g hO (hM.cf f1) (xs (i + 1)) (xs (i + 2)) (xs (i + 3)) (xs (i + 4))) me_X4_wishes ml_L_56 sh_57 rfl rfl ⟨by decide, by decide⟩ rfl (Nat.le_of_ble_eq_true rfl) dL_law_514 (gl_I (fun r2 u2 h2 => ?_))
  obtain ⟨rfl, m2, f2⟩ := h2
  refine gl_icmp_eq 1002 rfl dL_law_517 (by decide) ?_
  exact kk u2 _ (ok_wishes hO (xs (i + 1)) (xs (i + 2)) (xs (i + 3)) (xs (i + 4))) (c1.rf f2) m2
set_option maxHeartbeats 4000000 in
theorem lw_c10 {E : gT} {b L : Nat} {xs : Nat → Int32} {i : Nat} {u : Mm} {g : Gh} (hL : L ≤ 3072) (hi : i + 6 ≤ L) (hO : Ok g) (hC : InvC u g) (hM : InvM u g) (kk : ∀ (u : Mm) (g : Gh), Ok g → InvC u g → InvM u g → GL E b L xs 1002 (LV E b i) [] u) : GL E b L xs 522 (LV E b i) [] u := by
  refine gl_aload_n dL_law_522 rfl rfl ?_
  refine gl_arg 1 hL hi (by decide) dL_law_523 dL_law_524 dL_law_525 (by decide) dL_law_526 dL_law_527 ?_
  refine gl_arg 2 hL hi (by decide) dL_law_528 dL_law_529 dL_law_530 (by decide) dL_law_531 dL_law_532 ?_
  refine gl_call (d3_reading E u g hO hC (xs (i + 1)) (xs (i + 2))) me_X3_reading ml_L_57 sh_0 rfl rfl ⟨by decide, by decide⟩ rfl (Nat.le_of_ble_eq_true rfl) dL_law_533 (gl_I (fun r1 u1 h1 => ?_))
  obtain ⟨rfl, c1, f1⟩ := h1
  refine gl_aload_n dL_law_536 rfl rfl ?_
  refine gl_arg 1 hL hi (by decide) dL_law_537 dL_law_538 dL_law_539 (by decide) dL_law_540 dL_law_541 ?_
  refine gl_arg 2 hL hi (by decide) dL_law_542 dL_law_543 dL_law_544 (by decide) dL_law_545 dL_law_546 ?_
  refine gl_call (d4_reading E u1 g hO (hM.cf f1) (xs (i + 1)) (xs (i + 2))) me_X4_reading ml_L_60 sh_57 rfl rfl ⟨by decide, by decide⟩ rfl (Nat.le_of_ble_eq_true rfl) dL_law_547 (gl_I (fun r2 u2 h2 => ?_))
  obtain ⟨rfl, m2, f2⟩ := h2
  refine gl_icmp_eq 1002 rfl dL_law_550 (by decide) ?_
  exact kk u2 _ (ok_reading hO (xs (i + 1)) (xs (i + 2))) (c1.rf f2) m2
set_option maxHeartbeats 4000000 in
theorem lw_c11 {E : gT} {b L : Nat} {xs : Nat → Int32} {i : Nat} {u : Mm} {g : Gh} (hL : L ≤ 3072) (hi : i + 6 ≤ L) (hO : Ok g) (hC : InvC u g) (hM : InvM u g) (kk : ∀ (u : Mm) (g : Gh), Ok g → InvC u g → InvM u g → GL E b L xs 1002 (LV E b i) [] u) : GL E b L xs 555 (LV E b i) [] u := by
  refine gl_aload_n dL_law_555 rfl rfl ?_
  refine gl_arg 1 hL hi (by decide) dL_law_556 dL_law_557 dL_law_558 (by decide) dL_law_559 dL_law_560 ?_
  refine gl_call (d3_back E u g hO hC (xs (i + 1))) me_X3_back ml_L_61 sh_0 rfl rfl ⟨by decide, by decide⟩ rfl (Nat.le_of_ble_eq_true rfl) dL_law_561 (gl_I (fun r1 u1 h1 => ?_))
  obtain ⟨rfl, c1, f1⟩ := h1
  refine gl_aload_n dL_law_564 rfl rfl ?_
  refine gl_arg 1 hL hi (by decide) dL_law_565 dL_law_566 dL_law_567 (by decide) dL_law_568 dL_law_569 ?_
  refine gl_call (d4_back E u1 g hO (hM.cf f1) (xs (i + 1))) me_X4_back ml_L_64 sh_57 rfl rfl ⟨by decide, by decide⟩ rfl (Nat.le_of_ble_eq_true rfl) dL_law_570 (gl_I (fun r2 u2 h2 => ?_))
  obtain ⟨rfl, m2, f2⟩ := h2
  refine gl_icmp_eq 1002 rfl dL_law_573 (by decide) ?_
  exact kk u2 _ (ok_back hO (xs (i + 1))) (c1.rf f2) m2
set_option maxHeartbeats 4000000 in
theorem lw_c12 {E : gT} {b L : Nat} {xs : Nat → Int32} {i : Nat} {u : Mm} {g : Gh} (hL : L ≤ 3072) (hi : i + 6 ≤ L) (hO : Ok g) (hC : InvC u g) (hM : InvM u g) (kk : ∀ (u : Mm) (g : Gh), Ok g → InvC u g → InvM u g → GL E b L xs 1002 (LV E b i) [] u) : GL E b L xs 578 (LV E b i) [] u := by
  refine gl_aload_n dL_law_578 rfl rfl ?_
  refine gl_arg 1 hL hi (by decide) dL_law_579 dL_law_580 dL_law_581 (by decide) dL_law_582 dL_law_583 ?_
  refine gl_call (d3_kinds E u g hO hC (xs (i + 1))) me_X3_kinds ml_L_65 sh_0 rfl rfl ⟨by decide, by decide⟩ rfl (Nat.le_of_ble_eq_true rfl) dL_law_584 (gl_I (fun r1 u1 h1 => ?_))
  obtain ⟨rfl, c1, f1⟩ := h1
  refine gl_aload_n dL_law_587 rfl rfl ?_
  refine gl_arg 1 hL hi (by decide) dL_law_588 dL_law_589 dL_law_590 (by decide) dL_law_591 dL_law_592 ?_
  refine gl_call (d4_kinds E u1 g hO (hM.cf f1) (xs (i + 1))) me_X4_kinds ml_L_68 sh_57 rfl rfl ⟨by decide, by decide⟩ rfl (Nat.le_of_ble_eq_true rfl) dL_law_593 (gl_I (fun r2 u2 h2 => ?_))
  obtain ⟨rfl, m2, f2⟩ := h2
  refine gl_icmp_eq 1002 rfl dL_law_596 (by decide) ?_
  exact kk u2 _ (ok_kinds hO (xs (i + 1))) (c1.rf f2) m2
set_option maxHeartbeats 4000000 in
theorem lw_c13 {E : gT} {b L : Nat} {xs : Nat → Int32} {i : Nat} {u : Mm} {g : Gh} (hL : L ≤ 3072) (hi : i + 6 ≤ L) (hO : Ok g) (hC : InvC u g) (hM : InvM u g) (kk : ∀ (u : Mm) (g : Gh), Ok g → InvC u g → InvM u g → GL E b L xs 1002 (LV E b i) [] u) : GL E b L xs 601 (LV E b i) [] u := by
  refine gl_aload_n dL_law_601 rfl rfl ?_
  refine gl_arg 1 hL hi (by decide) dL_law_602 dL_law_603 dL_law_604 (by decide) dL_law_605 dL_law_606 ?_
  refine gl_call (d3_widths E u g hO hC (xs (i + 1))) me_X3_widths ml_L_69 sh_0 rfl rfl ⟨by decide, by decide⟩ rfl (Nat.le_of_ble_eq_true rfl) dL_law_607 (gl_I (fun r1 u1 h1 => ?_))
  obtain ⟨rfl, c1, f1⟩ := h1
  refine gl_aload_n dL_law_610 rfl rfl ?_
  refine gl_arg 1 hL hi (by decide) dL_law_611 dL_law_612 dL_law_613 (by decide) dL_law_614 dL_law_615 ?_
  refine gl_call (d4_widths E u1 g hO (hM.cf f1) (xs (i + 1))) me_X4_widths ml_L_72 sh_57 rfl rfl ⟨by decide, by decide⟩ rfl (Nat.le_of_ble_eq_true rfl) dL_law_616 (gl_I (fun r2 u2 h2 => ?_))
  obtain ⟨rfl, m2, f2⟩ := h2
  refine gl_icmp_eq 1002 rfl dL_law_619 (by decide) ?_
  exact kk u2 _ (ok_widths hO (xs (i + 1))) (c1.rf f2) m2
set_option maxHeartbeats 4000000 in
theorem lw_c14 {E : gT} {b L : Nat} {xs : Nat → Int32} {i : Nat} {u : Mm} {g : Gh} (hL : L ≤ 3072) (hi : i + 6 ≤ L) (hO : Ok g) (hC : InvC u g) (hM : InvM u g) (kk : ∀ (u : Mm) (g : Gh), Ok g → InvC u g → InvM u g → GL E b L xs 1002 (LV E b i) [] u) : GL E b L xs 624 (LV E b i) [] u := by
  refine gl_aload_n dL_law_624 rfl rfl ?_
  refine gl_arg 1 hL hi (by decide) dL_law_625 dL_law_626 dL_law_627 (by decide) dL_law_628 dL_law_629 ?_
  refine gl_arg 2 hL hi (by decide) dL_law_630 dL_law_631 dL_law_632 (by decide) dL_law_633 dL_law_634 ?_
  refine gl_call (d3_odds E u g hO hC (xs (i + 1)) (xs (i + 2))) me_X3_odds ml_L_73 sh_0 rfl rfl ⟨by decide, by decide⟩ rfl (Nat.le_of_ble_eq_true rfl) dL_law_635 (gl_L (fun r1 u1 h1 => ?_))
  obtain ⟨rfl, c1, f1⟩ := h1
  refine gl_aload_n dL_law_638 rfl rfl ?_
  refine gl_arg 1 hL hi (by decide) dL_law_639 dL_law_640 dL_law_641 (by decide) dL_law_642 dL_law_643 ?_
  refine gl_arg 2 hL hi (by decide) dL_law_644 dL_law_645 dL_law_646 (by decide) dL_law_647 dL_law_648 ?_
  refine gl_call (d4_odds E u1 g hO (hM.cf f1) (xs (i + 1)) (xs (i + 2))) me_X4_odds ml_L_77 sh_57 rfl rfl ⟨by decide, by decide⟩ rfl (Nat.le_of_ble_eq_true rfl) dL_law_649 (gl_L (fun r2 u2 h2 => ?_))
  obtain ⟨rfl, m2, f2⟩ := h2
  refine gl_lcmp dL_law_652 ?_
  refine gl_if_eq 1002 ((lg_cmp_eq _ _).mpr rfl) dL_law_653 (by decide) ?_
  exact kk u2 _ (ok_odds hO (xs (i + 1)) (xs (i + 2))) (c1.rf f2) m2
set_option maxHeartbeats 4000000 in
theorem lw_c15 {E : gT} {b L : Nat} {xs : Nat → Int32} {i : Nat} {u : Mm} {g : Gh} (hL : L ≤ 3072) (hi : i + 6 ≤ L) (hO : Ok g) (hC : InvC u g) (hM : InvM u g) (kk : ∀ (u : Mm) (g : Gh), Ok g → InvC u g → InvM u g → GL E b L xs 1002 (LV E b i) [] u) : GL E b L xs 658 (LV E b i) [] u := by
  refine gl_aload_n dL_law_658 rfl rfl ?_
  refine gl_arg 1 hL hi (by decide) dL_law_659 dL_law_660 dL_law_661 (by decide) dL_law_662 dL_law_663 ?_
  refine gl_arg 2 hL hi (by decide) dL_law_664 dL_law_665 dL_law_666 (by decide) dL_law_667 dL_law_668 ?_
  refine gl_arg 3 hL hi (by decide) dL_law_669 dL_law_670 dL_law_671 (by decide) dL_law_672 dL_law_673 ?_
  refine gl_call (d3_sheet E u g hO hC (xs (i + 1)) (xs (i + 2)) (xs (i + 3))) me_X3_sheet ml_L_78 sh_0 rfl rfl ⟨by decide, by decide⟩ rfl (Nat.le_of_ble_eq_true rfl) dL_law_674 (gl_I (fun r1 u1 h1 => ?_))
  obtain ⟨rfl, c1, f1⟩ := h1
  refine gl_aload_n dL_law_677 rfl rfl ?_
  refine gl_arg 1 hL hi (by decide) dL_law_678 dL_law_679 dL_law_680 (by decide) dL_law_681 dL_law_682 ?_
  refine gl_arg 2 hL hi (by decide) dL_law_683 dL_law_684 dL_law_685 (by decide) dL_law_686 dL_law_687 ?_
  refine gl_arg 3 hL hi (by decide) dL_law_688 dL_law_689 dL_law_690 (by decide) dL_law_691 dL_law_692 ?_
  refine gl_call (d4_sheet E u1 g hO (hM.cf f1) (xs (i + 1)) (xs (i + 2)) (xs (i + 3))) me_X4_sheet ml_L_82 sh_57 rfl rfl ⟨by decide, by decide⟩ rfl (Nat.le_of_ble_eq_true rfl) dL_law_693 (gl_I (fun r2 u2 h2 => ?_))
  obtain ⟨rfl, m2, f2⟩ := h2
  refine gl_icmp_eq 1002 rfl dL_law_696 (by decide) ?_
  exact kk u2 _ (ok_sheet hO (xs (i + 1)) (xs (i + 2)) (xs (i + 3))) (c1.rf f2) m2
set_option maxHeartbeats 4000000 in
theorem lw_c16 {E : gT} {b L : Nat} {xs : Nat → Int32} {i : Nat} {u : Mm} {g : Gh} (hL : L ≤ 3072) (hi : i + 6 ≤ L) (hO : Ok g) (hC : InvC u g) (hM : InvM u g) (kk : ∀ (u : Mm) (g : Gh), Ok g → InvC u g → InvM u g → GL E b L xs 1002 (LV E b i) [] u) : GL E b L xs 701 (LV E b i) [] u := by
  refine gl_aload_n dL_law_701 rfl rfl ?_
  refine gl_arg 1 hL hi (by decide) dL_law_702 dL_law_703 dL_law_704 (by decide) dL_law_705 dL_law_706 ?_
  refine gl_call (d3_lose E u g hO hC (xs (i + 1))) me_X3_lose ml_L_83 sh_0 rfl rfl ⟨by decide, by decide⟩ rfl (Nat.le_of_ble_eq_true rfl) dL_law_707 (gl_I (fun r1 u1 h1 => ?_))
  obtain ⟨rfl, c1, f1⟩ := h1
  refine gl_aload_n dL_law_710 rfl rfl ?_
  refine gl_arg 1 hL hi (by decide) dL_law_711 dL_law_712 dL_law_713 (by decide) dL_law_714 dL_law_715 ?_
  refine gl_call (d4_lose E u1 g hO (hM.cf f1) (xs (i + 1))) me_X4_lose ml_L_86 sh_57 rfl rfl ⟨by decide, by decide⟩ rfl (Nat.le_of_ble_eq_true rfl) dL_law_716 (gl_I (fun r2 u2 h2 => ?_))
  obtain ⟨rfl, m2, f2⟩ := h2
  refine gl_icmp_eq 1002 rfl dL_law_719 (by decide) ?_
  exact kk u2 _ (ok_lose hO (xs (i + 1))) (c1.rf f2) m2
set_option maxHeartbeats 4000000 in
theorem lw_c17 {E : gT} {b L : Nat} {xs : Nat → Int32} {i : Nat} {u : Mm} {g : Gh} (hL : L ≤ 3072) (hi : i + 6 ≤ L) (hO : Ok g) (hC : InvC u g) (hM : InvM u g) (kk : ∀ (u : Mm) (g : Gh), Ok g → InvC u g → InvM u g → GL E b L xs 1002 (LV E b i) [] u) : GL E b L xs 724 (LV E b i) [] u := by
  refine gl_aload_n dL_law_724 rfl rfl ?_
  refine gl_arg 1 hL hi (by decide) dL_law_725 dL_law_726 dL_law_727 (by decide) dL_law_728 dL_law_729 ?_
  refine gl_arg 2 hL hi (by decide) dL_law_730 dL_law_731 dL_law_732 (by decide) dL_law_733 dL_law_734 ?_
  refine gl_arg 3 hL hi (by decide) dL_law_735 dL_law_736 dL_law_737 (by decide) dL_law_738 dL_law_739 ?_
  refine gl_call (d3_put E u g hO hC (xs (i + 1)) (xs (i + 2)) (xs (i + 3))) me_X3_put ml_L_87 sh_0 rfl rfl ⟨by decide, by decide⟩ rfl (Nat.le_of_ble_eq_true rfl) dL_law_740 (gl_I (fun r1 u1 h1 => ?_))
  obtain ⟨rfl, c1, f1⟩ := h1
  refine gl_aload_n dL_law_743 rfl rfl ?_
  refine gl_arg 1 hL hi (by decide) dL_law_744 dL_law_745 dL_law_746 (by decide) dL_law_747 dL_law_748 ?_
  refine gl_arg 2 hL hi (by decide) dL_law_749 dL_law_750 dL_law_751 (by decide) dL_law_752 dL_law_753 ?_
  refine gl_arg 3 hL hi (by decide) dL_law_754 dL_law_755 dL_law_756 (by decide) dL_law_757 dL_law_758 ?_
  refine gl_call (d4_put E u1 g hO (hM.cf f1) (xs (i + 1)) (xs (i + 2)) (xs (i + 3))) me_X4_put ml_L_90 sh_57 rfl rfl ⟨by decide, by decide⟩ rfl (Nat.le_of_ble_eq_true rfl) dL_law_759 (gl_I (fun r2 u2 h2 => ?_))
  obtain ⟨rfl, m2, f2⟩ := h2
  refine gl_icmp_eq 1002 rfl dL_law_762 (by decide) ?_
  exact kk u2 _ (ok_put hO (xs (i + 1)) (xs (i + 2)) (xs (i + 3))) (c1.rf f2) m2
set_option maxHeartbeats 4000000 in
theorem lw_c18 {E : gT} {b L : Nat} {xs : Nat → Int32} {i : Nat} {u : Mm} {g : Gh} (hL : L ≤ 3072) (hi : i + 6 ≤ L) (hO : Ok g) (hC : InvC u g) (hM : InvM u g) (kk : ∀ (u : Mm) (g : Gh), Ok g → InvC u g → InvM u g → GL E b L xs 1002 (LV E b i) [] u) : GL E b L xs 767 (LV E b i) [] u := by
  refine gl_aload_n dL_law_767 rfl rfl ?_
  refine gl_arg 1 hL hi (by decide) dL_law_768 dL_law_769 dL_law_770 (by decide) dL_law_771 dL_law_772 ?_
  refine gl_arg 2 hL hi (by decide) dL_law_773 dL_law_774 dL_law_775 (by decide) dL_law_776 dL_law_777 ?_
  refine gl_arg 3 hL hi (by decide) dL_law_778 dL_law_779 dL_law_780 (by decide) dL_law_781 dL_law_782 ?_
  refine gl_call (d3_cell E u g hO hC (xs (i + 1)) (xs (i + 2)) (xs (i + 3))) me_X3_cell ml_L_91 sh_0 rfl rfl ⟨by decide, by decide⟩ rfl (Nat.le_of_ble_eq_true rfl) dL_law_783 (gl_L (fun r1 u1 h1 => ?_))
  obtain ⟨rfl, c1, f1⟩ := h1
  refine gl_aload_n dL_law_786 rfl rfl ?_
  refine gl_arg 1 hL hi (by decide) dL_law_787 dL_law_788 dL_law_789 (by decide) dL_law_790 dL_law_791 ?_
  refine gl_arg 2 hL hi (by decide) dL_law_792 dL_law_793 dL_law_794 (by decide) dL_law_795 dL_law_796 ?_
  refine gl_arg 3 hL hi (by decide) dL_law_797 dL_law_798 dL_law_799 (by decide) dL_law_800 dL_law_801 ?_
  refine gl_call (d4_cell E u1 g hO (hM.cf f1) (xs (i + 1)) (xs (i + 2)) (xs (i + 3))) me_X4_cell ml_L_95 sh_57 rfl rfl ⟨by decide, by decide⟩ rfl (Nat.le_of_ble_eq_true rfl) dL_law_802 (gl_L (fun r2 u2 h2 => ?_))
  obtain ⟨rfl, m2, f2⟩ := h2
  refine gl_lcmp dL_law_805 ?_
  refine gl_if_eq 1002 ((lg_cmp_eq _ _).mpr rfl) dL_law_806 (by decide) ?_
  exact kk u2 _ (ok_cell hO (xs (i + 1)) (xs (i + 2)) (xs (i + 3))) (c1.rf f2) m2
set_option maxHeartbeats 4000000 in
theorem lw_c19 {E : gT} {b L : Nat} {xs : Nat → Int32} {i : Nat} {u : Mm} {g : Gh} (hL : L ≤ 3072) (hi : i + 6 ≤ L) (hO : Ok g) (hC : InvC u g) (hM : InvM u g) (kk : ∀ (u : Mm) (g : Gh), Ok g → InvC u g → InvM u g → GL E b L xs 1002 (LV E b i) [] u) : GL E b L xs 811 (LV E b i) [] u := by
  refine gl_aload_n dL_law_811 rfl rfl ?_
  refine gl_arg 1 hL hi (by decide) dL_law_812 dL_law_813 dL_law_814 (by decide) dL_law_815 dL_law_816 ?_
  refine gl_arg 2 hL hi (by decide) dL_law_817 dL_law_818 dL_law_819 (by decide) dL_law_820 dL_law_821 ?_
  refine gl_arg 3 hL hi (by decide) dL_law_822 dL_law_823 dL_law_824 (by decide) dL_law_825 dL_law_826 ?_
  refine gl_arg 4 hL hi (by decide) dL_law_827 dL_law_828 dL_law_829 (by decide) dL_law_830 dL_law_831 ?_
  refine gl_arg 5 hL hi (by decide) dL_law_832 dL_law_833 dL_law_834 (by decide) dL_law_835 dL_law_836 ?_
  refine gl_call (d3_copy E u g hO hC (xs (i + 1)) (xs (i + 2)) (xs (i + 3)) (xs (i + 4)) (xs (i + 5))) me_X3_copy ml_L_96 sh_0 rfl rfl ⟨by decide, by decide⟩ rfl (Nat.le_of_ble_eq_true rfl) dL_law_837 (gl_I (fun r1 u1 h1 => ?_))
  obtain ⟨rfl, c1, f1⟩ := h1
  refine gl_aload_n dL_law_840 rfl rfl ?_
  refine gl_arg 1 hL hi (by decide) dL_law_841 dL_law_842 dL_law_843 (by decide) dL_law_844 dL_law_845 ?_
  refine gl_arg 2 hL hi (by decide) dL_law_846 dL_law_847 dL_law_848 (by decide) dL_law_849 dL_law_850 ?_
  refine gl_arg 3 hL hi (by decide) dL_law_851 dL_law_852 dL_law_853 (by decide) dL_law_854 dL_law_855 ?_
  refine gl_arg 4 hL hi (by decide) dL_law_856 dL_law_857 dL_law_858 (by decide) dL_law_859 dL_law_860 ?_
  refine gl_arg 5 hL hi (by decide) dL_law_861 dL_law_862 dL_law_863 (by decide) dL_law_864 dL_law_865 ?_
  refine gl_call (d4_copy E u1 g hO (hM.cf f1) (xs (i + 1)) (xs (i + 2)) (xs (i + 3)) (xs (i + 4)) (xs (i + 5))) me_X4_copy ml_L_99 sh_57 rfl rfl ⟨by decide, by decide⟩ rfl (Nat.le_of_ble_eq_true rfl) dL_law_866 (gl_I (fun r2 u2 h2 => ?_))
  obtain ⟨rfl, m2, f2⟩ := h2
  refine gl_icmp_eq 1002 rfl dL_law_869 (by decide) ?_
  exact kk u2 _ (ok_copy hO (xs (i + 1)) (xs (i + 2)) (xs (i + 3)) (xs (i + 4)) (xs (i + 5))) (c1.rf f2) m2
set_option maxHeartbeats 4000000 in
theorem lw_c20 {E : gT} {b L : Nat} {xs : Nat → Int32} {i : Nat} {u : Mm} {g : Gh} (hL : L ≤ 3072) (hi : i + 6 ≤ L) (hO : Ok g) (hC : InvC u g) (hM : InvM u g) (kk : ∀ (u : Mm) (g : Gh), Ok g → InvC u g → InvM u g → GL E b L xs 1002 (LV E b i) [] u) : GL E b L xs 874 (LV E b i) [] u := by
  refine gl_aload_n dL_law_874 rfl rfl ?_
  refine gl_arg 1 hL hi (by decide) dL_law_875 dL_law_876 dL_law_877 (by decide) dL_law_878 dL_law_879 ?_
  refine gl_call (d3_tell E u g hO hC (xs (i + 1))) me_X3_tell ml_L_100 sh_0 rfl rfl ⟨by decide, by decide⟩ rfl (Nat.le_of_ble_eq_true rfl) dL_law_880 (gl_I (fun r1 u1 h1 => ?_))
  obtain ⟨rfl, c1, f1⟩ := h1
  refine gl_aload_n dL_law_883 rfl rfl ?_
  refine gl_arg 1 hL hi (by decide) dL_law_884 dL_law_885 dL_law_886 (by decide) dL_law_887 dL_law_888 ?_
  refine gl_call (d4_tell E u1 g hO (hM.cf f1) (xs (i + 1))) me_X4_tell ml_L_103 sh_57 rfl rfl ⟨by decide, by decide⟩ rfl (Nat.le_of_ble_eq_true rfl) dL_law_889 (gl_I (fun r2 u2 h2 => ?_))
  obtain ⟨rfl, m2, f2⟩ := h2
  refine gl_icmp_eq 1002 rfl dL_law_892 (by decide) ?_
  exact kk u2 _ (ok_tell hO (xs (i + 1))) (c1.rf f2) m2
set_option maxHeartbeats 4000000 in
theorem lw_c21 {E : gT} {b L : Nat} {xs : Nat → Int32} {i : Nat} {u : Mm} {g : Gh} (hL : L ≤ 3072) (hi : i + 6 ≤ L) (hO : Ok g) (hC : InvC u g) (hM : InvM u g) (kk : ∀ (u : Mm) (g : Gh), Ok g → InvC u g → InvM u g → GL E b L xs 1002 (LV E b i) [] u) : GL E b L xs 897 (LV E b i) [] u := by
  refine gl_aload_n dL_law_897 rfl rfl ?_
  refine gl_arg 1 hL hi (by decide) dL_law_898 dL_law_899 dL_law_900 (by decide) dL_law_901 dL_law_902 ?_
  refine gl_call (d3_survey E u g hO hC (xs (i + 1))) me_X3_survey ml_L_104 sh_0 rfl rfl ⟨by decide, by decide⟩ rfl (Nat.le_of_ble_eq_true rfl) dL_law_903 (gl_I (fun r1 u1 h1 => ?_))
  obtain ⟨rfl, c1, f1⟩ := h1
  refine gl_aload_n dL_law_906 rfl rfl ?_
  refine gl_arg 1 hL hi (by decide) dL_law_907 dL_law_908 dL_law_909 (by decide) dL_law_910 dL_law_911 ?_
  refine gl_call (d4_survey E u1 g hO (hM.cf f1) (xs (i + 1))) me_X4_survey ml_L_107 sh_57 rfl rfl ⟨by decide, by decide⟩ rfl (Nat.le_of_ble_eq_true rfl) dL_law_912 (gl_I (fun r2 u2 h2 => ?_))
  obtain ⟨rfl, m2, f2⟩ := h2
  refine gl_icmp_eq 1002 rfl dL_law_915 (by decide) ?_
  exact kk u2 _ (ok_survey hO (xs (i + 1))) (c1.rf f2) m2
set_option maxHeartbeats 4000000 in
theorem lw_c22 {E : gT} {b L : Nat} {xs : Nat → Int32} {i : Nat} {u : Mm} {g : Gh} (hL : L ≤ 3072) (hi : i + 6 ≤ L) (hO : Ok g) (hC : InvC u g) (hM : InvM u g) (kk : ∀ (u : Mm) (g : Gh), Ok g → InvC u g → InvM u g → GL E b L xs 1002 (LV E b i) [] u) : GL E b L xs 920 (LV E b i) [] u := by
  refine gl_aload_n dL_law_920 rfl rfl ?_
  refine gl_arg 1 hL hi (by decide) dL_law_921 dL_law_922 dL_law_923 (by decide) dL_law_924 dL_law_925 ?_
  refine gl_arg 2 hL hi (by decide) dL_law_926 dL_law_927 dL_law_928 (by decide) dL_law_929 dL_law_930 ?_
  refine gl_call (d3_as E u g hO hC (xs (i + 1)) (xs (i + 2))) me_X3_as ml_L_108 sh_0 rfl rfl ⟨by decide, by decide⟩ rfl (Nat.le_of_ble_eq_true rfl) dL_law_931 (gl_I (fun r1 u1 h1 => ?_))
  obtain ⟨rfl, c1, f1⟩ := h1
  refine gl_aload_n dL_law_934 rfl rfl ?_
  refine gl_arg 1 hL hi (by decide) dL_law_935 dL_law_936 dL_law_937 (by decide) dL_law_938 dL_law_939 ?_
  refine gl_arg 2 hL hi (by decide) dL_law_940 dL_law_941 dL_law_942 (by decide) dL_law_943 dL_law_944 ?_
  refine gl_call (d4_as E u1 g hO (hM.cf f1) (xs (i + 1)) (xs (i + 2))) me_X4_as ml_L_111 sh_57 rfl rfl ⟨by decide, by decide⟩ rfl (Nat.le_of_ble_eq_true rfl) dL_law_945 (gl_I (fun r2 u2 h2 => ?_))
  obtain ⟨rfl, m2, f2⟩ := h2
  refine gl_icmp_eq 1002 rfl dL_law_948 (by decide) ?_
  exact kk u2 _ (ok_as hO (xs (i + 1)) (xs (i + 2))) (c1.rf f2) m2
set_option maxHeartbeats 4000000 in
theorem lw_c23 {E : gT} {b L : Nat} {xs : Nat → Int32} {i : Nat} {u : Mm} {g : Gh} (hL : L ≤ 3072) (hi : i + 6 ≤ L) (hO : Ok g) (hC : InvC u g) (hM : InvM u g) (kk : ∀ (u : Mm) (g : Gh), Ok g → InvC u g → InvM u g → GL E b L xs 1002 (LV E b i) [] u) : GL E b L xs 953 (LV E b i) [] u := by
  refine gl_aload_n dL_law_953 rfl rfl ?_
  refine gl_call (d3_trace E u g hO hC ) me_X3_trace ml_L_112 sh_0 rfl rfl ⟨by decide, by decide⟩ rfl (Nat.le_of_ble_eq_true rfl) dL_law_954 (gl_I (fun r1 u1 h1 => ?_))
  obtain ⟨rfl, c1, f1⟩ := h1
  refine gl_aload_n dL_law_957 rfl rfl ?_
  refine gl_call (d4_trace E u1 g hO (hM.cf f1) ) me_X4_trace ml_L_116 sh_57 rfl rfl ⟨by decide, by decide⟩ rfl (Nat.le_of_ble_eq_true rfl) dL_law_958 (gl_I (fun r2 u2 h2 => ?_))
  obtain ⟨rfl, m2, f2⟩ := h2
  refine gl_icmp_eq 1002 rfl dL_law_961 (by decide) ?_
  exact kk u2 _ hO (c1.rf f2) m2
set_option maxHeartbeats 4000000 in
theorem lw_c24 {E : gT} {b L : Nat} {xs : Nat → Int32} {i : Nat} {u : Mm} {g : Gh} (hL : L ≤ 3072) (hi : i + 6 ≤ L) (hO : Ok g) (hC : InvC u g) (hM : InvM u g) (kk : ∀ (u : Mm) (g : Gh), Ok g → InvC u g → InvM u g → GL E b L xs 1002 (LV E b i) [] u) : GL E b L xs 966 (LV E b i) [] u := by
  refine gl_aload_n dL_law_966 rfl rfl ?_
  refine gl_call (d3_fault E u g hO hC ) me_X3_fault ml_L_117 sh_0 rfl rfl ⟨by decide, by decide⟩ rfl (Nat.le_of_ble_eq_true rfl) dL_law_967 (gl_I (fun r1 u1 h1 => ?_))
  obtain ⟨rfl, c1, f1⟩ := h1
  refine gl_aload_n dL_law_970 rfl rfl ?_
  refine gl_call (d4_fault E u1 g hO (hM.cf f1) ) me_X4_fault ml_L_120 sh_57 rfl rfl ⟨by decide, by decide⟩ rfl (Nat.le_of_ble_eq_true rfl) dL_law_971 (gl_I (fun r2 u2 h2 => ?_))
  obtain ⟨rfl, m2, f2⟩ := h2
  refine gl_icmp_eq 1002 rfl dL_law_974 (by decide) ?_
  exact kk u2 _ hO (c1.rf f2) m2
set_option maxHeartbeats 4000000 in
theorem lw_c25 {E : gT} {b L : Nat} {xs : Nat → Int32} {i : Nat} {u : Mm} {g : Gh} (hL : L ≤ 3072) (hi : i + 6 ≤ L) (hO : Ok g) (hC : InvC u g) (hM : InvM u g) (kk : ∀ (u : Mm) (g : Gh), Ok g → InvC u g → InvM u g → GL E b L xs 1002 (LV E b i) [] u) : GL E b L xs 979 (LV E b i) [] u := by
  refine gl_aload_n dL_law_979 rfl rfl ?_
  refine gl_arg 1 hL hi (by decide) dL_law_980 dL_law_981 dL_law_982 (by decide) dL_law_983 dL_law_984 ?_
  refine gl_call (d3_many E u g hO hC (xs (i + 1))) me_X3_many ml_L_121 sh_0 rfl rfl ⟨by decide, by decide⟩ rfl (Nat.le_of_ble_eq_true rfl) dL_law_985 (gl_I (fun r1 u1 h1 => ?_))
  obtain ⟨rfl, c1, f1⟩ := h1
  refine gl_aload_n dL_law_988 rfl rfl ?_
  refine gl_arg 1 hL hi (by decide) dL_law_989 dL_law_990 dL_law_991 (by decide) dL_law_992 dL_law_993 ?_
  refine gl_call (d4_many E u1 g hO (hM.cf f1) (xs (i + 1))) me_X4_many ml_L_124 sh_57 rfl rfl ⟨by decide, by decide⟩ rfl (Nat.le_of_ble_eq_true rfl) dL_law_994 (gl_I (fun r2 u2 h2 => ?_))
  obtain ⟨rfl, m2, f2⟩ := h2
  refine gl_icmp_eq 1002 rfl dL_law_997 (by decide) ?_
  exact kk u2 _ (ok_many hO (xs (i + 1))) (c1.rf f2) m2
theorem nI_6 {i : Nat} : nI i + Int32.ofInt 6 = nI (i + 6) := nI_add i 6
set_option maxHeartbeats 4000000 in
theorem law_loop {E : gT} {b L : Nat} {xs : Nat → Int32} (hL : L ≤ 3072) : ∀ (m i : Nat) (u : Mm) (g : Gh), L < i + m → i ≤ L → Ok g → InvC u g → InvM u g → GL E b L xs 18 (LV E b i) [] u := by
  intro m
  induction m with
  | zero => intro i u g h1 h2; omega
  | succ m ih =>
    intro i u g hm hiL hO hC hM
    refine gl_iload_n dL_law_18 rfl rfl ?_
    refine gl_aload_n dL_law_19 rfl rfl ?_
    refine gl_len dL_law_20 ?_
    refine gl_bipush (v := 6) dL_law_21 (by decide) ?_
    refine gl_isub dL_law_23 ?_
    have e6 : (nI L - 6 : Int32).toInt = (L : Int) - 6 := pk_sub_toInt (b := 6) (by omega) (by omega)
    refine gl_icmp_gt 1008 dL_law_24 (by decide) (fun h => ?_) (fun h => ?_)
    · refine gl_iconst (v := 1) dL_law_1008 (by decide) ?_
      exact gl_end dL_law_1009
    · have hi : i + 6 ≤ L := by
        rw [Int32.lt_iff_toInt_lt, e6, nI_toInt (by omega)] at h
        omega
      have kk : ∀ (u : Mm) (g : Gh), Ok g → InvC u g → InvM u g → GL E b L xs 1002 (LV E b i) [] u := fun u g hO hC hM => by
        refine gl_iinc (v := nI (i + 6)) dL_law_1002 rfl nI_6 (by decide) rfl ?_
        refine gl_goto 18 dL_law_1005 (by decide) ?_
        exact ih (i + 6) u g (by omega) (by omega) hO hC hM
      refine gl_aload_n dL_law_27 rfl rfl ?_
      refine gl_iload_n dL_law_28 rfl rfl ?_
      refine gl_sld (by omega) hL dL_law_29 ?_
      refine gl_bipush (v := 31) dL_law_30 (by decide) ?_
      obtain ⟨j, hj, ej⟩ := and31 (xs i)
      refine gl_iand dL_law_32 ej ?_
      by_cases h26 : j < 26
      · rcases (show j = 0 ∨ j = 1 ∨ j = 2 ∨ j = 3 ∨ j = 4 ∨ j = 5 ∨ j = 6 ∨ j = 7 ∨ j = 8 ∨ j = 9 ∨ j = 10 ∨ j = 11 ∨ j = 12 ∨ j = 13 ∨ j = 14 ∨ j = 15 ∨ j = 16 ∨ j = 17 ∨ j = 18 ∨ j = 19 ∨ j = 20 ∨ j = 21 ∨ j = 22 ∨ j = 23 ∨ j = 24 ∨ j = 25 by omega) with rfl | rfl | rfl | rfl | rfl | rfl | rfl | rfl | rfl | rfl | rfl | rfl | rfl | rfl | rfl | rfl | rfl | rfl | rfl | rfl | rfl | rfl | rfl | rfl | rfl | rfl
        · exact gl_tableIn (off := 119) 152 dL_law_33 (by decide) (by decide) (by decide) (by decide) (lw_c0 hL hi hO hC hM kk)
        · exact gl_tableIn (off := 172) 205 dL_law_33 (by decide) (by decide) (by decide) (by decide) (lw_c1 hL hi hO hC hM kk)
        · exact gl_tableIn (off := 205) 238 dL_law_33 (by decide) (by decide) (by decide) (by decide) (lw_c2 hL hi hO hC hM kk)
        · exact gl_tableIn (off := 238) 271 dL_law_33 (by decide) (by decide) (by decide) (by decide) (lw_c3 hL hi hO hC hM kk)
        · exact gl_tableIn (off := 271) 304 dL_law_33 (by decide) (by decide) (by decide) (by decide) (lw_c4 hL hi hO hC hM kk)
        · exact gl_tableIn (off := 304) 337 dL_law_33 (by decide) (by decide) (by decide) (by decide) (lw_c5 hL hi hO hC hM kk)
        · exact gl_tableIn (off := 327) 360 dL_law_33 (by decide) (by decide) (by decide) (by decide) (lw_c6 hL hi hO hC hM kk)
        · exact gl_tableIn (off := 350) 383 dL_law_33 (by decide) (by decide) (by decide) (by decide) (lw_c7 hL hi hO hC hM kk)
        · exact gl_tableIn (off := 413) 446 dL_law_33 (by decide) (by decide) (by decide) (by decide) (lw_c8 hL hi hO hC hM kk)
        · exact gl_tableIn (off := 436) 469 dL_law_33 (by decide) (by decide) (by decide) (by decide) (lw_c9 hL hi hO hC hM kk)
        · exact gl_tableIn (off := 489) 522 dL_law_33 (by decide) (by decide) (by decide) (by decide) (lw_c10 hL hi hO hC hM kk)
        · exact gl_tableIn (off := 522) 555 dL_law_33 (by decide) (by decide) (by decide) (by decide) (lw_c11 hL hi hO hC hM kk)
        · exact gl_tableIn (off := 545) 578 dL_law_33 (by decide) (by decide) (by decide) (by decide) (lw_c12 hL hi hO hC hM kk)
        · exact gl_tableIn (off := 568) 601 dL_law_33 (by decide) (by decide) (by decide) (by decide) (lw_c13 hL hi hO hC hM kk)
        · exact gl_tableIn (off := 591) 624 dL_law_33 (by decide) (by decide) (by decide) (by decide) (lw_c14 hL hi hO hC hM kk)
        · exact gl_tableIn (off := 625) 658 dL_law_33 (by decide) (by decide) (by decide) (by decide) (lw_c15 hL hi hO hC hM kk)
        · exact gl_tableIn (off := 668) 701 dL_law_33 (by decide) (by decide) (by decide) (by decide) (lw_c16 hL hi hO hC hM kk)
        · exact gl_tableIn (off := 691) 724 dL_law_33 (by decide) (by decide) (by decide) (by decide) (lw_c17 hL hi hO hC hM kk)
        · exact gl_tableIn (off := 734) 767 dL_law_33 (by decide) (by decide) (by decide) (by decide) (lw_c18 hL hi hO hC hM kk)
        · exact gl_tableIn (off := 778) 811 dL_law_33 (by decide) (by decide) (by decide) (by decide) (lw_c19 hL hi hO hC hM kk)
        · exact gl_tableIn (off := 841) 874 dL_law_33 (by decide) (by decide) (by decide) (by decide) (lw_c20 hL hi hO hC hM kk)
        · exact gl_tableIn (off := 864) 897 dL_law_33 (by decide) (by decide) (by decide) (by decide) (lw_c21 hL hi hO hC hM kk)
        · exact gl_tableIn (off := 887) 920 dL_law_33 (by decide) (by decide) (by decide) (by decide) (lw_c22 hL hi hO hC hM kk)
        · exact gl_tableIn (off := 920) 953 dL_law_33 (by decide) (by decide) (by decide) (by decide) (lw_c23 hL hi hO hC hM kk)
        · exact gl_tableIn (off := 933) 966 dL_law_33 (by decide) (by decide) (by decide) (by decide) (lw_c24 hL hi hO hC hM kk)
        · exact gl_tableIn (off := 946) 979 dL_law_33 (by decide) (by decide) (by decide) (by decide) (lw_c25 hL hi hO hC hM kk)
      · refine gl_tableOut 1002 dL_law_33 (Or.inr (by rw [nI_toInt (by omega)]; omega)) (by decide) ?_
        exact kk u g hO hC hM

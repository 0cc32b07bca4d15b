/-! The law: its cases. Laid by wip/whole/mk99c.py. -/
abbrev ll_ls (i : Nat) : List (Option Value) := [some (.ref 5000), some (.ref 0), some (.ref 165), some (.int (nI i))]
section LLC
variable {p : Program} {l : Launch} {e : Env} {s : State} {m : MethodId} {below : List Frame} {meth : Method} {c : Code} {b L : Nat} {xs : Nat → Int32} {D : va_G} {tC : Nat → ClassId} {ad : Nat → Nat} {h : mm_H} {N : Nat}
theorem lc_feed (C : ll_C p s m meth c b L xs D tC ad) (hL : L ≤ 3584) (hi : 7 * N + 7 ≤ L) (hN : N ≤ 512) (I : IV N h) (kk : ∀ g, IV (N + 1) g → ll_R p l e s m below meth c b D tC ad 1323 (ll_ls (7 * N)) [] g) : ll_R p l e s m below meth c b D tC ad 164 (ll_ls (7 * N)) [] h := by
  obtain ⟨x, g1, g2, m1, m2, I2⟩ := st_feed 0 N h I hN (xs (7 * N + 1)) (xs (7 * N + 2)) (xs (7 * N + 3)) (xs (7 * N + 4)) (xs (7 * N + 5))
  refine ll_aload_n C dL_law_164 rfl rfl ?_
  refine ll_arg (j := 1) C (by omega) hL rfl rfl dL_law_165 rfl rfl dL_law_166 rfl rfl (by decide) dL_law_167 rfl dL_law_168 rfl dL_law_169 rfl ?_
  refine ll_arg (j := 2) C (by omega) hL rfl rfl dL_law_170 rfl rfl dL_law_171 rfl rfl (by decide) dL_law_172 rfl dL_law_173 rfl dL_law_174 rfl ?_
  refine ll_arg (j := 3) C (by omega) hL rfl rfl dL_law_175 rfl rfl dL_law_176 rfl rfl (by decide) dL_law_177 rfl dL_law_178 rfl dL_law_179 rfl ?_
  refine ll_arg (j := 4) C (by omega) hL rfl rfl dL_law_180 rfl rfl dL_law_181 rfl rfl (by decide) dL_law_182 rfl dL_law_183 rfl dL_law_184 rfl ?_
  refine ll_arg (j := 5) C (by omega) hL rfl rfl dL_law_185 rfl rfl dL_law_186 rfl rfl (by decide) dL_law_187 rfl dL_law_188 rfl dL_law_189 rfl ?_
  refine ll_call (Y1 := YX10_feed) (as := [.int (xs (7 * N + 1)), .int (xs (7 * N + 2)), .int (xs (7 * N + 3)), .int (xs (7 * N + 4)), .int (xs (7 * N + 5))]) C dL_law_190 lL_13 vX10_feed rfl rfl rfl (Nat.le_of_ble_eq_true rfl) m1 (by decide) ?_
  refine ll_aload_n C dL_law_193 rfl rfl ?_
  refine ll_arg (j := 1) C (by omega) hL rfl rfl dL_law_194 rfl rfl dL_law_195 rfl rfl (by decide) dL_law_196 rfl dL_law_197 rfl dL_law_198 rfl ?_
  refine ll_arg (j := 2) C (by omega) hL rfl rfl dL_law_199 rfl rfl dL_law_200 rfl rfl (by decide) dL_law_201 rfl dL_law_202 rfl dL_law_203 rfl ?_
  refine ll_arg (j := 3) C (by omega) hL rfl rfl dL_law_204 rfl rfl dL_law_205 rfl rfl (by decide) dL_law_206 rfl dL_law_207 rfl dL_law_208 rfl ?_
  refine ll_arg (j := 4) C (by omega) hL rfl rfl dL_law_209 rfl rfl dL_law_210 rfl rfl (by decide) dL_law_211 rfl dL_law_212 rfl dL_law_213 rfl ?_
  refine ll_arg (j := 5) C (by omega) hL rfl rfl dL_law_214 rfl rfl dL_law_215 rfl rfl (by decide) dL_law_216 rfl dL_law_217 rfl dL_law_218 rfl ?_
  refine ll_call (Y1 := YX11_feed) (as := [.int (xs (7 * N + 1)), .int (xs (7 * N + 2)), .int (xs (7 * N + 3)), .int (xs (7 * N + 4)), .int (xs (7 * N + 5))]) C dL_law_219 lL_17 vX11_feed rfl rfl rfl (Nat.le_of_ble_eq_true rfl) m2 (by decide) ?_
  exact ll_same 1323 C dL_law_222 (by decide) (kk g2 I2)
theorem lc_end (C : ll_C p s m meth c b L xs D tC ad) (hL : L ≤ 3584) (hi : 7 * N + 7 ≤ L) (hN : N ≤ 512) (I : IV N h) (kk : ∀ g, IV (N + 1) g → ll_R p l e s m below meth c b D tC ad 1323 (ll_ls (7 * N)) [] g) : ll_R p l e s m below meth c b D tC ad 227 (ll_ls (7 * N)) [] h := by
  obtain ⟨x, g1, g2, m1, m2, I2⟩ := st_end 0 N h I hN (xs (7 * N + 1))
  refine ll_aload_n C dL_law_227 rfl rfl ?_
  refine ll_arg (j := 1) C (by omega) hL rfl rfl dL_law_228 rfl rfl dL_law_229 rfl rfl (by decide) dL_law_230 rfl dL_law_231 rfl dL_law_232 rfl ?_
  refine ll_call (Y1 := YX10_end) (as := [.int (xs (7 * N + 1))]) C dL_law_233 lL_18 vX10_end rfl rfl rfl (Nat.le_of_ble_eq_true rfl) m1 (by decide) ?_
  refine ll_aload_n C dL_law_236 rfl rfl ?_
  refine ll_arg (j := 1) C (by omega) hL rfl rfl dL_law_237 rfl rfl dL_law_238 rfl rfl (by decide) dL_law_239 rfl dL_law_240 rfl dL_law_241 rfl ?_
  refine ll_call (Y1 := YX11_end) (as := [.int (xs (7 * N + 1))]) C dL_law_242 lL_22 vX11_end rfl rfl rfl (Nat.le_of_ble_eq_true rfl) m2 (by decide) ?_
  exact ll_same 1323 C dL_law_245 (by decide) (kk g2 I2)
theorem lc_mint (C : ll_C p s m meth c b L xs D tC ad) (hL : L ≤ 3584) (hi : 7 * N + 7 ≤ L) (hN : N ≤ 512) (I : IV N h) (kk : ∀ g, IV (N + 1) g → ll_R p l e s m below meth c b D tC ad 1323 (ll_ls (7 * N)) [] g) : ll_R p l e s m below meth c b D tC ad 250 (ll_ls (7 * N)) [] h := by
  obtain ⟨x, g1, g2, m1, m2, I2⟩ := st_mint 0 N h I hN
  refine ll_aload_n C dL_law_250 rfl rfl ?_
  refine ll_call (Y1 := YX10_mint) (as := []) C dL_law_251 lL_23 vX10_mint rfl rfl rfl (Nat.le_of_ble_eq_true rfl) m1 (by decide) ?_
  refine ll_aload_n C dL_law_254 rfl rfl ?_
  refine ll_call (Y1 := YX11_mint) (as := []) C dL_law_255 lL_27 vX11_mint rfl rfl rfl (Nat.le_of_ble_eq_true rfl) m2 (by decide) ?_
  exact ll_same 1323 C dL_law_258 (by decide) (kk g2 I2)
theorem lc_law (C : ll_C p s m meth c b L xs D tC ad) (hL : L ≤ 3584) (hi : 7 * N + 7 ≤ L) (hN : N ≤ 512) (I : IV N h) (kk : ∀ g, IV (N + 1) g → ll_R p l e s m below meth c b D tC ad 1323 (ll_ls (7 * N)) [] g) : ll_R p l e s m below meth c b D tC ad 263 (ll_ls (7 * N)) [] h := by
  obtain ⟨x, g1, g2, m1, m2, I2⟩ := st_law 0 N h I hN
  refine ll_aload_n C dL_law_263 rfl rfl ?_
  refine ll_call (Y1 := YX10_law) (as := []) C dL_law_264 lL_28 vX10_law rfl rfl rfl (Nat.le_of_ble_eq_true rfl) m1 (by decide) ?_
  refine ll_aload_n C dL_law_267 rfl rfl ?_
  refine ll_call (Y1 := YX11_law) (as := []) C dL_law_268 lL_31 vX11_law rfl rfl rfl (Nat.le_of_ble_eq_true rfl) m2 (by decide) ?_
  exact ll_same 1323 C dL_law_271 (by decide) (kk g2 I2)
theorem lc_coin (C : ll_C p s m meth c b L xs D tC ad) (hL : L ≤ 3584) (hi : 7 * N + 7 ≤ L) (hN : N ≤ 512) (I : IV N h) (kk : ∀ g, IV (N + 1) g → ll_R p l e s m below meth c b D tC ad 1323 (ll_ls (7 * N)) [] g) : ll_R p l e s m below meth c b D tC ad 276 (ll_ls (7 * N)) [] h := by
  obtain ⟨x, g1, g2, m1, m2, I2⟩ := st_coin 0 N h I hN (xs (7 * N + 1)) (xs (7 * N + 2))
  refine ll_aload_n C dL_law_276 rfl rfl ?_
  refine ll_arg (j := 1) C (by omega) hL rfl rfl dL_law_277 rfl rfl dL_law_278 rfl rfl (by decide) dL_law_279 rfl dL_law_280 rfl dL_law_281 rfl ?_
  refine ll_arg (j := 2) C (by omega) hL rfl rfl dL_law_282 rfl rfl dL_law_283 rfl rfl (by decide) dL_law_284 rfl dL_law_285 rfl dL_law_286 rfl ?_
  refine ll_call (Y1 := YX10_coin) (as := [.int (xs (7 * N + 1)), .int (xs (7 * N + 2))]) C dL_law_287 lL_32 vX10_coin rfl rfl rfl (Nat.le_of_ble_eq_true rfl) m1 (by decide) ?_
  refine ll_aload_n C dL_law_290 rfl rfl ?_
  refine ll_arg (j := 1) C (by omega) hL rfl rfl dL_law_291 rfl rfl dL_law_292 rfl rfl (by decide) dL_law_293 rfl dL_law_294 rfl dL_law_295 rfl ?_
  refine ll_arg (j := 2) C (by omega) hL rfl rfl dL_law_296 rfl rfl dL_law_297 rfl rfl (by decide) dL_law_298 rfl dL_law_299 rfl dL_law_300 rfl ?_
  refine ll_call (Y1 := YX11_coin) (as := [.int (xs (7 * N + 1)), .int (xs (7 * N + 2))]) C dL_law_301 lL_36 vX11_coin rfl rfl rfl (Nat.le_of_ble_eq_true rfl) m2 (by decide) ?_
  exact ll_same 1323 C dL_law_304 (by decide) (kk g2 I2)
theorem lc_counter (C : ll_C p s m meth c b L xs D tC ad) (hL : L ≤ 3584) (hi : 7 * N + 7 ≤ L) (hN : N ≤ 512) (I : IV N h) (kk : ∀ g, IV (N + 1) g → ll_R p l e s m below meth c b D tC ad 1323 (ll_ls (7 * N)) [] g) : ll_R p l e s m below meth c b D tC ad 309 (ll_ls (7 * N)) [] h := by
  obtain ⟨x, g1, g2, m1, m2, I2⟩ := st_counter 0 N h I hN (xs (7 * N + 1)) (xs (7 * N + 2))
  refine ll_aload_n C dL_law_309 rfl rfl ?_
  refine ll_arg (j := 1) C (by omega) hL rfl rfl dL_law_310 rfl rfl dL_law_311 rfl rfl (by decide) dL_law_312 rfl dL_law_313 rfl dL_law_314 rfl ?_
  refine ll_arg (j := 2) C (by omega) hL rfl rfl dL_law_315 rfl rfl dL_law_316 rfl rfl (by decide) dL_law_317 rfl dL_law_318 rfl dL_law_319 rfl ?_
  refine ll_call (Y1 := YX10_counter) (as := [.int (xs (7 * N + 1)), .int (xs (7 * N + 2))]) C dL_law_320 lL_37 vX10_counter rfl rfl rfl (Nat.le_of_ble_eq_true rfl) m1 (by decide) ?_
  refine ll_aload_n C dL_law_323 rfl rfl ?_
  refine ll_arg (j := 1) C (by omega) hL rfl rfl dL_law_324 rfl rfl dL_law_325 rfl rfl (by decide) dL_law_326 rfl dL_law_327 rfl dL_law_328 rfl ?_
  refine ll_arg (j := 2) C (by omega) hL rfl rfl dL_law_329 rfl rfl dL_law_330 rfl rfl (by decide) dL_law_331 rfl dL_law_332 rfl dL_law_333 rfl ?_
  refine ll_call (Y1 := YX11_counter) (as := [.int (xs (7 * N + 1)), .int (xs (7 * N + 2))]) C dL_law_334 lL_40 vX11_counter rfl rfl rfl (Nat.le_of_ble_eq_true rfl) m2 (by decide) ?_
  exact ll_same 1323 C dL_law_337 (by decide) (kk g2 I2)
theorem lc_give (C : ll_C p s m meth c b L xs D tC ad) (hL : L ≤ 3584) (hi : 7 * N + 7 ≤ L) (hN : N ≤ 512) (I : IV N h) (kk : ∀ g, IV (N + 1) g → ll_R p l e s m below meth c b D tC ad 1323 (ll_ls (7 * N)) [] g) : ll_R p l e s m below meth c b D tC ad 342 (ll_ls (7 * N)) [] h := by
  obtain ⟨x, g1, g2, m1, m2, I2⟩ := st_give 0 N h I hN (xs (7 * N + 1)) (xs (7 * N + 2))
  refine ll_aload_n C dL_law_342 rfl rfl ?_
  refine ll_arg (j := 1) C (by omega) hL rfl rfl dL_law_343 rfl rfl dL_law_344 rfl rfl (by decide) dL_law_345 rfl dL_law_346 rfl dL_law_347 rfl ?_
  refine ll_arg (j := 2) C (by omega) hL rfl rfl dL_law_348 rfl rfl dL_law_349 rfl rfl (by decide) dL_law_350 rfl dL_law_351 rfl dL_law_352 rfl ?_
  refine ll_call (Y1 := YX10_give) (as := [.int (xs (7 * N + 1)), .int (xs (7 * N + 2))]) C dL_law_353 lL_41 vX10_give rfl rfl rfl (Nat.le_of_ble_eq_true rfl) m1 (by decide) ?_
  refine ll_aload_n C dL_law_356 rfl rfl ?_
  refine ll_arg (j := 1) C (by omega) hL rfl rfl dL_law_357 rfl rfl dL_law_358 rfl rfl (by decide) dL_law_359 rfl dL_law_360 rfl dL_law_361 rfl ?_
  refine ll_arg (j := 2) C (by omega) hL rfl rfl dL_law_362 rfl rfl dL_law_363 rfl rfl (by decide) dL_law_364 rfl dL_law_365 rfl dL_law_366 rfl ?_
  refine ll_call (Y1 := YX11_give) (as := [.int (xs (7 * N + 1)), .int (xs (7 * N + 2))]) C dL_law_367 lL_44 vX11_give rfl rfl rfl (Nat.le_of_ble_eq_true rfl) m2 (by decide) ?_
  exact ll_same 1323 C dL_law_370 (by decide) (kk g2 I2)
theorem lc_retune (C : ll_C p s m meth c b L xs D tC ad) (hL : L ≤ 3584) (hi : 7 * N + 7 ≤ L) (hN : N ≤ 512) (I : IV N h) (kk : ∀ g, IV (N + 1) g → ll_R p l e s m below meth c b D tC ad 1323 (ll_ls (7 * N)) [] g) : ll_R p l e s m below meth c b D tC ad 375 (ll_ls (7 * N)) [] h := by
  obtain ⟨x, g1, g2, m1, m2, I2⟩ := st_retune 0 N h I hN (xs (7 * N + 1)) (xs (7 * N + 2))
  refine ll_aload_n C dL_law_375 rfl rfl ?_
  refine ll_arg (j := 1) C (by omega) hL rfl rfl dL_law_376 rfl rfl dL_law_377 rfl rfl (by decide) dL_law_378 rfl dL_law_379 rfl dL_law_380 rfl ?_
  refine ll_arg (j := 2) C (by omega) hL rfl rfl dL_law_381 rfl rfl dL_law_382 rfl rfl (by decide) dL_law_383 rfl dL_law_384 rfl dL_law_385 rfl ?_
  refine ll_call (Y1 := YX10_retune) (as := [.int (xs (7 * N + 1)), .int (xs (7 * N + 2))]) C dL_law_386 lL_45 vX10_retune rfl rfl rfl (Nat.le_of_ble_eq_true rfl) m1 (by decide) ?_
  refine ll_aload_n C dL_law_389 rfl rfl ?_
  refine ll_arg (j := 1) C (by omega) hL rfl rfl dL_law_390 rfl rfl dL_law_391 rfl rfl (by decide) dL_law_392 rfl dL_law_393 rfl dL_law_394 rfl ?_
  refine ll_arg (j := 2) C (by omega) hL rfl rfl dL_law_395 rfl rfl dL_law_396 rfl rfl (by decide) dL_law_397 rfl dL_law_398 rfl dL_law_399 rfl ?_
  refine ll_call (Y1 := YX11_retune) (as := [.int (xs (7 * N + 1)), .int (xs (7 * N + 2))]) C dL_law_400 lL_48 vX11_retune rfl rfl rfl (Nat.le_of_ble_eq_true rfl) m2 (by decide) ?_
  exact ll_same 1323 C dL_law_403 (by decide) (kk g2 I2)
theorem lc_fall (C : ll_C p s m meth c b L xs D tC ad) (hL : L ≤ 3584) (hi : 7 * N + 7 ≤ L) (hN : N ≤ 512) (I : IV N h) (kk : ∀ g, IV (N + 1) g → ll_R p l e s m below meth c b D tC ad 1323 (ll_ls (7 * N)) [] g) : ll_R p l e s m below meth c b D tC ad 408 (ll_ls (7 * N)) [] h := by
  obtain ⟨x, g1, g2, m1, m2, I2⟩ := st_fall 0 N h I hN (xs (7 * N + 1))
  refine ll_aload_n C dL_law_408 rfl rfl ?_
  refine ll_arg (j := 1) C (by omega) hL rfl rfl dL_law_409 rfl rfl dL_law_410 rfl rfl (by decide) dL_law_411 rfl dL_law_412 rfl dL_law_413 rfl ?_
  refine ll_call (Y1 := YX10_fall) (as := [.int (xs (7 * N + 1))]) C dL_law_414 lL_49 vX10_fall rfl rfl rfl (Nat.le_of_ble_eq_true rfl) m1 (by decide) ?_
  refine ll_aload_n C dL_law_417 rfl rfl ?_
  refine ll_arg (j := 1) C (by omega) hL rfl rfl dL_law_418 rfl rfl dL_law_419 rfl rfl (by decide) dL_law_420 rfl dL_law_421 rfl dL_law_422 rfl ?_
  refine ll_call (Y1 := YX11_fall) (as := [.int (xs (7 * N + 1))]) C dL_law_423 lL_52 vX11_fall rfl rfl rfl (Nat.le_of_ble_eq_true rfl) m2 (by decide) ?_
  exact ll_same 1323 C dL_law_426 (by decide) (kk g2 I2)
theorem lc_sounds (C : ll_C p s m meth c b L xs D tC ad) (hL : L ≤ 3584) (hi : 7 * N + 7 ≤ L) (hN : N ≤ 512) (I : IV N h) (kk : ∀ g, IV (N + 1) g → ll_R p l e s m below meth c b D tC ad 1323 (ll_ls (7 * N)) [] g) : ll_R p l e s m below meth c b D tC ad 431 (ll_ls (7 * N)) [] h := by
  obtain ⟨x, g1, g2, m1, m2, I2⟩ := st_sounds 0 N h I hN (xs (7 * N + 1)) (xs (7 * N + 2)) (xs (7 * N + 3)) (xs (7 * N + 4)) (xs (7 * N + 5))
  refine ll_aload_n C dL_law_431 rfl rfl ?_
  refine ll_arg (j := 1) C (by omega) hL rfl rfl dL_law_432 rfl rfl dL_law_433 rfl rfl (by decide) dL_law_434 rfl dL_law_435 rfl dL_law_436 rfl ?_
  refine ll_arg (j := 2) C (by omega) hL rfl rfl dL_law_437 rfl rfl dL_law_438 rfl rfl (by decide) dL_law_439 rfl dL_law_440 rfl dL_law_441 rfl ?_
  refine ll_arg (j := 3) C (by omega) hL rfl rfl dL_law_442 rfl rfl dL_law_443 rfl rfl (by decide) dL_law_444 rfl dL_law_445 rfl dL_law_446 rfl ?_
  refine ll_arg (j := 4) C (by omega) hL rfl rfl dL_law_447 rfl rfl dL_law_448 rfl rfl (by decide) dL_law_449 rfl dL_law_450 rfl dL_law_451 rfl ?_
  refine ll_arg (j := 5) C (by omega) hL rfl rfl dL_law_452 rfl rfl dL_law_453 rfl rfl (by decide) dL_law_454 rfl dL_law_455 rfl dL_law_456 rfl ?_
  refine ll_call (Y1 := YX10_sounds) (as := [.int (xs (7 * N + 1)), .int (xs (7 * N + 2)), .int (xs (7 * N + 3)), .int (xs (7 * N + 4)), .int (xs (7 * N + 5))]) C dL_law_457 lL_53 vX10_sounds rfl rfl rfl (Nat.le_of_ble_eq_true rfl) m1 (by decide) ?_
  refine ll_aload_n C dL_law_460 rfl rfl ?_
  refine ll_arg (j := 1) C (by omega) hL rfl rfl dL_law_461 rfl rfl dL_law_462 rfl rfl (by decide) dL_law_463 rfl dL_law_464 rfl dL_law_465 rfl ?_
  refine ll_arg (j := 2) C (by omega) hL rfl rfl dL_law_466 rfl rfl dL_law_467 rfl rfl (by decide) dL_law_468 rfl dL_law_469 rfl dL_law_470 rfl ?_
  refine ll_arg (j := 3) C (by omega) hL rfl rfl dL_law_471 rfl rfl dL_law_472 rfl rfl (by decide) dL_law_473 rfl dL_law_474 rfl dL_law_475 rfl ?_
  refine ll_arg (j := 4) C (by omega) hL rfl rfl dL_law_476 rfl rfl dL_law_477 rfl rfl (by decide) dL_law_478 rfl dL_law_479 rfl dL_law_480 rfl ?_
  refine ll_arg (j := 5) C (by omega) hL rfl rfl dL_law_481 rfl rfl dL_law_482 rfl rfl (by decide) dL_law_483 rfl dL_law_484 rfl dL_law_485 rfl ?_
  refine ll_call (Y1 := YX11_sounds) (as := [.int (xs (7 * N + 1)), .int (xs (7 * N + 2)), .int (xs (7 * N + 3)), .int (xs (7 * N + 4)), .int (xs (7 * N + 5))]) C dL_law_486 lL_56 vX11_sounds rfl rfl rfl (Nat.le_of_ble_eq_true rfl) m2 (by decide) ?_
  exact ll_same 1323 C dL_law_489 (by decide) (kk g2 I2)
theorem lc_tone (C : ll_C p s m meth c b L xs D tC ad) (hL : L ≤ 3584) (hi : 7 * N + 7 ≤ L) (hN : N ≤ 512) (I : IV N h) (kk : ∀ g, IV (N + 1) g → ll_R p l e s m below meth c b D tC ad 1323 (ll_ls (7 * N)) [] g) : ll_R p l e s m below meth c b D tC ad 494 (ll_ls (7 * N)) [] h := by
  obtain ⟨x, g1, g2, m1, m2, I2⟩ := st_tone 0 N h I hN (xs (7 * N + 1)) (xs (7 * N + 2)) (xs (7 * N + 3)) (xs (7 * N + 4)) (xs (7 * N + 5))
  refine ll_aload_n C dL_law_494 rfl rfl ?_
  refine ll_arg (j := 1) C (by omega) hL rfl rfl dL_law_495 rfl rfl dL_law_496 rfl rfl (by decide) dL_law_497 rfl dL_law_498 rfl dL_law_499 rfl ?_
  refine ll_arg (j := 2) C (by omega) hL rfl rfl dL_law_500 rfl rfl dL_law_501 rfl rfl (by decide) dL_law_502 rfl dL_law_503 rfl dL_law_504 rfl ?_
  refine ll_arg (j := 3) C (by omega) hL rfl rfl dL_law_505 rfl rfl dL_law_506 rfl rfl (by decide) dL_law_507 rfl dL_law_508 rfl dL_law_509 rfl ?_
  refine ll_arg (j := 4) C (by omega) hL rfl rfl dL_law_510 rfl rfl dL_law_511 rfl rfl (by decide) dL_law_512 rfl dL_law_513 rfl dL_law_514 rfl ?_
  refine ll_arg (j := 5) C (by omega) hL rfl rfl dL_law_515 rfl rfl dL_law_516 rfl rfl (by decide) dL_law_517 rfl dL_law_518 rfl dL_law_519 rfl ?_
  refine ll_call (Y1 := YX10_tone) (as := [.int (xs (7 * N + 1)), .int (xs (7 * N + 2)), .int (xs (7 * N + 3)), .int (xs (7 * N + 4)), .int (xs (7 * N + 5))]) C dL_law_520 lL_57 vX10_tone rfl rfl rfl (Nat.le_of_ble_eq_true rfl) m1 (by decide) ?_
  refine ll_aload_n C dL_law_523 rfl rfl ?_
  refine ll_arg (j := 1) C (by omega) hL rfl rfl dL_law_524 rfl rfl dL_law_525 rfl rfl (by decide) dL_law_526 rfl dL_law_527 rfl dL_law_528 rfl ?_
  refine ll_arg (j := 2) C (by omega) hL rfl rfl dL_law_529 rfl rfl dL_law_530 rfl rfl (by decide) dL_law_531 rfl dL_law_532 rfl dL_law_533 rfl ?_
  refine ll_arg (j := 3) C (by omega) hL rfl rfl dL_law_534 rfl rfl dL_law_535 rfl rfl (by decide) dL_law_536 rfl dL_law_537 rfl dL_law_538 rfl ?_
  refine ll_arg (j := 4) C (by omega) hL rfl rfl dL_law_539 rfl rfl dL_law_540 rfl rfl (by decide) dL_law_541 rfl dL_law_542 rfl dL_law_543 rfl ?_
  refine ll_arg (j := 5) C (by omega) hL rfl rfl dL_law_544 rfl rfl dL_law_545 rfl rfl (by decide) dL_law_546 rfl dL_law_547 rfl dL_law_548 rfl ?_
  refine ll_call (Y1 := YX11_tone) (as := [.int (xs (7 * N + 1)), .int (xs (7 * N + 2)), .int (xs (7 * N + 3)), .int (xs (7 * N + 4)), .int (xs (7 * N + 5))]) C dL_law_549 lL_60 vX11_tone rfl rfl rfl (Nat.le_of_ble_eq_true rfl) m2 (by decide) ?_
  exact ll_same 1323 C dL_law_552 (by decide) (kk g2 I2)
theorem lc_tones (C : ll_C p s m meth c b L xs D tC ad) (hL : L ≤ 3584) (hi : 7 * N + 7 ≤ L) (hN : N ≤ 512) (I : IV N h) (kk : ∀ g, IV (N + 1) g → ll_R p l e s m below meth c b D tC ad 1323 (ll_ls (7 * N)) [] g) : ll_R p l e s m below meth c b D tC ad 557 (ll_ls (7 * N)) [] h := by
  obtain ⟨x, g1, g2, m1, m2, I2⟩ := st_tones 0 N h I hN (xs (7 * N + 1)) (xs (7 * N + 2)) (xs (7 * N + 3))
  refine ll_aload_n C dL_law_557 rfl rfl ?_
  refine ll_arg (j := 1) C (by omega) hL rfl rfl dL_law_558 rfl rfl dL_law_559 rfl rfl (by decide) dL_law_560 rfl dL_law_561 rfl dL_law_562 rfl ?_
  refine ll_arg (j := 2) C (by omega) hL rfl rfl dL_law_563 rfl rfl dL_law_564 rfl rfl (by decide) dL_law_565 rfl dL_law_566 rfl dL_law_567 rfl ?_
  refine ll_arg (j := 3) C (by omega) hL rfl rfl dL_law_568 rfl rfl dL_law_569 rfl rfl (by decide) dL_law_570 rfl dL_law_571 rfl dL_law_572 rfl ?_
  refine ll_call (Y1 := YX10_tones) (as := [.int (xs (7 * N + 1)), .int (xs (7 * N + 2)), .int (xs (7 * N + 3))]) C dL_law_573 lL_61 vX10_tones rfl rfl rfl (Nat.le_of_ble_eq_true rfl) m1 (by decide) ?_
  refine ll_aload_n C dL_law_576 rfl rfl ?_
  refine ll_arg (j := 1) C (by omega) hL rfl rfl dL_law_577 rfl rfl dL_law_578 rfl rfl (by decide) dL_law_579 rfl dL_law_580 rfl dL_law_581 rfl ?_
  refine ll_arg (j := 2) C (by omega) hL rfl rfl dL_law_582 rfl rfl dL_law_583 rfl rfl (by decide) dL_law_584 rfl dL_law_585 rfl dL_law_586 rfl ?_
  refine ll_arg (j := 3) C (by omega) hL rfl rfl dL_law_587 rfl rfl dL_law_588 rfl rfl (by decide) dL_law_589 rfl dL_law_590 rfl dL_law_591 rfl ?_
  refine ll_call (Y1 := YX11_tones) (as := [.int (xs (7 * N + 1)), .int (xs (7 * N + 2)), .int (xs (7 * N + 3))]) C dL_law_592 lL_65 vX11_tones rfl rfl rfl (Nat.le_of_ble_eq_true rfl) m2 (by decide) ?_
  exact ll_same 1323 C dL_law_595 (by decide) (kk g2 I2)
theorem lc_alike (C : ll_C p s m meth c b L xs D tC ad) (hL : L ≤ 3584) (hi : 7 * N + 7 ≤ L) (hN : N ≤ 512) (I : IV N h) (kk : ∀ g, IV (N + 1) g → ll_R p l e s m below meth c b D tC ad 1323 (ll_ls (7 * N)) [] g) : ll_R p l e s m below meth c b D tC ad 600 (ll_ls (7 * N)) [] h := by
  obtain ⟨x, g1, g2, m1, m2, I2⟩ := st_alike 0 N h I hN (xs (7 * N + 1)) (xs (7 * N + 2)) (xs (7 * N + 3)) (xs (7 * N + 4))
  refine ll_aload_n C dL_law_600 rfl rfl ?_
  refine ll_arg (j := 1) C (by omega) hL rfl rfl dL_law_601 rfl rfl dL_law_602 rfl rfl (by decide) dL_law_603 rfl dL_law_604 rfl dL_law_605 rfl ?_
  refine ll_arg (j := 2) C (by omega) hL rfl rfl dL_law_606 rfl rfl dL_law_607 rfl rfl (by decide) dL_law_608 rfl dL_law_609 rfl dL_law_610 rfl ?_
  refine ll_arg (j := 3) C (by omega) hL rfl rfl dL_law_611 rfl rfl dL_law_612 rfl rfl (by decide) dL_law_613 rfl dL_law_614 rfl dL_law_615 rfl ?_
  refine ll_arg (j := 4) C (by omega) hL rfl rfl dL_law_616 rfl rfl dL_law_617 rfl rfl (by decide) dL_law_618 rfl dL_law_619 rfl dL_law_620 rfl ?_
  refine ll_call (Y1 := YX10_alike) (as := [.int (xs (7 * N + 1)), .int (xs (7 * N + 2)), .int (xs (7 * N + 3)), .int (xs (7 * N + 4))]) C dL_law_621 lL_66 vX10_alike rfl rfl rfl (Nat.le_of_ble_eq_true rfl) m1 (by decide) ?_
  refine ll_aload_n C dL_law_624 rfl rfl ?_
  refine ll_arg (j := 1) C (by omega) hL rfl rfl dL_law_625 rfl rfl dL_law_626 rfl rfl (by decide) dL_law_627 rfl dL_law_628 rfl dL_law_629 rfl ?_
  refine ll_arg (j := 2) C (by omega) hL rfl rfl dL_law_630 rfl rfl dL_law_631 rfl rfl (by decide) dL_law_632 rfl dL_law_633 rfl dL_law_634 rfl ?_
  refine ll_arg (j := 3) C (by omega) hL rfl rfl dL_law_635 rfl rfl dL_law_636 rfl rfl (by decide) dL_law_637 rfl dL_law_638 rfl dL_law_639 rfl ?_
  refine ll_arg (j := 4) C (by omega) hL rfl rfl dL_law_640 rfl rfl dL_law_641 rfl rfl (by decide) dL_law_642 rfl dL_law_643 rfl dL_law_644 rfl ?_
  refine ll_call (Y1 := YX11_alike) (as := [.int (xs (7 * N + 1)), .int (xs (7 * N + 2)), .int (xs (7 * N + 3)), .int (xs (7 * N + 4))]) C dL_law_645 lL_70 vX11_alike rfl rfl rfl (Nat.le_of_ble_eq_true rfl) m2 (by decide) ?_
  exact ll_same 1323 C dL_law_648 (by decide) (kk g2 I2)
theorem lc_hear (C : ll_C p s m meth c b L xs D tC ad) (hL : L ≤ 3584) (hi : 7 * N + 7 ≤ L) (hN : N ≤ 512) (I : IV N h) (kk : ∀ g, IV (N + 1) g → ll_R p l e s m below meth c b D tC ad 1323 (ll_ls (7 * N)) [] g) : ll_R p l e s m below meth c b D tC ad 653 (ll_ls (7 * N)) [] h := by
  obtain ⟨x, g1, g2, m1, m2, I2⟩ := st_hear 0 N h I hN (xs (7 * N + 1))
  refine ll_aload_n C dL_law_653 rfl rfl ?_
  refine ll_arg (j := 1) C (by omega) hL rfl rfl dL_law_654 rfl rfl dL_law_655 rfl rfl (by decide) dL_law_656 rfl dL_law_657 rfl dL_law_658 rfl ?_
  refine ll_call (Y1 := YX10_hear) (as := [.int (xs (7 * N + 1))]) C dL_law_659 lL_71 vX10_hear rfl rfl rfl (Nat.le_of_ble_eq_true rfl) m1 (by decide) ?_
  refine ll_aload_n C dL_law_662 rfl rfl ?_
  refine ll_arg (j := 1) C (by omega) hL rfl rfl dL_law_663 rfl rfl dL_law_664 rfl rfl (by decide) dL_law_665 rfl dL_law_666 rfl dL_law_667 rfl ?_
  refine ll_call (Y1 := YX11_hear) (as := [.int (xs (7 * N + 1))]) C dL_law_668 lL_74 vX11_hear rfl rfl rfl (Nat.le_of_ble_eq_true rfl) m2 (by decide) ?_
  exact ll_same 1323 C dL_law_671 (by decide) (kk g2 I2)
theorem lc_fits (C : ll_C p s m meth c b L xs D tC ad) (hL : L ≤ 3584) (hi : 7 * N + 7 ≤ L) (hN : N ≤ 512) (I : IV N h) (kk : ∀ g, IV (N + 1) g → ll_R p l e s m below meth c b D tC ad 1323 (ll_ls (7 * N)) [] g) : ll_R p l e s m below meth c b D tC ad 676 (ll_ls (7 * N)) [] h := by
  obtain ⟨x, g1, g2, m1, m2, I2⟩ := st_fits 0 N h I hN (xs (7 * N + 1)) (xs (7 * N + 2)) (xs (7 * N + 3)) (xs (7 * N + 4))
  refine ll_aload_n C dL_law_676 rfl rfl ?_
  refine ll_arg (j := 1) C (by omega) hL rfl rfl dL_law_677 rfl rfl dL_law_678 rfl rfl (by decide) dL_law_679 rfl dL_law_680 rfl dL_law_681 rfl ?_
  refine ll_arg (j := 2) C (by omega) hL rfl rfl dL_law_682 rfl rfl dL_law_683 rfl rfl (by decide) dL_law_684 rfl dL_law_685 rfl dL_law_686 rfl ?_
  refine ll_arg (j := 3) C (by omega) hL rfl rfl dL_law_687 rfl rfl dL_law_688 rfl rfl (by decide) dL_law_689 rfl dL_law_690 rfl dL_law_691 rfl ?_
  refine ll_arg (j := 4) C (by omega) hL rfl rfl dL_law_692 rfl rfl dL_law_693 rfl rfl (by decide) dL_law_694 rfl dL_law_695 rfl dL_law_696 rfl ?_
  refine ll_call (Y1 := YX10_fits) (as := [.int (xs (7 * N + 1)), .int (xs (7 * N + 2)), .int (xs (7 * N + 3)), .int (xs (7 * N + 4))]) C dL_law_697 lL_75 vX10_fits rfl rfl rfl (Nat.le_of_ble_eq_true rfl) m1 (by decide) ?_
  refine ll_aload_n C dL_law_700 rfl rfl ?_
  refine ll_arg (j := 1) C (by omega) hL rfl rfl dL_law_701 rfl rfl dL_law_702 rfl rfl (by decide) dL_law_703 rfl dL_law_704 rfl dL_law_705 rfl ?_
  refine ll_arg (j := 2) C (by omega) hL rfl rfl dL_law_706 rfl rfl dL_law_707 rfl rfl (by decide) dL_law_708 rfl dL_law_709 rfl dL_law_710 rfl ?_
  refine ll_arg (j := 3) C (by omega) hL rfl rfl dL_law_711 rfl rfl dL_law_712 rfl rfl (by decide) dL_law_713 rfl dL_law_714 rfl dL_law_715 rfl ?_
  refine ll_arg (j := 4) C (by omega) hL rfl rfl dL_law_716 rfl rfl dL_law_717 rfl rfl (by decide) dL_law_718 rfl dL_law_719 rfl dL_law_720 rfl ?_
  refine ll_call (Y1 := YX11_fits) (as := [.int (xs (7 * N + 1)), .int (xs (7 * N + 2)), .int (xs (7 * N + 3)), .int (xs (7 * N + 4))]) C dL_law_721 lL_78 vX11_fits rfl rfl rfl (Nat.le_of_ble_eq_true rfl) m2 (by decide) ?_
  exact ll_same 1323 C dL_law_724 (by decide) (kk g2 I2)
theorem lc_mistaken (C : ll_C p s m meth c b L xs D tC ad) (hL : L ≤ 3584) (hi : 7 * N + 7 ≤ L) (hN : N ≤ 512) (I : IV N h) (kk : ∀ g, IV (N + 1) g → ll_R p l e s m below meth c b D tC ad 1323 (ll_ls (7 * N)) [] g) : ll_R p l e s m below meth c b D tC ad 729 (ll_ls (7 * N)) [] h := by
  obtain ⟨x, g1, g2, m1, m2, I2⟩ := st_mistaken 0 N h I hN (xs (7 * N + 1)) (xs (7 * N + 2)) (xs (7 * N + 3)) (xs (7 * N + 4)) (xs (7 * N + 5))
  refine ll_aload_n C dL_law_729 rfl rfl ?_
  refine ll_arg (j := 1) C (by omega) hL rfl rfl dL_law_730 rfl rfl dL_law_731 rfl rfl (by decide) dL_law_732 rfl dL_law_733 rfl dL_law_734 rfl ?_
  refine ll_arg (j := 2) C (by omega) hL rfl rfl dL_law_735 rfl rfl dL_law_736 rfl rfl (by decide) dL_law_737 rfl dL_law_738 rfl dL_law_739 rfl ?_
  refine ll_arg (j := 3) C (by omega) hL rfl rfl dL_law_740 rfl rfl dL_law_741 rfl rfl (by decide) dL_law_742 rfl dL_law_743 rfl dL_law_744 rfl ?_
  refine ll_arg (j := 4) C (by omega) hL rfl rfl dL_law_745 rfl rfl dL_law_746 rfl rfl (by decide) dL_law_747 rfl dL_law_748 rfl dL_law_749 rfl ?_
  refine ll_arg (j := 5) C (by omega) hL rfl rfl dL_law_750 rfl rfl dL_law_751 rfl rfl (by decide) dL_law_752 rfl dL_law_753 rfl dL_law_754 rfl ?_
  refine ll_call (Y1 := YX10_mistaken) (as := [.int (xs (7 * N + 1)), .int (xs (7 * N + 2)), .int (xs (7 * N + 3)), .int (xs (7 * N + 4)), .int (xs (7 * N + 5))]) C dL_law_755 lL_79 vX10_mistaken rfl rfl rfl (Nat.le_of_ble_eq_true rfl) m1 (by decide) ?_
  refine ll_aload_n C dL_law_758 rfl rfl ?_
  refine ll_arg (j := 1) C (by omega) hL rfl rfl dL_law_759 rfl rfl dL_law_760 rfl rfl (by decide) dL_law_761 rfl dL_law_762 rfl dL_law_763 rfl ?_
  refine ll_arg (j := 2) C (by omega) hL rfl rfl dL_law_764 rfl rfl dL_law_765 rfl rfl (by decide) dL_law_766 rfl dL_law_767 rfl dL_law_768 rfl ?_
  refine ll_arg (j := 3) C (by omega) hL rfl rfl dL_law_769 rfl rfl dL_law_770 rfl rfl (by decide) dL_law_771 rfl dL_law_772 rfl dL_law_773 rfl ?_
  refine ll_arg (j := 4) C (by omega) hL rfl rfl dL_law_774 rfl rfl dL_law_775 rfl rfl (by decide) dL_law_776 rfl dL_law_777 rfl dL_law_778 rfl ?_
  refine ll_arg (j := 5) C (by omega) hL rfl rfl dL_law_779 rfl rfl dL_law_780 rfl rfl (by decide) dL_law_781 rfl dL_law_782 rfl dL_law_783 rfl ?_
  refine ll_call (Y1 := YX11_mistaken) (as := [.int (xs (7 * N + 1)), .int (xs (7 * N + 2)), .int (xs (7 * N + 3)), .int (xs (7 * N + 4)), .int (xs (7 * N + 5))]) C dL_law_784 lL_82 vX11_mistaken rfl rfl rfl (Nat.le_of_ble_eq_true rfl) m2 (by decide) ?_
  exact ll_same 1323 C dL_law_787 (by decide) (kk g2 I2)
theorem lc_pay (C : ll_C p s m meth c b L xs D tC ad) (hL : L ≤ 3584) (hi : 7 * N + 7 ≤ L) (hN : N ≤ 512) (I : IV N h) (kk : ∀ g, IV (N + 1) g → ll_R p l e s m below meth c b D tC ad 1323 (ll_ls (7 * N)) [] g) : ll_R p l e s m below meth c b D tC ad 792 (ll_ls (7 * N)) [] h := by
  obtain ⟨x, g1, g2, m1, m2, I2⟩ := st_pay 0 N h I hN (xs (7 * N + 1)) (xs (7 * N + 2)) (xs (7 * N + 3)) (xs (7 * N + 4)) (xs (7 * N + 5)) (xs (7 * N + 6))
  refine ll_aload_n C dL_law_792 rfl rfl ?_
  refine ll_arg (j := 1) C (by omega) hL rfl rfl dL_law_793 rfl rfl dL_law_794 rfl rfl (by decide) dL_law_795 rfl dL_law_796 rfl dL_law_797 rfl ?_
  refine ll_arg (j := 2) C (by omega) hL rfl rfl dL_law_798 rfl rfl dL_law_799 rfl rfl (by decide) dL_law_800 rfl dL_law_801 rfl dL_law_802 rfl ?_
  refine ll_arg (j := 3) C (by omega) hL rfl rfl dL_law_803 rfl rfl dL_law_804 rfl rfl (by decide) dL_law_805 rfl dL_law_806 rfl dL_law_807 rfl ?_
  refine ll_arg (j := 4) C (by omega) hL rfl rfl dL_law_808 rfl rfl dL_law_809 rfl rfl (by decide) dL_law_810 rfl dL_law_811 rfl dL_law_812 rfl ?_
  refine ll_arg (j := 5) C (by omega) hL rfl rfl dL_law_813 rfl rfl dL_law_814 rfl rfl (by decide) dL_law_815 rfl dL_law_816 rfl dL_law_817 rfl ?_
  refine ll_argB (j := 6) C (by omega) hL rfl rfl dL_law_818 rfl rfl dL_law_819 rfl rfl (by decide) dL_law_820 rfl dL_law_822 rfl dL_law_823 rfl ?_
  refine ll_call (Y1 := YX10_pay) (as := [.int (xs (7 * N + 1)), .int (xs (7 * N + 2)), .int (xs (7 * N + 3)), .int (xs (7 * N + 4)), .int (xs (7 * N + 5)), .int (xs (7 * N + 6))]) C dL_law_824 lL_83 vX10_pay rfl rfl rfl (Nat.le_of_ble_eq_true rfl) m1 (by decide) ?_
  refine ll_aload_n C dL_law_827 rfl rfl ?_
  refine ll_arg (j := 1) C (by omega) hL rfl rfl dL_law_828 rfl rfl dL_law_829 rfl rfl (by decide) dL_law_830 rfl dL_law_831 rfl dL_law_832 rfl ?_
  refine ll_arg (j := 2) C (by omega) hL rfl rfl dL_law_833 rfl rfl dL_law_834 rfl rfl (by decide) dL_law_835 rfl dL_law_836 rfl dL_law_837 rfl ?_
  refine ll_arg (j := 3) C (by omega) hL rfl rfl dL_law_838 rfl rfl dL_law_839 rfl rfl (by decide) dL_law_840 rfl dL_law_841 rfl dL_law_842 rfl ?_
  refine ll_arg (j := 4) C (by omega) hL rfl rfl dL_law_843 rfl rfl dL_law_844 rfl rfl (by decide) dL_law_845 rfl dL_law_846 rfl dL_law_847 rfl ?_
  refine ll_arg (j := 5) C (by omega) hL rfl rfl dL_law_848 rfl rfl dL_law_849 rfl rfl (by decide) dL_law_850 rfl dL_law_851 rfl dL_law_852 rfl ?_
  refine ll_argB (j := 6) C (by omega) hL rfl rfl dL_law_853 rfl rfl dL_law_854 rfl rfl (by decide) dL_law_855 rfl dL_law_857 rfl dL_law_858 rfl ?_
  refine ll_call (Y1 := YX11_pay) (as := [.int (xs (7 * N + 1)), .int (xs (7 * N + 2)), .int (xs (7 * N + 3)), .int (xs (7 * N + 4)), .int (xs (7 * N + 5)), .int (xs (7 * N + 6))]) C dL_law_859 lL_87 vX11_pay rfl rfl rfl (Nat.le_of_ble_eq_true rfl) m2 (by decide) ?_
  exact ll_same 1323 C dL_law_862 (by decide) (kk g2 I2)
theorem lc_done (C : ll_C p s m meth c b L xs D tC ad) (hL : L ≤ 3584) (hi : 7 * N + 7 ≤ L) (hN : N ≤ 512) (I : IV N h) (kk : ∀ g, IV (N + 1) g → ll_R p l e s m below meth c b D tC ad 1323 (ll_ls (7 * N)) [] g) : ll_R p l e s m below meth c b D tC ad 867 (ll_ls (7 * N)) [] h := by
  obtain ⟨x, g1, g2, m1, m2, I2⟩ := st_done 0 N h I hN (xs (7 * N + 1)) (xs (7 * N + 2)) (xs (7 * N + 3)) (xs (7 * N + 4)) (xs (7 * N + 5))
  refine ll_aload_n C dL_law_867 rfl rfl ?_
  refine ll_arg (j := 1) C (by omega) hL rfl rfl dL_law_868 rfl rfl dL_law_869 rfl rfl (by decide) dL_law_870 rfl dL_law_871 rfl dL_law_872 rfl ?_
  refine ll_arg (j := 2) C (by omega) hL rfl rfl dL_law_873 rfl rfl dL_law_874 rfl rfl (by decide) dL_law_875 rfl dL_law_876 rfl dL_law_877 rfl ?_
  refine ll_arg (j := 3) C (by omega) hL rfl rfl dL_law_878 rfl rfl dL_law_879 rfl rfl (by decide) dL_law_880 rfl dL_law_881 rfl dL_law_882 rfl ?_
  refine ll_arg (j := 4) C (by omega) hL rfl rfl dL_law_883 rfl rfl dL_law_884 rfl rfl (by decide) dL_law_885 rfl dL_law_886 rfl dL_law_887 rfl ?_
  refine ll_arg (j := 5) C (by omega) hL rfl rfl dL_law_888 rfl rfl dL_law_889 rfl rfl (by decide) dL_law_890 rfl dL_law_891 rfl dL_law_892 rfl ?_
  refine ll_call (Y1 := YX10_done) (as := [.int (xs (7 * N + 1)), .int (xs (7 * N + 2)), .int (xs (7 * N + 3)), .int (xs (7 * N + 4)), .int (xs (7 * N + 5))]) C dL_law_893 lL_88 vX10_done rfl rfl rfl (Nat.le_of_ble_eq_true rfl) m1 (by decide) ?_
  refine ll_aload_n C dL_law_896 rfl rfl ?_
  refine ll_arg (j := 1) C (by omega) hL rfl rfl dL_law_897 rfl rfl dL_law_898 rfl rfl (by decide) dL_law_899 rfl dL_law_900 rfl dL_law_901 rfl ?_
  refine ll_arg (j := 2) C (by omega) hL rfl rfl dL_law_902 rfl rfl dL_law_903 rfl rfl (by decide) dL_law_904 rfl dL_law_905 rfl dL_law_906 rfl ?_
  refine ll_arg (j := 3) C (by omega) hL rfl rfl dL_law_907 rfl rfl dL_law_908 rfl rfl (by decide) dL_law_909 rfl dL_law_910 rfl dL_law_911 rfl ?_
  refine ll_arg (j := 4) C (by omega) hL rfl rfl dL_law_912 rfl rfl dL_law_913 rfl rfl (by decide) dL_law_914 rfl dL_law_915 rfl dL_law_916 rfl ?_
  refine ll_arg (j := 5) C (by omega) hL rfl rfl dL_law_917 rfl rfl dL_law_918 rfl rfl (by decide) dL_law_919 rfl dL_law_920 rfl dL_law_921 rfl ?_
  refine ll_call (Y1 := YX11_done) (as := [.int (xs (7 * N + 1)), .int (xs (7 * N + 2)), .int (xs (7 * N + 3)), .int (xs (7 * N + 4)), .int (xs (7 * N + 5))]) C dL_law_922 lL_91 vX11_done rfl rfl rfl (Nat.le_of_ble_eq_true rfl) m2 (by decide) ?_
  exact ll_same 1323 C dL_law_925 (by decide) (kk g2 I2)
theorem lc_prices (C : ll_C p s m meth c b L xs D tC ad) (hL : L ≤ 3584) (hi : 7 * N + 7 ≤ L) (hN : N ≤ 512) (I : IV N h) (kk : ∀ g, IV (N + 1) g → ll_R p l e s m below meth c b D tC ad 1323 (ll_ls (7 * N)) [] g) : ll_R p l e s m below meth c b D tC ad 930 (ll_ls (7 * N)) [] h := by
  obtain ⟨x, g1, g2, m1, m2, I2⟩ := st_prices 0 N h I hN (xs (7 * N + 1)) (xs (7 * N + 2)) (xs (7 * N + 3)) (xs (7 * N + 4)) (xs (7 * N + 5))
  refine ll_aload_n C dL_law_930 rfl rfl ?_
  refine ll_arg (j := 1) C (by omega) hL rfl rfl dL_law_931 rfl rfl dL_law_932 rfl rfl (by decide) dL_law_933 rfl dL_law_934 rfl dL_law_935 rfl ?_
  refine ll_arg (j := 2) C (by omega) hL rfl rfl dL_law_936 rfl rfl dL_law_937 rfl rfl (by decide) dL_law_938 rfl dL_law_939 rfl dL_law_940 rfl ?_
  refine ll_arg (j := 3) C (by omega) hL rfl rfl dL_law_941 rfl rfl dL_law_942 rfl rfl (by decide) dL_law_943 rfl dL_law_944 rfl dL_law_945 rfl ?_
  refine ll_arg (j := 4) C (by omega) hL rfl rfl dL_law_946 rfl rfl dL_law_947 rfl rfl (by decide) dL_law_948 rfl dL_law_949 rfl dL_law_950 rfl ?_
  refine ll_arg (j := 5) C (by omega) hL rfl rfl dL_law_951 rfl rfl dL_law_952 rfl rfl (by decide) dL_law_953 rfl dL_law_954 rfl dL_law_955 rfl ?_
  refine ll_call (Y1 := YX10_prices) (as := [.int (xs (7 * N + 1)), .int (xs (7 * N + 2)), .int (xs (7 * N + 3)), .int (xs (7 * N + 4)), .int (xs (7 * N + 5))]) C dL_law_956 lL_92 vX10_prices rfl rfl rfl (Nat.le_of_ble_eq_true rfl) m1 (by decide) ?_
  refine ll_aload_n C dL_law_959 rfl rfl ?_
  refine ll_arg (j := 1) C (by omega) hL rfl rfl dL_law_960 rfl rfl dL_law_961 rfl rfl (by decide) dL_law_962 rfl dL_law_963 rfl dL_law_964 rfl ?_
  refine ll_arg (j := 2) C (by omega) hL rfl rfl dL_law_965 rfl rfl dL_law_966 rfl rfl (by decide) dL_law_967 rfl dL_law_968 rfl dL_law_969 rfl ?_
  refine ll_arg (j := 3) C (by omega) hL rfl rfl dL_law_970 rfl rfl dL_law_971 rfl rfl (by decide) dL_law_972 rfl dL_law_973 rfl dL_law_974 rfl ?_
  refine ll_arg (j := 4) C (by omega) hL rfl rfl dL_law_975 rfl rfl dL_law_976 rfl rfl (by decide) dL_law_977 rfl dL_law_978 rfl dL_law_979 rfl ?_
  refine ll_arg (j := 5) C (by omega) hL rfl rfl dL_law_980 rfl rfl dL_law_981 rfl rfl (by decide) dL_law_982 rfl dL_law_983 rfl dL_law_984 rfl ?_
  refine ll_call (Y1 := YX11_prices) (as := [.int (xs (7 * N + 1)), .int (xs (7 * N + 2)), .int (xs (7 * N + 3)), .int (xs (7 * N + 4)), .int (xs (7 * N + 5))]) C dL_law_985 lL_95 vX11_prices rfl rfl rfl (Nat.le_of_ble_eq_true rfl) m2 (by decide) ?_
  exact ll_same 1323 C dL_law_988 (by decide) (kk g2 I2)
theorem lc_bestCounter (C : ll_C p s m meth c b L xs D tC ad) (hL : L ≤ 3584) (hi : 7 * N + 7 ≤ L) (hN : N ≤ 512) (I : IV N h) (kk : ∀ g, IV (N + 1) g → ll_R p l e s m below meth c b D tC ad 1323 (ll_ls (7 * N)) [] g) : ll_R p l e s m below meth c b D tC ad 993 (ll_ls (7 * N)) [] h := by
  obtain ⟨x, g1, g2, m1, m2, I2⟩ := st_bestCounter 0 N h I hN (xs (7 * N + 1)) (xs (7 * N + 2)) (xs (7 * N + 3)) (xs (7 * N + 4))
  refine ll_aload_n C dL_law_993 rfl rfl ?_
  refine ll_arg (j := 1) C (by omega) hL rfl rfl dL_law_994 rfl rfl dL_law_995 rfl rfl (by decide) dL_law_996 rfl dL_law_997 rfl dL_law_998 rfl ?_
  refine ll_arg (j := 2) C (by omega) hL rfl rfl dL_law_999 rfl rfl dL_law_1000 rfl rfl (by decide) dL_law_1001 rfl dL_law_1002 rfl dL_law_1003 rfl ?_
  refine ll_arg (j := 3) C (by omega) hL rfl rfl dL_law_1004 rfl rfl dL_law_1005 rfl rfl (by decide) dL_law_1006 rfl dL_law_1007 rfl dL_law_1008 rfl ?_
  refine ll_arg (j := 4) C (by omega) hL rfl rfl dL_law_1009 rfl rfl dL_law_1010 rfl rfl (by decide) dL_law_1011 rfl dL_law_1012 rfl dL_law_1013 rfl ?_
  refine ll_call (Y1 := YX10_bestCounter) (as := [.int (xs (7 * N + 1)), .int (xs (7 * N + 2)), .int (xs (7 * N + 3)), .int (xs (7 * N + 4))]) C dL_law_1014 lL_96 vX10_bestCounter rfl rfl rfl (Nat.le_of_ble_eq_true rfl) m1 (by decide) ?_
  refine ll_aload_n C dL_law_1017 rfl rfl ?_
  refine ll_arg (j := 1) C (by omega) hL rfl rfl dL_law_1018 rfl rfl dL_law_1019 rfl rfl (by decide) dL_law_1020 rfl dL_law_1021 rfl dL_law_1022 rfl ?_
  refine ll_arg (j := 2) C (by omega) hL rfl rfl dL_law_1023 rfl rfl dL_law_1024 rfl rfl (by decide) dL_law_1025 rfl dL_law_1026 rfl dL_law_1027 rfl ?_
  refine ll_arg (j := 3) C (by omega) hL rfl rfl dL_law_1028 rfl rfl dL_law_1029 rfl rfl (by decide) dL_law_1030 rfl dL_law_1031 rfl dL_law_1032 rfl ?_
  refine ll_arg (j := 4) C (by omega) hL rfl rfl dL_law_1033 rfl rfl dL_law_1034 rfl rfl (by decide) dL_law_1035 rfl dL_law_1036 rfl dL_law_1037 rfl ?_
  refine ll_call (Y1 := YX11_bestCounter) (as := [.int (xs (7 * N + 1)), .int (xs (7 * N + 2)), .int (xs (7 * N + 3)), .int (xs (7 * N + 4))]) C dL_law_1038 lL_99 vX11_bestCounter rfl rfl rfl (Nat.le_of_ble_eq_true rfl) m2 (by decide) ?_
  exact ll_same 1323 C dL_law_1041 (by decide) (kk g2 I2)
theorem lc_payment (C : ll_C p s m meth c b L xs D tC ad) (hL : L ≤ 3584) (hi : 7 * N + 7 ≤ L) (hN : N ≤ 512) (I : IV N h) (kk : ∀ g, IV (N + 1) g → ll_R p l e s m below meth c b D tC ad 1323 (ll_ls (7 * N)) [] g) : ll_R p l e s m below meth c b D tC ad 1046 (ll_ls (7 * N)) [] h := by
  obtain ⟨x, g1, g2, m1, m2, I2⟩ := st_payment 0 N h I hN (xs (7 * N + 1)) (xs (7 * N + 2))
  refine ll_aload_n C dL_law_1046 rfl rfl ?_
  refine ll_arg (j := 1) C (by omega) hL rfl rfl dL_law_1047 rfl rfl dL_law_1048 rfl rfl (by decide) dL_law_1049 rfl dL_law_1050 rfl dL_law_1051 rfl ?_
  refine ll_arg (j := 2) C (by omega) hL rfl rfl dL_law_1052 rfl rfl dL_law_1053 rfl rfl (by decide) dL_law_1054 rfl dL_law_1055 rfl dL_law_1056 rfl ?_
  refine ll_call (Y1 := YX10_payment) (as := [.int (xs (7 * N + 1)), .int (xs (7 * N + 2))]) C dL_law_1057 lL_100 vX10_payment rfl rfl rfl (Nat.le_of_ble_eq_true rfl) m1 (by decide) ?_
  refine ll_aload_n C dL_law_1060 rfl rfl ?_
  refine ll_arg (j := 1) C (by omega) hL rfl rfl dL_law_1061 rfl rfl dL_law_1062 rfl rfl (by decide) dL_law_1063 rfl dL_law_1064 rfl dL_law_1065 rfl ?_
  refine ll_arg (j := 2) C (by omega) hL rfl rfl dL_law_1066 rfl rfl dL_law_1067 rfl rfl (by decide) dL_law_1068 rfl dL_law_1069 rfl dL_law_1070 rfl ?_
  refine ll_call (Y1 := YX11_payment) (as := [.int (xs (7 * N + 1)), .int (xs (7 * N + 2))]) C dL_law_1071 lL_103 vX11_payment rfl rfl rfl (Nat.le_of_ble_eq_true rfl) m2 (by decide) ?_
  exact ll_same 1323 C dL_law_1074 (by decide) (kk g2 I2)
theorem lc_rounds (C : ll_C p s m meth c b L xs D tC ad) (hL : L ≤ 3584) (hi : 7 * N + 7 ≤ L) (hN : N ≤ 512) (I : IV N h) (kk : ∀ g, IV (N + 1) g → ll_R p l e s m below meth c b D tC ad 1323 (ll_ls (7 * N)) [] g) : ll_R p l e s m below meth c b D tC ad 1079 (ll_ls (7 * N)) [] h := by
  obtain ⟨x, g1, g2, m1, m2, I2⟩ := st_rounds 0 N h I hN (xs (7 * N + 1)) (xs (7 * N + 2))
  refine ll_aload_n C dL_law_1079 rfl rfl ?_
  refine ll_arg (j := 1) C (by omega) hL rfl rfl dL_law_1080 rfl rfl dL_law_1081 rfl rfl (by decide) dL_law_1082 rfl dL_law_1083 rfl dL_law_1084 rfl ?_
  refine ll_arg (j := 2) C (by omega) hL rfl rfl dL_law_1085 rfl rfl dL_law_1086 rfl rfl (by decide) dL_law_1087 rfl dL_law_1088 rfl dL_law_1089 rfl ?_
  refine ll_call (Y1 := YX10_rounds) (as := [.int (xs (7 * N + 1)), .int (xs (7 * N + 2))]) C dL_law_1090 lL_104 vX10_rounds rfl rfl rfl (Nat.le_of_ble_eq_true rfl) m1 (by decide) ?_
  refine ll_aload_n C dL_law_1093 rfl rfl ?_
  refine ll_arg (j := 1) C (by omega) hL rfl rfl dL_law_1094 rfl rfl dL_law_1095 rfl rfl (by decide) dL_law_1096 rfl dL_law_1097 rfl dL_law_1098 rfl ?_
  refine ll_arg (j := 2) C (by omega) hL rfl rfl dL_law_1099 rfl rfl dL_law_1100 rfl rfl (by decide) dL_law_1101 rfl dL_law_1102 rfl dL_law_1103 rfl ?_
  refine ll_call (Y1 := YX11_rounds) (as := [.int (xs (7 * N + 1)), .int (xs (7 * N + 2))]) C dL_law_1104 lL_107 vX11_rounds rfl rfl rfl (Nat.le_of_ble_eq_true rfl) m2 (by decide) ?_
  exact ll_same 1323 C dL_law_1107 (by decide) (kk g2 I2)
theorem lc_land (C : ll_C p s m meth c b L xs D tC ad) (hL : L ≤ 3584) (hi : 7 * N + 7 ≤ L) (hN : N ≤ 512) (I : IV N h) (kk : ∀ g, IV (N + 1) g → ll_R p l e s m below meth c b D tC ad 1323 (ll_ls (7 * N)) [] g) : ll_R p l e s m below meth c b D tC ad 1112 (ll_ls (7 * N)) [] h := by
  obtain ⟨x, g1, g2, m1, m2, I2⟩ := st_land 0 N h I hN (xs (7 * N + 1)) (xs (7 * N + 2)) (xs (7 * N + 3)) (xs (7 * N + 4))
  refine ll_aload_n C dL_law_1112 rfl rfl ?_
  refine ll_arg (j := 1) C (by omega) hL rfl rfl dL_law_1113 rfl rfl dL_law_1114 rfl rfl (by decide) dL_law_1115 rfl dL_law_1116 rfl dL_law_1117 rfl ?_
  refine ll_arg (j := 2) C (by omega) hL rfl rfl dL_law_1118 rfl rfl dL_law_1119 rfl rfl (by decide) dL_law_1120 rfl dL_law_1121 rfl dL_law_1122 rfl ?_
  refine ll_arg (j := 3) C (by omega) hL rfl rfl dL_law_1123 rfl rfl dL_law_1124 rfl rfl (by decide) dL_law_1125 rfl dL_law_1126 rfl dL_law_1127 rfl ?_
  refine ll_arg (j := 4) C (by omega) hL rfl rfl dL_law_1128 rfl rfl dL_law_1129 rfl rfl (by decide) dL_law_1130 rfl dL_law_1131 rfl dL_law_1132 rfl ?_
  refine ll_call (Y1 := YX10_land) (as := [.int (xs (7 * N + 1)), .int (xs (7 * N + 2)), .int (xs (7 * N + 3)), .int (xs (7 * N + 4))]) C dL_law_1133 lL_108 vX10_land rfl rfl rfl (Nat.le_of_ble_eq_true rfl) m1 (by decide) ?_
  refine ll_aload_n C dL_law_1136 rfl rfl ?_
  refine ll_arg (j := 1) C (by omega) hL rfl rfl dL_law_1137 rfl rfl dL_law_1138 rfl rfl (by decide) dL_law_1139 rfl dL_law_1140 rfl dL_law_1141 rfl ?_
  refine ll_arg (j := 2) C (by omega) hL rfl rfl dL_law_1142 rfl rfl dL_law_1143 rfl rfl (by decide) dL_law_1144 rfl dL_law_1145 rfl dL_law_1146 rfl ?_
  refine ll_arg (j := 3) C (by omega) hL rfl rfl dL_law_1147 rfl rfl dL_law_1148 rfl rfl (by decide) dL_law_1149 rfl dL_law_1150 rfl dL_law_1151 rfl ?_
  refine ll_arg (j := 4) C (by omega) hL rfl rfl dL_law_1152 rfl rfl dL_law_1153 rfl rfl (by decide) dL_law_1154 rfl dL_law_1155 rfl dL_law_1156 rfl ?_
  refine ll_call (Y1 := YX11_land) (as := [.int (xs (7 * N + 1)), .int (xs (7 * N + 2)), .int (xs (7 * N + 3)), .int (xs (7 * N + 4))]) C dL_law_1157 lL_111 vX11_land rfl rfl rfl (Nat.le_of_ble_eq_true rfl) m2 (by decide) ?_
  exact ll_same 1323 C dL_law_1160 (by decide) (kk g2 I2)
theorem lc_forger (C : ll_C p s m meth c b L xs D tC ad) (hL : L ≤ 3584) (hi : 7 * N + 7 ≤ L) (hN : N ≤ 512) (I : IV N h) (kk : ∀ g, IV (N + 1) g → ll_R p l e s m below meth c b D tC ad 1323 (ll_ls (7 * N)) [] g) : ll_R p l e s m below meth c b D tC ad 1165 (ll_ls (7 * N)) [] h := by
  obtain ⟨x, g1, g2, m1, m2, I2⟩ := st_forger 0 N h I hN (xs (7 * N + 1)) (xs (7 * N + 2))
  refine ll_aload_n C dL_law_1165 rfl rfl ?_
  refine ll_arg (j := 1) C (by omega) hL rfl rfl dL_law_1166 rfl rfl dL_law_1167 rfl rfl (by decide) dL_law_1168 rfl dL_law_1169 rfl dL_law_1170 rfl ?_
  refine ll_arg (j := 2) C (by omega) hL rfl rfl dL_law_1171 rfl rfl dL_law_1172 rfl rfl (by decide) dL_law_1173 rfl dL_law_1174 rfl dL_law_1175 rfl ?_
  refine ll_call (Y1 := YX10_forger) (as := [.int (xs (7 * N + 1)), .int (xs (7 * N + 2))]) C dL_law_1176 lL_112 vX10_forger rfl rfl rfl (Nat.le_of_ble_eq_true rfl) m1 (by decide) ?_
  refine ll_aload_n C dL_law_1179 rfl rfl ?_
  refine ll_arg (j := 1) C (by omega) hL rfl rfl dL_law_1180 rfl rfl dL_law_1181 rfl rfl (by decide) dL_law_1182 rfl dL_law_1183 rfl dL_law_1184 rfl ?_
  refine ll_arg (j := 2) C (by omega) hL rfl rfl dL_law_1185 rfl rfl dL_law_1186 rfl rfl (by decide) dL_law_1187 rfl dL_law_1188 rfl dL_law_1189 rfl ?_
  refine ll_call (Y1 := YX11_forger) (as := [.int (xs (7 * N + 1)), .int (xs (7 * N + 2))]) C dL_law_1190 lL_115 vX11_forger rfl rfl rfl (Nat.le_of_ble_eq_true rfl) m2 (by decide) ?_
  exact ll_same 1323 C dL_law_1193 (by decide) (kk g2 I2)
theorem lc_seed (C : ll_C p s m meth c b L xs D tC ad) (hL : L ≤ 3584) (hi : 7 * N + 7 ≤ L) (hN : N ≤ 512) (I : IV N h) (kk : ∀ g, IV (N + 1) g → ll_R p l e s m below meth c b D tC ad 1323 (ll_ls (7 * N)) [] g) : ll_R p l e s m below meth c b D tC ad 1198 (ll_ls (7 * N)) [] h := by
  obtain ⟨x, g1, g2, m1, m2, I2⟩ := st_seed 0 N h I hN (xs (7 * N + 1))
  refine ll_aload_n C dL_law_1198 rfl rfl ?_
  refine ll_arg (j := 1) C (by omega) hL rfl rfl dL_law_1199 rfl rfl dL_law_1200 rfl rfl (by decide) dL_law_1201 rfl dL_law_1202 rfl dL_law_1203 rfl ?_
  refine ll_call (Y1 := YX10_seed) (as := [.int (xs (7 * N + 1))]) C dL_law_1204 lL_116 vX10_seed rfl rfl rfl (Nat.le_of_ble_eq_true rfl) m1 (by decide) ?_
  refine ll_aload_n C dL_law_1207 rfl rfl ?_
  refine ll_arg (j := 1) C (by omega) hL rfl rfl dL_law_1208 rfl rfl dL_law_1209 rfl rfl (by decide) dL_law_1210 rfl dL_law_1211 rfl dL_law_1212 rfl ?_
  refine ll_call (Y1 := YX11_seed) (as := [.int (xs (7 * N + 1))]) C dL_law_1213 lL_119 vX11_seed rfl rfl rfl (Nat.le_of_ble_eq_true rfl) m2 (by decide) ?_
  exact ll_same 1323 C dL_law_1216 (by decide) (kk g2 I2)
theorem lc_year (C : ll_C p s m meth c b L xs D tC ad) (hL : L ≤ 3584) (hi : 7 * N + 7 ≤ L) (hN : N ≤ 512) (I : IV N h) (kk : ∀ g, IV (N + 1) g → ll_R p l e s m below meth c b D tC ad 1323 (ll_ls (7 * N)) [] g) : ll_R p l e s m below meth c b D tC ad 1221 (ll_ls (7 * N)) [] h := by
  obtain ⟨x, g1, g2, m1, m2, I2⟩ := st_year 0 N h I hN (xs (7 * N + 1)) (xs (7 * N + 2))
  refine ll_aload_n C dL_law_1221 rfl rfl ?_
  refine ll_arg (j := 1) C (by omega) hL rfl rfl dL_law_1222 rfl rfl dL_law_1223 rfl rfl (by decide) dL_law_1224 rfl dL_law_1225 rfl dL_law_1226 rfl ?_
  refine ll_arg (j := 2) C (by omega) hL rfl rfl dL_law_1227 rfl rfl dL_law_1228 rfl rfl (by decide) dL_law_1229 rfl dL_law_1230 rfl dL_law_1231 rfl ?_
  refine ll_call (Y1 := YX10_year) (as := [.int (xs (7 * N + 1)), .int (xs (7 * N + 2))]) C dL_law_1232 lL_120 vX10_year rfl rfl rfl (Nat.le_of_ble_eq_true rfl) m1 (by decide) ?_
  refine ll_aload_n C dL_law_1235 rfl rfl ?_
  refine ll_arg (j := 1) C (by omega) hL rfl rfl dL_law_1236 rfl rfl dL_law_1237 rfl rfl (by decide) dL_law_1238 rfl dL_law_1239 rfl dL_law_1240 rfl ?_
  refine ll_arg (j := 2) C (by omega) hL rfl rfl dL_law_1241 rfl rfl dL_law_1242 rfl rfl (by decide) dL_law_1243 rfl dL_law_1244 rfl dL_law_1245 rfl ?_
  refine ll_call (Y1 := YX11_year) (as := [.int (xs (7 * N + 1)), .int (xs (7 * N + 2))]) C dL_law_1246 lL_123 vX11_year rfl rfl rfl (Nat.le_of_ble_eq_true rfl) m2 (by decide) ?_
  exact ll_same 1323 C dL_law_1249 (by decide) (kk g2 I2)
theorem lc_count (C : ll_C p s m meth c b L xs D tC ad) (hL : L ≤ 3584) (hi : 7 * N + 7 ≤ L) (hN : N ≤ 512) (I : IV N h) (kk : ∀ g, IV (N + 1) g → ll_R p l e s m below meth c b D tC ad 1323 (ll_ls (7 * N)) [] g) : ll_R p l e s m below meth c b D tC ad 1254 (ll_ls (7 * N)) [] h := by
  obtain ⟨x, g1, g2, m1, m2, I2⟩ := st_count 0 N h I hN (xs (7 * N + 1))
  refine ll_aload_n C dL_law_1254 rfl rfl ?_
  refine ll_arg (j := 1) C (by omega) hL rfl rfl dL_law_1255 rfl rfl dL_law_1256 rfl rfl (by decide) dL_law_1257 rfl dL_law_1258 rfl dL_law_1259 rfl ?_
  refine ll_call (Y1 := YX10_count) (as := [.int (xs (7 * N + 1))]) C dL_law_1260 lL_124 vX10_count rfl rfl rfl (Nat.le_of_ble_eq_true rfl) m1 (by decide) ?_
  refine ll_aload_n C dL_law_1263 rfl rfl ?_
  refine ll_arg (j := 1) C (by omega) hL rfl rfl dL_law_1264 rfl rfl dL_law_1265 rfl rfl (by decide) dL_law_1266 rfl dL_law_1267 rfl dL_law_1268 rfl ?_
  refine ll_call (Y1 := YX11_count) (as := [.int (xs (7 * N + 1))]) C dL_law_1269 lL_127 vX11_count rfl rfl rfl (Nat.le_of_ble_eq_true rfl) m2 (by decide) ?_
  exact ll_same 1323 C dL_law_1272 (by decide) (kk g2 I2)
theorem lc_image (C : ll_C p s m meth c b L xs D tC ad) (hL : L ≤ 3584) (hi : 7 * N + 7 ≤ L) (hN : N ≤ 512) (I : IV N h) (kk : ∀ g, IV (N + 1) g → ll_R p l e s m below meth c b D tC ad 1323 (ll_ls (7 * N)) [] g) : ll_R p l e s m below meth c b D tC ad 1277 (ll_ls (7 * N)) [] h := by
  obtain ⟨x, g1, g2, m1, m2, I2⟩ := st_image 0 N h I hN (xs (7 * N + 1))
  refine ll_aload_n C dL_law_1277 rfl rfl ?_
  refine ll_arg (j := 1) C (by omega) hL rfl rfl dL_law_1278 rfl rfl dL_law_1279 rfl rfl (by decide) dL_law_1280 rfl dL_law_1281 rfl dL_law_1282 rfl ?_
  refine ll_call (Y1 := YX10_image) (as := [.int (xs (7 * N + 1))]) C dL_law_1283 lL_128 vX10_image rfl rfl rfl (Nat.le_of_ble_eq_true rfl) m1 (by decide) ?_
  refine ll_aload_n C dL_law_1286 rfl rfl ?_
  refine ll_arg (j := 1) C (by omega) hL rfl rfl dL_law_1287 rfl rfl dL_law_1288 rfl rfl (by decide) dL_law_1289 rfl dL_law_1290 rfl dL_law_1291 rfl ?_
  refine ll_call (Y1 := YX11_image) (as := [.int (xs (7 * N + 1))]) C dL_law_1292 lL_131 vX11_image rfl rfl rfl (Nat.le_of_ble_eq_true rfl) m2 (by decide) ?_
  exact ll_same 1323 C dL_law_1295 (by decide) (kk g2 I2)
theorem lc_back (C : ll_C p s m meth c b L xs D tC ad) (hL : L ≤ 3584) (hi : 7 * N + 7 ≤ L) (hN : N ≤ 512) (I : IV N h) (kk : ∀ g, IV (N + 1) g → ll_R p l e s m below meth c b D tC ad 1323 (ll_ls (7 * N)) [] g) : ll_R p l e s m below meth c b D tC ad 1300 (ll_ls (7 * N)) [] h := by
  obtain ⟨x, g1, g2, m1, m2, I2⟩ := st_back 0 N h I hN (xs (7 * N + 1))
  refine ll_aload_n C dL_law_1300 rfl rfl ?_
  refine ll_arg (j := 1) C (by omega) hL rfl rfl dL_law_1301 rfl rfl dL_law_1302 rfl rfl (by decide) dL_law_1303 rfl dL_law_1304 rfl dL_law_1305 rfl ?_
  refine ll_call (Y1 := YX10_back) (as := [.int (xs (7 * N + 1))]) C dL_law_1306 lL_132 vX10_back rfl rfl rfl (Nat.le_of_ble_eq_true rfl) m1 (by decide) ?_
  refine ll_aload_n C dL_law_1309 rfl rfl ?_
  refine ll_arg (j := 1) C (by omega) hL rfl rfl dL_law_1310 rfl rfl dL_law_1311 rfl rfl (by decide) dL_law_1312 rfl dL_law_1313 rfl dL_law_1314 rfl ?_
  refine ll_call (Y1 := YX11_back) (as := [.int (xs (7 * N + 1))]) C dL_law_1315 lL_135 vX11_back rfl rfl rfl (Nat.le_of_ble_eq_true rfl) m2 (by decide) ?_
  exact ll_same 1323 C dL_law_1318 (by decide) (kk g2 I2)
theorem IV_up {N : Nat} {h : mm_H} (I : IV N h) : IV (N + 1) h := by
  obtain ⟨A, LQ, nl, B, t, X, H, P, IM, G, c1, c2, c3, c4⟩ := I
  exact ⟨A, LQ, nl, B, t, X, H, P, IM, G, c1, c2, c3, by omega⟩
theorem ll_small (x : Int32) : 0 ≤ (x &&& 31).toInt ∧ (x &&& 31).toInt ≤ 31 := by
  have e1 : (x &&& 31).toBitVec.toNat = x.toBitVec.toNat % 32 := by
    rw [Int32.toBitVec_and, BitVec.toNat_and]
    exact Nat.and_two_pow_sub_one_eq_mod _ 5
  have e2 : (x &&& 31).toInt = ((x &&& 31).toBitVec.toNat : Int) := by
    show (x &&& 31).toBitVec.toInt = _
    exact BitVec.toInt_eq_toNat_of_lt (by rw [e1]; omega)
  rw [e2, e1]
  omega
theorem ll_switch {x : Int32} (C : ll_C p s m meth c b L xs D tC ad) (hL : L ≤ 3584) (hi : 7 * N + 7 ≤ L) (hN : N ≤ 512) (I : IV N h) (hx : ∃ y : Int32, y &&& 31 = x) (kk : ∀ g, IV (N + 1) g → ll_R p l e s m below meth c b D tC ad 1323 (ll_ls (7 * N)) [] g) : ll_R p l e s m below meth c b D tC ad 33 (ll_ls (7 * N)) [.int x] h := by
  obtain ⟨y, hy⟩ := hx
  have hb := ll_small y
  rw [hy] at hb
  obtain ⟨b0, b1⟩ := hb
  by_cases hz : 28 < x.toInt
  · exact ll_tableOut 1323 C dL_law_33 (Or.inr hz) (by decide) (kk h (IV_up I))
  have hk : x.toInt = 0 ∨ x.toInt = 1 ∨ x.toInt = 2 ∨ x.toInt = 3 ∨ x.toInt = 4 ∨ x.toInt = 5 ∨ x.toInt = 6 ∨ x.toInt = 7 ∨ x.toInt = 8 ∨ x.toInt = 9 ∨ x.toInt = 10 ∨ x.toInt = 11 ∨ x.toInt = 12 ∨ x.toInt = 13 ∨ x.toInt = 14 ∨ x.toInt = 15 ∨ x.toInt = 16 ∨ x.toInt = 17 ∨ x.toInt = 18 ∨ x.toInt = 19 ∨ x.toInt = 20 ∨ x.toInt = 21 ∨ x.toInt = 22 ∨ x.toInt = 23 ∨ x.toInt = 24 ∨ x.toInt = 25 ∨ x.toInt = 26 ∨ x.toInt = 27 ∨ x.toInt = 28 := by omega
  rcases hk with hq | hq | hq | hq | hq | hq | hq | hq | hq | hq | hq | hq | hq | hq | hq | hq | hq | hq | hq | hq | hq | hq | hq | hq | hq | hq | hq | hq | hq
  · exact ll_tableIn 164 C dL_law_33 (by omega) (by omega) (by rw [hq]; rfl) (by decide) (lc_feed C hL hi hN I kk)
  · exact ll_tableIn 227 C dL_law_33 (by omega) (by omega) (by rw [hq]; rfl) (by decide) (lc_end C hL hi hN I kk)
  · exact ll_tableIn 250 C dL_law_33 (by omega) (by omega) (by rw [hq]; rfl) (by decide) (lc_mint C hL hi hN I kk)
  · exact ll_tableIn 263 C dL_law_33 (by omega) (by omega) (by rw [hq]; rfl) (by decide) (lc_law C hL hi hN I kk)
  · exact ll_tableIn 276 C dL_law_33 (by omega) (by omega) (by rw [hq]; rfl) (by decide) (lc_coin C hL hi hN I kk)
  · exact ll_tableIn 309 C dL_law_33 (by omega) (by omega) (by rw [hq]; rfl) (by decide) (lc_counter C hL hi hN I kk)
  · exact ll_tableIn 342 C dL_law_33 (by omega) (by omega) (by rw [hq]; rfl) (by decide) (lc_give C hL hi hN I kk)
  · exact ll_tableIn 375 C dL_law_33 (by omega) (by omega) (by rw [hq]; rfl) (by decide) (lc_retune C hL hi hN I kk)
  · exact ll_tableIn 408 C dL_law_33 (by omega) (by omega) (by rw [hq]; rfl) (by decide) (lc_fall C hL hi hN I kk)
  · exact ll_tableIn 431 C dL_law_33 (by omega) (by omega) (by rw [hq]; rfl) (by decide) (lc_sounds C hL hi hN I kk)
  · exact ll_tableIn 494 C dL_law_33 (by omega) (by omega) (by rw [hq]; rfl) (by decide) (lc_tone C hL hi hN I kk)
  · exact ll_tableIn 557 C dL_law_33 (by omega) (by omega) (by rw [hq]; rfl) (by decide) (lc_tones C hL hi hN I kk)
  · exact ll_tableIn 600 C dL_law_33 (by omega) (by omega) (by rw [hq]; rfl) (by decide) (lc_alike C hL hi hN I kk)
  · exact ll_tableIn 653 C dL_law_33 (by omega) (by omega) (by rw [hq]; rfl) (by decide) (lc_hear C hL hi hN I kk)
  · exact ll_tableIn 676 C dL_law_33 (by omega) (by omega) (by rw [hq]; rfl) (by decide) (lc_fits C hL hi hN I kk)
  · exact ll_tableIn 729 C dL_law_33 (by omega) (by omega) (by rw [hq]; rfl) (by decide) (lc_mistaken C hL hi hN I kk)
  · exact ll_tableIn 792 C dL_law_33 (by omega) (by omega) (by rw [hq]; rfl) (by decide) (lc_pay C hL hi hN I kk)
  · exact ll_tableIn 867 C dL_law_33 (by omega) (by omega) (by rw [hq]; rfl) (by decide) (lc_done C hL hi hN I kk)
  · exact ll_tableIn 930 C dL_law_33 (by omega) (by omega) (by rw [hq]; rfl) (by decide) (lc_prices C hL hi hN I kk)
  · exact ll_tableIn 993 C dL_law_33 (by omega) (by omega) (by rw [hq]; rfl) (by decide) (lc_bestCounter C hL hi hN I kk)
  · exact ll_tableIn 1046 C dL_law_33 (by omega) (by omega) (by rw [hq]; rfl) (by decide) (lc_payment C hL hi hN I kk)
  · exact ll_tableIn 1079 C dL_law_33 (by omega) (by omega) (by rw [hq]; rfl) (by decide) (lc_rounds C hL hi hN I kk)
  · exact ll_tableIn 1112 C dL_law_33 (by omega) (by omega) (by rw [hq]; rfl) (by decide) (lc_land C hL hi hN I kk)
  · exact ll_tableIn 1165 C dL_law_33 (by omega) (by omega) (by rw [hq]; rfl) (by decide) (lc_forger C hL hi hN I kk)
  · exact ll_tableIn 1198 C dL_law_33 (by omega) (by omega) (by rw [hq]; rfl) (by decide) (lc_seed C hL hi hN I kk)
  · exact ll_tableIn 1221 C dL_law_33 (by omega) (by omega) (by rw [hq]; rfl) (by decide) (lc_year C hL hi hN I kk)
  · exact ll_tableIn 1254 C dL_law_33 (by omega) (by omega) (by rw [hq]; rfl) (by decide) (lc_count C hL hi hN I kk)
  · exact ll_tableIn 1277 C dL_law_33 (by omega) (by omega) (by rw [hq]; rfl) (by decide) (lc_image C hL hi hN I kk)
  · exact ll_tableIn 1300 C dL_law_33 (by omega) (by omega) (by rw [hq]; rfl) (by decide) (lc_back C hL hi hN I kk)
theorem ll_add7 (N : Nat) : nI (7 * N) + Int32.ofInt 7 = nI (7 * (N + 1)) := by
  rw [show 7 * (N + 1) = 7 * N + 7 by omega, ← nI_add]; rfl
theorem ll_sub7 {L : Nat} (h : 7 ≤ L) : nI (L - 7) = nI L - 7 := by
  have e : nI (L - 7) + nI 7 = nI L := by rw [nI_add, show L - 7 + 7 = L by omega]
  rw [← e, show nI 7 = (7 : Int32) from rfl, Int32.add_sub_cancel]
theorem ll_gt7 {N L : Nat} (hL : L ≤ 3584) (h : L < 7 * N + 7 ∧ 7 * N ≤ L + 6) : nI L - 7 < nI (7 * N) := by
  by_cases h7 : 7 ≤ L
  · rw [← ll_sub7 h7]
    exact nI_lt (by omega) (by omega)
  · have h0 : N = 0 ∨ N = 1 := by omega
    have hl : L = 0 ∨ L = 1 ∨ L = 2 ∨ L = 3 ∨ L = 4 ∨ L = 5 ∨ L = 6 := by omega
    rcases h0 with rfl | rfl <;> rcases hl with rfl | rfl | rfl | rfl | rfl | rfl | rfl <;> decide
theorem ll_loop (C : ll_C p s m meth c b L xs D tC ad) (hL : L ≤ 3584) : ∀ (r N : Nat) (h : mm_H), N + r = 513 → IV N h → 7 * N ≤ L + 6 → ll_R p l e s m below meth c b D tC ad 18 (ll_ls (7 * N)) [] h := by
  intro r
  induction r with
  | zero =>
    intro N h hr I hle
    exfalso
    omega
  | succ r ih =>
    intro N h hr I hle
    refine ll_iload_n C dL_law_18 rfl rfl ?_
    refine ll_aload_n C dL_law_19 rfl rfl ?_
    refine ll_slen C dL_law_20 ?_
    refine ll_bipush (x := 7) C dL_law_21 (by decide) ?_
    refine ll_isub (z := nI L - 7) C dL_law_23 rfl ?_
    by_cases hlt : 7 * N + 7 ≤ L
    · refine ll_icmp_gt 1329 C dL_law_24 (by decide) (fun z => ?_) (fun _ => ?_)
      · exfalso
        have e1 : nI L - 7 = nI (L - 7) := (ll_sub7 (by omega)).symm
        rw [e1] at z
        exact absurd z (Int32.not_lt.mpr (nI_le (by omega) (by omega)))
      · refine ll_aload_n C dL_law_27 rfl rfl ?_
        refine ll_iload_n C dL_law_28 rfl rfl ?_
        refine ll_sld C (by omega) hL dL_law_29 ?_
        refine ll_bipush (x := 31) C dL_law_30 (by decide) ?_
        refine ll_iand (z := xs (7 * N) &&& 31) C dL_law_32 rfl ?_
        refine ll_switch C hL hlt (by omega) I ⟨_, rfl⟩ (fun g I2 => ?_)
        refine ll_iinc (y := nI (7 * (N + 1))) C dL_law_1323 rfl (ll_add7 N) rfl ?_
        refine ll_goto 18 C dL_law_1326 (by decide) ?_
        exact ih (N + 1) g (by omega) I2 (by omega)
    · refine ll_icmp_gt 1329 C dL_law_24 (by decide) (fun _ => ll_end C) (fun z => ?_)
      exfalso
      exact z (ll_gt7 (by omega) (by omega))
end LLC

section LC
variable {l : Launch} {p : Program} {e : Env} {s : State} {m : MethodId} {below : List Frame} {meth : Method} {c : Code} {b L : Nat} {xs : Nat → Int32} {D : va_G} {cA : ClassId} {ad : Nat → Nat} {S : qS} {i : Nat}
theorem law_c0 (C : l_C p s m meth c b L xs D cA) (h : Rl S S) (hi : i + 6 ≤ L) (kk : ∀ S2, Rl S2 S2 → l_E l p e s m below meth c b D cA ad S2 1258 (nI i) []) : l_E l p e s m below meth c b D cA ad S 168 (nI i) [] := by
  obtain ⟨r, S1, S2, e1, e2, hR⟩ := w_pass h (xs (i + 1))
  refine l_x C dL_law_168 ?_
  refine l_arg (j := 1) C (by omega) (by decide) dL_law_169 dL_law_170 dL_law_171 dL_law_172 dL_law_173 ?_
  refine l_call (As := [.inl (xs (i + 1))]) (rest := []) C dL_law_174 cl_L_13 rfl rfl (Nat.le_of_ble_eq_true rfl) (sX8_pass (by omega) e1 ?_)
  refine l_m C dL_law_177 ?_
  refine l_arg (j := 1) C (by omega) (by decide) dL_law_178 dL_law_179 dL_law_180 dL_law_181 dL_law_182 ?_
  refine l_call (As := [.inl (xs (i + 1))]) (rest := [.int r]) C dL_law_183 cl_L_17 rfl rfl (Nat.le_of_ble_eq_true rfl) (sX9_pass (by omega) e2 ?_)
  refine l_eq 1258 C dL_law_186 (by decide) ?_
  exact kk S2 hR
theorem law_c1 (C : l_C p s m meth c b L xs D cA) (h : Rl S S) (hi : i + 6 ≤ L) (kk : ∀ S2, Rl S2 S2 → l_E l p e s m below meth c b D cA ad S2 1258 (nI i) []) : l_E l p e s m below meth c b D cA ad S 191 (nI i) [] := by
  obtain ⟨r, e1, e2⟩ := o_time h 
  refine l_x C dL_law_191 ?_
  refine l_call (As := []) (rest := []) C dL_law_192 cl_L_18 rfl rfl (Nat.le_of_ble_eq_true rfl) (sX8_time (by omega) e1 ?_)
  refine l_m C dL_law_195 ?_
  refine l_call (As := []) (rest := [.int r]) C dL_law_196 cl_L_22 rfl rfl (Nat.le_of_ble_eq_true rfl) (sX9_time (by omega) e2 ?_)
  refine l_eq 1258 C dL_law_199 (by decide) ?_
  exact kk S h
theorem law_c2 (C : l_C p s m meth c b L xs D cA) (h : Rl S S) (hi : i + 6 ≤ L) (kk : ∀ S2, Rl S2 S2 → l_E l p e s m below meth c b D cA ad S2 1258 (nI i) []) : l_E l p e s m below meth c b D cA ad S 204 (nI i) [] := by
  obtain ⟨r, S1, S2, e1, e2, hR⟩ := w_addNet h (xs (i + 1)) (xs (i + 2)) (xs (i + 3))
  refine l_x C dL_law_204 ?_
  refine l_arg (j := 1) C (by omega) (by decide) dL_law_205 dL_law_206 dL_law_207 dL_law_208 dL_law_209 ?_
  refine l_arg (j := 2) C (by omega) (by decide) dL_law_210 dL_law_211 dL_law_212 dL_law_213 dL_law_214 ?_
  refine l_arg (j := 3) C (by omega) (by decide) dL_law_215 dL_law_216 dL_law_217 dL_law_218 dL_law_219 ?_
  refine l_call (As := [.inl (xs (i + 1)), .inl (xs (i + 2)), .inl (xs (i + 3))]) (rest := []) C dL_law_220 cl_L_23 rfl rfl (Nat.le_of_ble_eq_true rfl) (sX8_addNet (by omega) e1 ?_)
  refine l_m C dL_law_223 ?_
  refine l_arg (j := 1) C (by omega) (by decide) dL_law_224 dL_law_225 dL_law_226 dL_law_227 dL_law_228 ?_
  refine l_arg (j := 2) C (by omega) (by decide) dL_law_229 dL_law_230 dL_law_231 dL_law_232 dL_law_233 ?_
  refine l_arg (j := 3) C (by omega) (by decide) dL_law_234 dL_law_235 dL_law_236 dL_law_237 dL_law_238 ?_
  refine l_call (As := [.inl (xs (i + 1)), .inl (xs (i + 2)), .inl (xs (i + 3))]) (rest := [.int r]) C dL_law_239 cl_L_27 rfl rfl (Nat.le_of_ble_eq_true rfl) (sX9_addNet (by omega) e2 ?_)
  refine l_eq 1258 C dL_law_242 (by decide) ?_
  exact kk S2 hR
theorem law_c3 (C : l_C p s m meth c b L xs D cA) (h : Rl S S) (hi : i + 6 ≤ L) (kk : ∀ S2, Rl S2 S2 → l_E l p e s m below meth c b D cA ad S2 1258 (nI i) []) : l_E l p e s m below meth c b D cA ad S 247 (nI i) [] := by
  obtain ⟨r, S1, S2, e1, e2, hR⟩ := w_removeNet h (xs (i + 1))
  refine l_x C dL_law_247 ?_
  refine l_arg (j := 1) C (by omega) (by decide) dL_law_248 dL_law_249 dL_law_250 dL_law_251 dL_law_252 ?_
  refine l_call (As := [.inl (xs (i + 1))]) (rest := []) C dL_law_253 cl_L_28 rfl rfl (Nat.le_of_ble_eq_true rfl) (sX8_removeNet (by omega) e1 ?_)
  refine l_m C dL_law_256 ?_
  refine l_arg (j := 1) C (by omega) (by decide) dL_law_257 dL_law_258 dL_law_259 dL_law_260 dL_law_261 ?_
  refine l_call (As := [.inl (xs (i + 1))]) (rest := [.int r]) C dL_law_262 cl_L_31 rfl rfl (Nat.le_of_ble_eq_true rfl) (sX9_removeNet (by omega) e2 ?_)
  refine l_eq 1258 C dL_law_265 (by decide) ?_
  exact kk S2 hR
theorem law_c4 (C : l_C p s m meth c b L xs D cA) (h : Rl S S) (hi : i + 6 ≤ L) (kk : ∀ S2, Rl S2 S2 → l_E l p e s m below meth c b D cA ad S2 1258 (nI i) []) : l_E l p e s m below meth c b D cA ad S 270 (nI i) [] := by
  obtain ⟨r, e1, e2⟩ := o_viewOf h (xs (i + 1)) (xs (i + 2))
  refine l_x C dL_law_270 ?_
  refine l_arg (j := 1) C (by omega) (by decide) dL_law_271 dL_law_272 dL_law_273 dL_law_274 dL_law_275 ?_
  refine l_arg (j := 2) C (by omega) (by decide) dL_law_276 dL_law_277 dL_law_278 dL_law_279 dL_law_280 ?_
  refine l_call (As := [.inl (xs (i + 1)), .inl (xs (i + 2))]) (rest := []) C dL_law_281 cl_L_32 rfl rfl (Nat.le_of_ble_eq_true rfl) (sX8_viewOf (by omega) e1 ?_)
  refine l_m C dL_law_284 ?_
  refine l_arg (j := 1) C (by omega) (by decide) dL_law_285 dL_law_286 dL_law_287 dL_law_288 dL_law_289 ?_
  refine l_arg (j := 2) C (by omega) (by decide) dL_law_290 dL_law_291 dL_law_292 dL_law_293 dL_law_294 ?_
  refine l_call (As := [.inl (xs (i + 1)), .inl (xs (i + 2))]) (rest := [.int r]) C dL_law_295 cl_L_36 rfl rfl (Nat.le_of_ble_eq_true rfl) (sX9_viewOf (by omega) e2 ?_)
  refine l_eq 1258 C dL_law_298 (by decide) ?_
  exact kk S h
theorem law_c5 (C : l_C p s m meth c b L xs D cA) (h : Rl S S) (hi : i + 6 ≤ L) (kk : ∀ S2, Rl S2 S2 → l_E l p e s m below meth c b D cA ad S2 1258 (nI i) []) : l_E l p e s m below meth c b D cA ad S 303 (nI i) [] := by
  obtain ⟨r, S1, S2, e1, e2, hR⟩ := w_addZone h (xs (i + 1)) (xs (i + 2))
  refine l_x C dL_law_303 ?_
  refine l_arg (j := 1) C (by omega) (by decide) dL_law_304 dL_law_305 dL_law_306 dL_law_307 dL_law_308 ?_
  refine l_arg (j := 2) C (by omega) (by decide) dL_law_309 dL_law_310 dL_law_311 dL_law_312 dL_law_313 ?_
  refine l_call (As := [.inl (xs (i + 1)), .inl (xs (i + 2))]) (rest := []) C dL_law_314 cl_L_37 rfl rfl (Nat.le_of_ble_eq_true rfl) (sX8_addZone (by omega) e1 ?_)
  refine l_m C dL_law_317 ?_
  refine l_arg (j := 1) C (by omega) (by decide) dL_law_318 dL_law_319 dL_law_320 dL_law_321 dL_law_322 ?_
  refine l_arg (j := 2) C (by omega) (by decide) dL_law_323 dL_law_324 dL_law_325 dL_law_326 dL_law_327 ?_
  refine l_call (As := [.inl (xs (i + 1)), .inl (xs (i + 2))]) (rest := [.int r]) C dL_law_328 cl_L_40 rfl rfl (Nat.le_of_ble_eq_true rfl) (sX9_addZone (by omega) e2 ?_)
  refine l_eq 1258 C dL_law_331 (by decide) ?_
  exact kk S2 hR
theorem law_c6 (C : l_C p s m meth c b L xs D cA) (h : Rl S S) (hi : i + 6 ≤ L) (kk : ∀ S2, Rl S2 S2 → l_E l p e s m below meth c b D cA ad S2 1258 (nI i) []) : l_E l p e s m below meth c b D cA ad S 336 (nI i) [] := by
  obtain ⟨r, S1, S2, e1, e2, hR⟩ := w_removeZone h (xs (i + 1))
  refine l_x C dL_law_336 ?_
  refine l_arg (j := 1) C (by omega) (by decide) dL_law_337 dL_law_338 dL_law_339 dL_law_340 dL_law_341 ?_
  refine l_call (As := [.inl (xs (i + 1))]) (rest := []) C dL_law_342 cl_L_41 rfl rfl (Nat.le_of_ble_eq_true rfl) (sX8_removeZone (by omega) e1 ?_)
  refine l_m C dL_law_345 ?_
  refine l_arg (j := 1) C (by omega) (by decide) dL_law_346 dL_law_347 dL_law_348 dL_law_349 dL_law_350 ?_
  refine l_call (As := [.inl (xs (i + 1))]) (rest := [.int r]) C dL_law_351 cl_L_44 rfl rfl (Nat.le_of_ble_eq_true rfl) (sX9_removeZone (by omega) e2 ?_)
  refine l_eq 1258 C dL_law_354 (by decide) ?_
  exact kk S2 hR
theorem law_c7 (C : l_C p s m meth c b L xs D cA) (h : Rl S S) (hi : i + 6 ≤ L) (kk : ∀ S2, Rl S2 S2 → l_E l p e s m below meth c b D cA ad S2 1258 (nI i) []) : l_E l p e s m below meth c b D cA ad S 359 (nI i) [] := by
  obtain ⟨r, e1, e2⟩ := o_zoneInfo h (xs (i + 1)) (xs (i + 2))
  refine l_x C dL_law_359 ?_
  refine l_arg (j := 1) C (by omega) (by decide) dL_law_360 dL_law_361 dL_law_362 dL_law_363 dL_law_364 ?_
  refine l_arg (j := 2) C (by omega) (by decide) dL_law_365 dL_law_366 dL_law_367 dL_law_368 dL_law_369 ?_
  refine l_call (As := [.inl (xs (i + 1)), .inl (xs (i + 2))]) (rest := []) C dL_law_370 cl_L_45 rfl rfl (Nat.le_of_ble_eq_true rfl) (sX8_zoneInfo (by omega) e1 ?_)
  refine l_m C dL_law_373 ?_
  refine l_arg (j := 1) C (by omega) (by decide) dL_law_374 dL_law_375 dL_law_376 dL_law_377 dL_law_378 ?_
  refine l_arg (j := 2) C (by omega) (by decide) dL_law_379 dL_law_380 dL_law_381 dL_law_382 dL_law_383 ?_
  refine l_call (As := [.inl (xs (i + 1)), .inl (xs (i + 2))]) (rest := [.int r]) C dL_law_384 cl_L_48 rfl rfl (Nat.le_of_ble_eq_true rfl) (sX9_zoneInfo (by omega) e2 ?_)
  refine l_eq 1258 C dL_law_387 (by decide) ?_
  exact kk S h
theorem law_c8 (C : l_C p s m meth c b L xs D cA) (h : Rl S S) (hi : i + 6 ≤ L) (kk : ∀ S2, Rl S2 S2 → l_E l p e s m below meth c b D cA ad S2 1258 (nI i) []) : l_E l p e s m below meth c b D cA ad S 392 (nI i) [] := by
  obtain ⟨r, e1, e2⟩ := o_count h (xs (i + 1))
  refine l_x C dL_law_392 ?_
  refine l_arg (j := 1) C (by omega) (by decide) dL_law_393 dL_law_394 dL_law_395 dL_law_396 dL_law_397 ?_
  refine l_call (As := [.inl (xs (i + 1))]) (rest := []) C dL_law_398 cl_L_49 rfl rfl (Nat.le_of_ble_eq_true rfl) (sX8_count (by omega) e1 ?_)
  refine l_m C dL_law_401 ?_
  refine l_arg (j := 1) C (by omega) (by decide) dL_law_402 dL_law_403 dL_law_404 dL_law_405 dL_law_406 ?_
  refine l_call (As := [.inl (xs (i + 1))]) (rest := [.int r]) C dL_law_407 cl_L_52 rfl rfl (Nat.le_of_ble_eq_true rfl) (sX9_count (by omega) e2 ?_)
  refine l_eq 1258 C dL_law_410 (by decide) ?_
  exact kk S h
theorem law_c9 (C : l_C p s m meth c b L xs D cA) (h : Rl S S) (hi : i + 6 ≤ L) (kk : ∀ S2, Rl S2 S2 → l_E l p e s m below meth c b D cA ad S2 1258 (nI i) []) : l_E l p e s m below meth c b D cA ad S 415 (nI i) [] := by
  obtain ⟨r, S1, S2, e1, e2, hR⟩ := w_set h (xs (i + 1)) (xs (i + 2)) (xs (i + 3)) (xs (i + 4))
  refine l_x C dL_law_415 ?_
  refine l_arg (j := 1) C (by omega) (by decide) dL_law_416 dL_law_417 dL_law_418 dL_law_419 dL_law_420 ?_
  refine l_arg (j := 2) C (by omega) (by decide) dL_law_421 dL_law_422 dL_law_423 dL_law_424 dL_law_425 ?_
  refine l_arg (j := 3) C (by omega) (by decide) dL_law_426 dL_law_427 dL_law_428 dL_law_429 dL_law_430 ?_
  refine l_arg (j := 4) C (by omega) (by decide) dL_law_431 dL_law_432 dL_law_433 dL_law_434 dL_law_435 ?_
  refine l_call (As := [.inl (xs (i + 1)), .inl (xs (i + 2)), .inl (xs (i + 3)), .inl (xs (i + 4))]) (rest := []) C dL_law_436 cl_L_53 rfl rfl (Nat.le_of_ble_eq_true rfl) (sX8_set (by omega) e1 ?_)
  refine l_m C dL_law_439 ?_
  refine l_arg (j := 1) C (by omega) (by decide) dL_law_440 dL_law_441 dL_law_442 dL_law_443 dL_law_444 ?_
  refine l_arg (j := 2) C (by omega) (by decide) dL_law_445 dL_law_446 dL_law_447 dL_law_448 dL_law_449 ?_
  refine l_arg (j := 3) C (by omega) (by decide) dL_law_450 dL_law_451 dL_law_452 dL_law_453 dL_law_454 ?_
  refine l_arg (j := 4) C (by omega) (by decide) dL_law_455 dL_law_456 dL_law_457 dL_law_458 dL_law_459 ?_
  refine l_call (As := [.inl (xs (i + 1)), .inl (xs (i + 2)), .inl (xs (i + 3)), .inl (xs (i + 4))]) (rest := [.int r]) C dL_law_460 cl_L_57 rfl rfl (Nat.le_of_ble_eq_true rfl) (sX9_set (by omega) e2 ?_)
  refine l_eq 1258 C dL_law_463 (by decide) ?_
  exact kk S2 hR
theorem law_c10 (C : l_C p s m meth c b L xs D cA) (h : Rl S S) (hi : i + 6 ≤ L) (kk : ∀ S2, Rl S2 S2 → l_E l p e s m below meth c b D cA ad S2 1258 (nI i) []) : l_E l p e s m below meth c b D cA ad S 468 (nI i) [] := by
  obtain ⟨r, S1, S2, e1, e2, hR⟩ := w_clear h (xs (i + 1)) (xs (i + 2)) (xs (i + 3))
  refine l_x C dL_law_468 ?_
  refine l_arg (j := 1) C (by omega) (by decide) dL_law_469 dL_law_470 dL_law_471 dL_law_472 dL_law_473 ?_
  refine l_arg (j := 2) C (by omega) (by decide) dL_law_474 dL_law_475 dL_law_476 dL_law_477 dL_law_478 ?_
  refine l_arg (j := 3) C (by omega) (by decide) dL_law_479 dL_law_480 dL_law_481 dL_law_482 dL_law_483 ?_
  refine l_call (As := [.inl (xs (i + 1)), .inl (xs (i + 2)), .inl (xs (i + 3))]) (rest := []) C dL_law_484 cl_L_58 rfl rfl (Nat.le_of_ble_eq_true rfl) (sX8_clear (by omega) e1 ?_)
  refine l_m C dL_law_487 ?_
  refine l_arg (j := 1) C (by omega) (by decide) dL_law_488 dL_law_489 dL_law_490 dL_law_491 dL_law_492 ?_
  refine l_arg (j := 2) C (by omega) (by decide) dL_law_493 dL_law_494 dL_law_495 dL_law_496 dL_law_497 ?_
  refine l_arg (j := 3) C (by omega) (by decide) dL_law_498 dL_law_499 dL_law_500 dL_law_501 dL_law_502 ?_
  refine l_call (As := [.inl (xs (i + 1)), .inl (xs (i + 2)), .inl (xs (i + 3))]) (rest := [.int r]) C dL_law_503 cl_L_61 rfl rfl (Nat.le_of_ble_eq_true rfl) (sX9_clear (by omega) e2 ?_)
  refine l_eq 1258 C dL_law_506 (by decide) ?_
  exact kk S2 hR
theorem law_c11 (C : l_C p s m meth c b L xs D cA) (h : Rl S S) (hi : i + 6 ≤ L) (kk : ∀ S2, Rl S2 S2 → l_E l p e s m below meth c b D cA ad S2 1258 (nI i) []) : l_E l p e s m below meth c b D cA ad S 511 (nI i) [] := by
  obtain ⟨r, e1, e2⟩ := o_record h (xs (i + 1)) (xs (i + 2)) (xs (i + 3)) (xs (i + 4))
  refine l_x C dL_law_511 ?_
  refine l_arg (j := 1) C (by omega) (by decide) dL_law_512 dL_law_513 dL_law_514 dL_law_515 dL_law_516 ?_
  refine l_arg (j := 2) C (by omega) (by decide) dL_law_517 dL_law_518 dL_law_519 dL_law_520 dL_law_521 ?_
  refine l_arg (j := 3) C (by omega) (by decide) dL_law_522 dL_law_523 dL_law_524 dL_law_525 dL_law_526 ?_
  refine l_arg (j := 4) C (by omega) (by decide) dL_law_527 dL_law_528 dL_law_529 dL_law_530 dL_law_531 ?_
  refine l_call (As := [.inl (xs (i + 1)), .inl (xs (i + 2)), .inl (xs (i + 3)), .inl (xs (i + 4))]) (rest := []) C dL_law_532 cl_L_62 rfl rfl (Nat.le_of_ble_eq_true rfl) (sX8_record (by omega) e1 ?_)
  refine l_m C dL_law_535 ?_
  refine l_arg (j := 1) C (by omega) (by decide) dL_law_536 dL_law_537 dL_law_538 dL_law_539 dL_law_540 ?_
  refine l_arg (j := 2) C (by omega) (by decide) dL_law_541 dL_law_542 dL_law_543 dL_law_544 dL_law_545 ?_
  refine l_arg (j := 3) C (by omega) (by decide) dL_law_546 dL_law_547 dL_law_548 dL_law_549 dL_law_550 ?_
  refine l_arg (j := 4) C (by omega) (by decide) dL_law_551 dL_law_552 dL_law_553 dL_law_554 dL_law_555 ?_
  refine l_call (As := [.inl (xs (i + 1)), .inl (xs (i + 2)), .inl (xs (i + 3)), .inl (xs (i + 4))]) (rest := [.int r]) C dL_law_556 cl_L_65 rfl rfl (Nat.le_of_ble_eq_true rfl) (sX9_record (by omega) e2 ?_)
  refine l_eq 1258 C dL_law_559 (by decide) ?_
  exact kk S h
theorem law_c12 (C : l_C p s m meth c b L xs D cA) (h : Rl S S) (hi : i + 6 ≤ L) (kk : ∀ S2, Rl S2 S2 → l_E l p e s m below meth c b D cA ad S2 1258 (nI i) []) : l_E l p e s m below meth c b D cA ad S 564 (nI i) [] := by
  obtain ⟨r, e1, e2⟩ := o_serial h (xs (i + 1)) (xs (i + 2))
  refine l_x C dL_law_564 ?_
  refine l_arg (j := 1) C (by omega) (by decide) dL_law_565 dL_law_566 dL_law_567 dL_law_568 dL_law_569 ?_
  refine l_arg (j := 2) C (by omega) (by decide) dL_law_570 dL_law_571 dL_law_572 dL_law_573 dL_law_574 ?_
  refine l_call (As := [.inl (xs (i + 1)), .inl (xs (i + 2))]) (rest := []) C dL_law_575 cl_L_66 rfl rfl (Nat.le_of_ble_eq_true rfl) (sX8_serial (by omega) e1 ?_)
  refine l_m C dL_law_578 ?_
  refine l_arg (j := 1) C (by omega) (by decide) dL_law_579 dL_law_580 dL_law_581 dL_law_582 dL_law_583 ?_
  refine l_arg (j := 2) C (by omega) (by decide) dL_law_584 dL_law_585 dL_law_586 dL_law_587 dL_law_588 ?_
  refine l_call (As := [.inl (xs (i + 1)), .inl (xs (i + 2))]) (rest := [.int r]) C dL_law_589 cl_L_69 rfl rfl (Nat.le_of_ble_eq_true rfl) (sX9_serial (by omega) e2 ?_)
  refine l_eq 1258 C dL_law_592 (by decide) ?_
  exact kk S h
theorem law_c13 (C : l_C p s m meth c b L xs D cA) (h : Rl S S) (hi : i + 6 ≤ L) (kk : ∀ S2, Rl S2 S2 → l_E l p e s m below meth c b D cA ad S2 1258 (nI i) []) : l_E l p e s m below meth c b D cA ad S 597 (nI i) [] := by
  obtain ⟨r, e1, e2⟩ := o_change h (xs (i + 1)) (xs (i + 2)) (xs (i + 3))
  refine l_x C dL_law_597 ?_
  refine l_arg (j := 1) C (by omega) (by decide) dL_law_598 dL_law_599 dL_law_600 dL_law_601 dL_law_602 ?_
  refine l_arg (j := 2) C (by omega) (by decide) dL_law_603 dL_law_604 dL_law_605 dL_law_606 dL_law_607 ?_
  refine l_arg (j := 3) C (by omega) (by decide) dL_law_608 dL_law_609 dL_law_610 dL_law_611 dL_law_612 ?_
  refine l_call (As := [.inl (xs (i + 1)), .inl (xs (i + 2)), .inl (xs (i + 3))]) (rest := []) C dL_law_613 cl_L_70 rfl rfl (Nat.le_of_ble_eq_true rfl) (sX8_change (by omega) e1 ?_)
  refine l_m C dL_law_616 ?_
  refine l_arg (j := 1) C (by omega) (by decide) dL_law_617 dL_law_618 dL_law_619 dL_law_620 dL_law_621 ?_
  refine l_arg (j := 2) C (by omega) (by decide) dL_law_622 dL_law_623 dL_law_624 dL_law_625 dL_law_626 ?_
  refine l_arg (j := 3) C (by omega) (by decide) dL_law_627 dL_law_628 dL_law_629 dL_law_630 dL_law_631 ?_
  refine l_call (As := [.inl (xs (i + 1)), .inl (xs (i + 2)), .inl (xs (i + 3))]) (rest := [.int r]) C dL_law_632 cl_L_73 rfl rfl (Nat.le_of_ble_eq_true rfl) (sX9_change (by omega) e2 ?_)
  refine l_eq 1258 C dL_law_635 (by decide) ?_
  exact kk S h
theorem law_c14 (C : l_C p s m meth c b L xs D cA) (h : Rl S S) (hi : i + 6 ≤ L) (kk : ∀ S2, Rl S2 S2 → l_E l p e s m below meth c b D cA ad S2 1258 (nI i) []) : l_E l p e s m below meth c b D cA ad S 640 (nI i) [] := by
  obtain ⟨r, S1, S2, e1, e2, hR⟩ := w_lay h (xs (i + 1))
  refine l_x C dL_law_640 ?_
  refine l_arg (j := 1) C (by omega) (by decide) dL_law_641 dL_law_642 dL_law_643 dL_law_644 dL_law_645 ?_
  refine l_call (As := [.inl (xs (i + 1))]) (rest := []) C dL_law_646 cl_L_74 rfl rfl (Nat.le_of_ble_eq_true rfl) (sX8_lay (by omega) e1 ?_)
  refine l_m C dL_law_649 ?_
  refine l_arg (j := 1) C (by omega) (by decide) dL_law_650 dL_law_651 dL_law_652 dL_law_653 dL_law_654 ?_
  refine l_call (As := [.inl (xs (i + 1))]) (rest := [.int r]) C dL_law_655 cl_L_77 rfl rfl (Nat.le_of_ble_eq_true rfl) (sX9_lay (by omega) e2 ?_)
  refine l_eq 1258 C dL_law_658 (by decide) ?_
  exact kk S2 hR
theorem law_c15 (C : l_C p s m meth c b L xs D cA) (h : Rl S S) (hi : i + 6 ≤ L) (kk : ∀ S2, Rl S2 S2 → l_E l p e s m below meth c b D cA ad S2 1258 (nI i) []) : l_E l p e s m below meth c b D cA ad S 663 (nI i) [] := by
  obtain ⟨r, S2, e1, e2, hs⟩ := o_answer h (xs (i + 1)) (xs (i + 2)) (xs (i + 3)) (xs (i + 4))
  refine l_x C dL_law_663 ?_
  refine l_arg (j := 1) C (by omega) (by decide) dL_law_664 dL_law_665 dL_law_666 dL_law_667 dL_law_668 ?_
  refine l_arg (j := 2) C (by omega) (by decide) dL_law_669 dL_law_670 dL_law_671 dL_law_672 dL_law_673 ?_
  refine l_arg (j := 3) C (by omega) (by decide) dL_law_674 dL_law_675 dL_law_676 dL_law_677 dL_law_678 ?_
  refine l_arg (j := 4) C (by omega) (by decide) dL_law_679 dL_law_680 dL_law_681 dL_law_682 dL_law_683 ?_
  refine l_call (As := [.inl (xs (i + 1)), .inl (xs (i + 2)), .inl (xs (i + 3)), .inl (xs (i + 4))]) (rest := []) C dL_law_684 cl_L_78 rfl rfl (Nat.le_of_ble_eq_true rfl) (sX8_answer (by omega) e1 ?_)
  refine l_m C dL_law_687 ?_
  refine l_arg (j := 1) C (by omega) (by decide) dL_law_688 dL_law_689 dL_law_690 dL_law_691 dL_law_692 ?_
  refine l_arg (j := 2) C (by omega) (by decide) dL_law_693 dL_law_694 dL_law_695 dL_law_696 dL_law_697 ?_
  refine l_arg (j := 3) C (by omega) (by decide) dL_law_698 dL_law_699 dL_law_700 dL_law_701 dL_law_702 ?_
  refine l_arg (j := 4) C (by omega) (by decide) dL_law_703 dL_law_704 dL_law_705 dL_law_706 dL_law_707 ?_
  refine l_call (As := [.inl (xs (i + 1)), .inl (xs (i + 2)), .inl (xs (i + 3)), .inl (xs (i + 4))]) (rest := [.int r]) C dL_law_708 cl_L_81 rfl rfl (Nat.le_of_ble_eq_true rfl) (sX9_answer (by omega) e2 ?_)
  refine l_eq 1258 C dL_law_711 (by decide) ?_
  exact kk S2 ((h.scr hs).lo hs.lo)
theorem law_c16 (C : l_C p s m meth c b L xs D cA) (h : Rl S S) (hi : i + 6 ≤ L) (kk : ∀ S2, Rl S2 S2 → l_E l p e s m below meth c b D cA ad S2 1258 (nI i) []) : l_E l p e s m below meth c b D cA ad S 716 (nI i) [] := by
  obtain ⟨r, S2, e1, e2, hs⟩ := o_viewAnswer h (xs (i + 1)) (xs (i + 2)) (xs (i + 3)) (xs (i + 4))
  refine l_x C dL_law_716 ?_
  refine l_arg (j := 1) C (by omega) (by decide) dL_law_717 dL_law_718 dL_law_719 dL_law_720 dL_law_721 ?_
  refine l_arg (j := 2) C (by omega) (by decide) dL_law_722 dL_law_723 dL_law_724 dL_law_725 dL_law_726 ?_
  refine l_arg (j := 3) C (by omega) (by decide) dL_law_727 dL_law_728 dL_law_729 dL_law_730 dL_law_731 ?_
  refine l_arg (j := 4) C (by omega) (by decide) dL_law_732 dL_law_733 dL_law_734 dL_law_735 dL_law_736 ?_
  refine l_call (As := [.inl (xs (i + 1)), .inl (xs (i + 2)), .inl (xs (i + 3)), .inl (xs (i + 4))]) (rest := []) C dL_law_737 cl_L_82 rfl rfl (Nat.le_of_ble_eq_true rfl) (sX8_viewAnswer (by omega) e1 ?_)
  refine l_m C dL_law_740 ?_
  refine l_arg (j := 1) C (by omega) (by decide) dL_law_741 dL_law_742 dL_law_743 dL_law_744 dL_law_745 ?_
  refine l_arg (j := 2) C (by omega) (by decide) dL_law_746 dL_law_747 dL_law_748 dL_law_749 dL_law_750 ?_
  refine l_arg (j := 3) C (by omega) (by decide) dL_law_751 dL_law_752 dL_law_753 dL_law_754 dL_law_755 ?_
  refine l_arg (j := 4) C (by omega) (by decide) dL_law_756 dL_law_757 dL_law_758 dL_law_759 dL_law_760 ?_
  refine l_call (As := [.inl (xs (i + 1)), .inl (xs (i + 2)), .inl (xs (i + 3)), .inl (xs (i + 4))]) (rest := [.int r]) C dL_law_761 cl_L_85 rfl rfl (Nat.le_of_ble_eq_true rfl) (sX9_viewAnswer (by omega) e2 ?_)
  refine l_eq 1258 C dL_law_764 (by decide) ?_
  exact kk S2 ((h.scr hs).lo hs.lo)
theorem law_c17 (C : l_C p s m meth c b L xs D cA) (h : Rl S S) (hi : i + 6 ≤ L) (kk : ∀ S2, Rl S2 S2 → l_E l p e s m below meth c b D cA ad S2 1258 (nI i) []) : l_E l p e s m below meth c b D cA ad S 769 (nI i) [] := by
  obtain ⟨r, e1, e2⟩ := o_zoneFor h (xs (i + 1)) (xs (i + 2)) (xs (i + 3))
  refine l_x C dL_law_769 ?_
  refine l_arg (j := 1) C (by omega) (by decide) dL_law_770 dL_law_771 dL_law_772 dL_law_773 dL_law_774 ?_
  refine l_arg (j := 2) C (by omega) (by decide) dL_law_775 dL_law_776 dL_law_777 dL_law_778 dL_law_779 ?_
  refine l_arg (j := 3) C (by omega) (by decide) dL_law_780 dL_law_781 dL_law_782 dL_law_783 dL_law_784 ?_
  refine l_call (As := [.inl (xs (i + 1)), .inl (xs (i + 2)), .inl (xs (i + 3))]) (rest := []) C dL_law_785 cl_L_86 rfl rfl (Nat.le_of_ble_eq_true rfl) (sX8_zoneFor (by omega) e1 ?_)
  refine l_m C dL_law_788 ?_
  refine l_arg (j := 1) C (by omega) (by decide) dL_law_789 dL_law_790 dL_law_791 dL_law_792 dL_law_793 ?_
  refine l_arg (j := 2) C (by omega) (by decide) dL_law_794 dL_law_795 dL_law_796 dL_law_797 dL_law_798 ?_
  refine l_arg (j := 3) C (by omega) (by decide) dL_law_799 dL_law_800 dL_law_801 dL_law_802 dL_law_803 ?_
  refine l_call (As := [.inl (xs (i + 1)), .inl (xs (i + 2)), .inl (xs (i + 3))]) (rest := [.int r]) C dL_law_804 cl_L_89 rfl rfl (Nat.le_of_ble_eq_true rfl) (sX9_zoneFor (by omega) e2 ?_)
  refine l_eq 1258 C dL_law_807 (by decide) ?_
  exact kk S h
theorem law_c18 (C : l_C p s m meth c b L xs D cA) (h : Rl S S) (hi : i + 6 ≤ L) (kk : ∀ S2, Rl S2 S2 → l_E l p e s m below meth c b D cA ad S2 1258 (nI i) []) : l_E l p e s m below meth c b D cA ad S 812 (nI i) [] := by
  obtain ⟨r, S2, e1, e2, hs⟩ := o_source h (xs (i + 1)) (xs (i + 2)) (xs (i + 3)) (xs (i + 4))
  refine l_x C dL_law_812 ?_
  refine l_arg (j := 1) C (by omega) (by decide) dL_law_813 dL_law_814 dL_law_815 dL_law_816 dL_law_817 ?_
  refine l_arg (j := 2) C (by omega) (by decide) dL_law_818 dL_law_819 dL_law_820 dL_law_821 dL_law_822 ?_
  refine l_arg (j := 3) C (by omega) (by decide) dL_law_823 dL_law_824 dL_law_825 dL_law_826 dL_law_827 ?_
  refine l_arg (j := 4) C (by omega) (by decide) dL_law_828 dL_law_829 dL_law_830 dL_law_831 dL_law_832 ?_
  refine l_call (As := [.inl (xs (i + 1)), .inl (xs (i + 2)), .inl (xs (i + 3)), .inl (xs (i + 4))]) (rest := []) C dL_law_833 cl_L_90 rfl rfl (Nat.le_of_ble_eq_true rfl) (sX8_source (by omega) e1 ?_)
  refine l_m C dL_law_836 ?_
  refine l_arg (j := 1) C (by omega) (by decide) dL_law_837 dL_law_838 dL_law_839 dL_law_840 dL_law_841 ?_
  refine l_arg (j := 2) C (by omega) (by decide) dL_law_842 dL_law_843 dL_law_844 dL_law_845 dL_law_846 ?_
  refine l_arg (j := 3) C (by omega) (by decide) dL_law_847 dL_law_848 dL_law_849 dL_law_850 dL_law_851 ?_
  refine l_arg (j := 4) C (by omega) (by decide) dL_law_852 dL_law_853 dL_law_854 dL_law_855 dL_law_856 ?_
  refine l_call (As := [.inl (xs (i + 1)), .inl (xs (i + 2)), .inl (xs (i + 3)), .inl (xs (i + 4))]) (rest := [.int r]) C dL_law_857 cl_L_93 rfl rfl (Nat.le_of_ble_eq_true rfl) (sX9_source (by omega) e2 ?_)
  refine l_eq 1258 C dL_law_860 (by decide) ?_
  exact kk S2 ((h.scr hs).lo hs.lo)
theorem law_c19 (C : l_C p s m meth c b L xs D cA) (h : Rl S S) (hi : i + 6 ≤ L) (kk : ∀ S2, Rl S2 S2 → l_E l p e s m below meth c b D cA ad S2 1258 (nI i) []) : l_E l p e s m below meth c b D cA ad S 865 (nI i) [] := by
  obtain ⟨r, S2, e1, e2, hs⟩ := o_differences h (xs (i + 1)) (xs (i + 2)) (xs (i + 3)) (xs (i + 4))
  refine l_x C dL_law_865 ?_
  refine l_arg (j := 1) C (by omega) (by decide) dL_law_866 dL_law_867 dL_law_868 dL_law_869 dL_law_870 ?_
  refine l_arg (j := 2) C (by omega) (by decide) dL_law_871 dL_law_872 dL_law_873 dL_law_874 dL_law_875 ?_
  refine l_arg (j := 3) C (by omega) (by decide) dL_law_876 dL_law_877 dL_law_878 dL_law_879 dL_law_880 ?_
  refine l_arg (j := 4) C (by omega) (by decide) dL_law_881 dL_law_882 dL_law_883 dL_law_884 dL_law_885 ?_
  refine l_call (As := [.inl (xs (i + 1)), .inl (xs (i + 2)), .inl (xs (i + 3)), .inl (xs (i + 4))]) (rest := []) C dL_law_886 cl_L_94 rfl rfl (Nat.le_of_ble_eq_true rfl) (sX8_differences (by omega) e1 ?_)
  refine l_m C dL_law_889 ?_
  refine l_arg (j := 1) C (by omega) (by decide) dL_law_890 dL_law_891 dL_law_892 dL_law_893 dL_law_894 ?_
  refine l_arg (j := 2) C (by omega) (by decide) dL_law_895 dL_law_896 dL_law_897 dL_law_898 dL_law_899 ?_
  refine l_arg (j := 3) C (by omega) (by decide) dL_law_900 dL_law_901 dL_law_902 dL_law_903 dL_law_904 ?_
  refine l_arg (j := 4) C (by omega) (by decide) dL_law_905 dL_law_906 dL_law_907 dL_law_908 dL_law_909 ?_
  refine l_call (As := [.inl (xs (i + 1)), .inl (xs (i + 2)), .inl (xs (i + 3)), .inl (xs (i + 4))]) (rest := [.int r]) C dL_law_910 cl_L_97 rfl rfl (Nat.le_of_ble_eq_true rfl) (sX9_differences (by omega) e2 ?_)
  refine l_eq 1258 C dL_law_913 (by decide) ?_
  exact kk S2 ((h.scr hs).lo hs.lo)
theorem law_c20 (C : l_C p s m meth c b L xs D cA) (h : Rl S S) (hi : i + 6 ≤ L) (kk : ∀ S2, Rl S2 S2 → l_E l p e s m below meth c b D cA ad S2 1258 (nI i) []) : l_E l p e s m below meth c b D cA ad S 918 (nI i) [] := by
  obtain ⟨r, S2, e1, e2, hs⟩ := o_difference h (xs (i + 1)) (xs (i + 2)) (xs (i + 3)) (xs (i + 4)) (xs (i + 5))
  refine l_x C dL_law_918 ?_
  refine l_arg (j := 1) C (by omega) (by decide) dL_law_919 dL_law_920 dL_law_921 dL_law_922 dL_law_923 ?_
  refine l_arg (j := 2) C (by omega) (by decide) dL_law_924 dL_law_925 dL_law_926 dL_law_927 dL_law_928 ?_
  refine l_arg (j := 3) C (by omega) (by decide) dL_law_929 dL_law_930 dL_law_931 dL_law_932 dL_law_933 ?_
  refine l_arg (j := 4) C (by omega) (by decide) dL_law_934 dL_law_935 dL_law_936 dL_law_937 dL_law_938 ?_
  refine l_arg (j := 5) C (by omega) (by decide) dL_law_939 dL_law_940 dL_law_941 dL_law_942 dL_law_943 ?_
  refine l_call (As := [.inl (xs (i + 1)), .inl (xs (i + 2)), .inl (xs (i + 3)), .inl (xs (i + 4)), .inl (xs (i + 5))]) (rest := []) C dL_law_944 cl_L_98 rfl rfl (Nat.le_of_ble_eq_true rfl) (sX8_difference (by omega) e1 ?_)
  refine l_m C dL_law_947 ?_
  refine l_arg (j := 1) C (by omega) (by decide) dL_law_948 dL_law_949 dL_law_950 dL_law_951 dL_law_952 ?_
  refine l_arg (j := 2) C (by omega) (by decide) dL_law_953 dL_law_954 dL_law_955 dL_law_956 dL_law_957 ?_
  refine l_arg (j := 3) C (by omega) (by decide) dL_law_958 dL_law_959 dL_law_960 dL_law_961 dL_law_962 ?_
  refine l_arg (j := 4) C (by omega) (by decide) dL_law_963 dL_law_964 dL_law_965 dL_law_966 dL_law_967 ?_
  refine l_arg (j := 5) C (by omega) (by decide) dL_law_968 dL_law_969 dL_law_970 dL_law_971 dL_law_972 ?_
  refine l_call (As := [.inl (xs (i + 1)), .inl (xs (i + 2)), .inl (xs (i + 3)), .inl (xs (i + 4)), .inl (xs (i + 5))]) (rest := [.int r]) C dL_law_973 cl_L_102 rfl rfl (Nat.le_of_ble_eq_true rfl) (sX9_difference (by omega) e2 ?_)
  refine l_eq 1258 C dL_law_976 (by decide) ?_
  exact kk S2 ((h.scr hs).lo hs.lo)
theorem law_c21 (C : l_C p s m meth c b L xs D cA) (h : Rl S S) (hi : i + 6 ≤ L) (kk : ∀ S2, Rl S2 S2 → l_E l p e s m below meth c b D cA ad S2 1258 (nI i) []) : l_E l p e s m below meth c b D cA ad S 981 (nI i) [] := by
  obtain ⟨r, S2, e1, e2, hs⟩ := o_split h (xs (i + 1)) (xs (i + 2)) (xs (i + 3)) (xs (i + 4))
  refine l_x C dL_law_981 ?_
  refine l_arg (j := 1) C (by omega) (by decide) dL_law_982 dL_law_983 dL_law_984 dL_law_985 dL_law_986 ?_
  refine l_arg (j := 2) C (by omega) (by decide) dL_law_987 dL_law_988 dL_law_989 dL_law_990 dL_law_991 ?_
  refine l_arg (j := 3) C (by omega) (by decide) dL_law_992 dL_law_993 dL_law_994 dL_law_995 dL_law_996 ?_
  refine l_arg (j := 4) C (by omega) (by decide) dL_law_997 dL_law_998 dL_law_999 dL_law_1000 dL_law_1001 ?_
  refine l_call (As := [.inl (xs (i + 1)), .inl (xs (i + 2)), .inl (xs (i + 3)), .inl (xs (i + 4))]) (rest := []) C dL_law_1002 cl_L_103 rfl rfl (Nat.le_of_ble_eq_true rfl) (sX8_split (by omega) e1 ?_)
  refine l_m C dL_law_1005 ?_
  refine l_arg (j := 1) C (by omega) (by decide) dL_law_1006 dL_law_1007 dL_law_1008 dL_law_1009 dL_law_1010 ?_
  refine l_arg (j := 2) C (by omega) (by decide) dL_law_1011 dL_law_1012 dL_law_1013 dL_law_1014 dL_law_1015 ?_
  refine l_arg (j := 3) C (by omega) (by decide) dL_law_1016 dL_law_1017 dL_law_1018 dL_law_1019 dL_law_1020 ?_
  refine l_arg (j := 4) C (by omega) (by decide) dL_law_1021 dL_law_1022 dL_law_1023 dL_law_1024 dL_law_1025 ?_
  refine l_call (As := [.inl (xs (i + 1)), .inl (xs (i + 2)), .inl (xs (i + 3)), .inl (xs (i + 4))]) (rest := [.int r]) C dL_law_1026 cl_L_106 rfl rfl (Nat.le_of_ble_eq_true rfl) (sX9_split (by omega) e2 ?_)
  refine l_eq 1258 C dL_law_1029 (by decide) ?_
  exact kk S2 ((h.scr hs).lo hs.lo)
theorem law_c22 (C : l_C p s m meth c b L xs D cA) (h : Rl S S) (hi : i + 6 ≤ L) (kk : ∀ S2, Rl S2 S2 → l_E l p e s m below meth c b D cA ad S2 1258 (nI i) []) : l_E l p e s m below meth c b D cA ad S 1034 (nI i) [] := by
  obtain ⟨r, S2, e1, e2, hs⟩ := o_since h (xs (i + 1)) (xs (i + 2)) (xs (i + 3))
  refine l_x C dL_law_1034 ?_
  refine l_arg (j := 1) C (by omega) (by decide) dL_law_1035 dL_law_1036 dL_law_1037 dL_law_1038 dL_law_1039 ?_
  refine l_arg (j := 2) C (by omega) (by decide) dL_law_1040 dL_law_1041 dL_law_1042 dL_law_1043 dL_law_1044 ?_
  refine l_arg (j := 3) C (by omega) (by decide) dL_law_1045 dL_law_1046 dL_law_1047 dL_law_1048 dL_law_1049 ?_
  refine l_call (As := [.inl (xs (i + 1)), .inl (xs (i + 2)), .inl (xs (i + 3))]) (rest := []) C dL_law_1050 cl_L_107 rfl rfl (Nat.le_of_ble_eq_true rfl) (sX8_since (by omega) e1 ?_)
  refine l_m C dL_law_1053 ?_
  refine l_arg (j := 1) C (by omega) (by decide) dL_law_1054 dL_law_1055 dL_law_1056 dL_law_1057 dL_law_1058 ?_
  refine l_arg (j := 2) C (by omega) (by decide) dL_law_1059 dL_law_1060 dL_law_1061 dL_law_1062 dL_law_1063 ?_
  refine l_arg (j := 3) C (by omega) (by decide) dL_law_1064 dL_law_1065 dL_law_1066 dL_law_1067 dL_law_1068 ?_
  refine l_call (As := [.inl (xs (i + 1)), .inl (xs (i + 2)), .inl (xs (i + 3))]) (rest := [.int r]) C dL_law_1069 cl_L_110 rfl rfl (Nat.le_of_ble_eq_true rfl) (sX9_since (by omega) e2 ?_)
  refine l_eq 1258 C dL_law_1072 (by decide) ?_
  exact kk S2 ((h.scr hs).lo hs.lo)
theorem law_c23 (C : l_C p s m meth c b L xs D cA) (h : Rl S S) (hi : i + 6 ≤ L) (kk : ∀ S2, Rl S2 S2 → l_E l p e s m below meth c b D cA ad S2 1258 (nI i) []) : l_E l p e s m below meth c b D cA ad S 1077 (nI i) [] := by
  obtain ⟨r, S2, e1, e2, hs⟩ := o_seenBy h (xs (i + 1)) (xs (i + 2)) (xs (i + 3)) (xs (i + 4))
  refine l_x C dL_law_1077 ?_
  refine l_arg (j := 1) C (by omega) (by decide) dL_law_1078 dL_law_1079 dL_law_1080 dL_law_1081 dL_law_1082 ?_
  refine l_arg (j := 2) C (by omega) (by decide) dL_law_1083 dL_law_1084 dL_law_1085 dL_law_1086 dL_law_1087 ?_
  refine l_arg (j := 3) C (by omega) (by decide) dL_law_1088 dL_law_1089 dL_law_1090 dL_law_1091 dL_law_1092 ?_
  refine l_arg (j := 4) C (by omega) (by decide) dL_law_1093 dL_law_1094 dL_law_1095 dL_law_1096 dL_law_1097 ?_
  refine l_call (As := [.inl (xs (i + 1)), .inl (xs (i + 2)), .inl (xs (i + 3)), .inl (xs (i + 4))]) (rest := []) C dL_law_1098 cl_L_111 rfl rfl (Nat.le_of_ble_eq_true rfl) (sX8_seenBy (by omega) e1 ?_)
  refine l_m C dL_law_1101 ?_
  refine l_arg (j := 1) C (by omega) (by decide) dL_law_1102 dL_law_1103 dL_law_1104 dL_law_1105 dL_law_1106 ?_
  refine l_arg (j := 2) C (by omega) (by decide) dL_law_1107 dL_law_1108 dL_law_1109 dL_law_1110 dL_law_1111 ?_
  refine l_arg (j := 3) C (by omega) (by decide) dL_law_1112 dL_law_1113 dL_law_1114 dL_law_1115 dL_law_1116 ?_
  refine l_arg (j := 4) C (by omega) (by decide) dL_law_1117 dL_law_1118 dL_law_1119 dL_law_1120 dL_law_1121 ?_
  refine l_call (As := [.inl (xs (i + 1)), .inl (xs (i + 2)), .inl (xs (i + 3)), .inl (xs (i + 4))]) (rest := [.int r]) C dL_law_1122 cl_L_114 rfl rfl (Nat.le_of_ble_eq_true rfl) (sX9_seenBy (by omega) e2 ?_)
  refine l_eq 1258 C dL_law_1125 (by decide) ?_
  exact kk S2 ((h.scr hs).lo hs.lo)
theorem law_c24 (C : l_C p s m meth c b L xs D cA) (h : Rl S S) (hi : i + 6 ≤ L) (kk : ∀ S2, Rl S2 S2 → l_E l p e s m below meth c b D cA ad S2 1258 (nI i) []) : l_E l p e s m below meth c b D cA ad S 1130 (nI i) [] := by
  obtain ⟨r, S1, S2, e1, e2, hR⟩ := w_setKeeping h (xs (i + 1))
  refine l_x C dL_law_1130 ?_
  refine l_arg (j := 1) C (by omega) (by decide) dL_law_1131 dL_law_1132 dL_law_1133 dL_law_1134 dL_law_1135 ?_
  refine l_call (As := [.inl (xs (i + 1))]) (rest := []) C dL_law_1136 cl_L_115 rfl rfl (Nat.le_of_ble_eq_true rfl) (sX8_setKeeping (by omega) e1 ?_)
  refine l_m C dL_law_1139 ?_
  refine l_arg (j := 1) C (by omega) (by decide) dL_law_1140 dL_law_1141 dL_law_1142 dL_law_1143 dL_law_1144 ?_
  refine l_call (As := [.inl (xs (i + 1))]) (rest := [.int r]) C dL_law_1145 cl_L_118 rfl rfl (Nat.le_of_ble_eq_true rfl) (sX9_setKeeping (by omega) e2 ?_)
  refine l_eq 1258 C dL_law_1148 (by decide) ?_
  exact kk S2 hR
theorem law_c25 (C : l_C p s m meth c b L xs D cA) (h : Rl S S) (hi : i + 6 ≤ L) (kk : ∀ S2, Rl S2 S2 → l_E l p e s m below meth c b D cA ad S2 1258 (nI i) []) : l_E l p e s m below meth c b D cA ad S 1153 (nI i) [] := by
  obtain ⟨r, S1, S2, e1, e2, hR⟩ := w_ask h (xs (i + 1)) (xs (i + 2)) (xs (i + 3))
  refine l_x C dL_law_1153 ?_
  refine l_arg (j := 1) C (by omega) (by decide) dL_law_1154 dL_law_1155 dL_law_1156 dL_law_1157 dL_law_1158 ?_
  refine l_arg (j := 2) C (by omega) (by decide) dL_law_1159 dL_law_1160 dL_law_1161 dL_law_1162 dL_law_1163 ?_
  refine l_arg (j := 3) C (by omega) (by decide) dL_law_1164 dL_law_1165 dL_law_1166 dL_law_1167 dL_law_1168 ?_
  refine l_call (As := [.inl (xs (i + 1)), .inl (xs (i + 2)), .inl (xs (i + 3))]) (rest := []) C dL_law_1169 cl_L_119 rfl rfl (Nat.le_of_ble_eq_true rfl) (sX8_ask (by omega) e1 ?_)
  refine l_m C dL_law_1172 ?_
  refine l_arg (j := 1) C (by omega) (by decide) dL_law_1173 dL_law_1174 dL_law_1175 dL_law_1176 dL_law_1177 ?_
  refine l_arg (j := 2) C (by omega) (by decide) dL_law_1178 dL_law_1179 dL_law_1180 dL_law_1181 dL_law_1182 ?_
  refine l_arg (j := 3) C (by omega) (by decide) dL_law_1183 dL_law_1184 dL_law_1185 dL_law_1186 dL_law_1187 ?_
  refine l_call (As := [.inl (xs (i + 1)), .inl (xs (i + 2)), .inl (xs (i + 3))]) (rest := [.int r]) C dL_law_1188 cl_L_122 rfl rfl (Nat.le_of_ble_eq_true rfl) (sX9_ask (by omega) e2 ?_)
  refine l_eq 1258 C dL_law_1191 (by decide) ?_
  exact kk S2 hR
theorem law_c26 (C : l_C p s m meth c b L xs D cA) (h : Rl S S) (hi : i + 6 ≤ L) (kk : ∀ S2, Rl S2 S2 → l_E l p e s m below meth c b D cA ad S2 1258 (nI i) []) : l_E l p e s m below meth c b D cA ad S 1196 (nI i) [] := by
  obtain ⟨r, S2, e1, e2, hs⟩ := o_stale h 
  refine l_x C dL_law_1196 ?_
  refine l_call (As := []) (rest := []) C dL_law_1197 cl_L_123 rfl rfl (Nat.le_of_ble_eq_true rfl) (sX8_stale (by omega) e1 ?_)
  refine l_m C dL_law_1200 ?_
  refine l_call (As := []) (rest := [.int r]) C dL_law_1201 cl_L_126 rfl rfl (Nat.le_of_ble_eq_true rfl) (sX9_stale (by omega) e2 ?_)
  refine l_eq 1258 C dL_law_1204 (by decide) ?_
  exact kk S2 ((h.scr hs).lo hs.lo)
theorem law_c27 (C : l_C p s m meth c b L xs D cA) (h : Rl S S) (hi : i + 6 ≤ L) (kk : ∀ S2, Rl S2 S2 → l_E l p e s m below meth c b D cA ad S2 1258 (nI i) []) : l_E l p e s m below meth c b D cA ad S 1209 (nI i) [] := by
  obtain ⟨r, S1, S2, e1, e2, hR⟩ := w_type h (xs (i + 1))
  refine l_x C dL_law_1209 ?_
  refine l_arg (j := 1) C (by omega) (by decide) dL_law_1210 dL_law_1211 dL_law_1212 dL_law_1213 dL_law_1214 ?_
  refine l_call (As := [.inl (xs (i + 1))]) (rest := []) C dL_law_1215 cl_L_127 rfl rfl (Nat.le_of_ble_eq_true rfl) (sX8_type (by omega) e1 ?_)
  refine l_m C dL_law_1218 ?_
  refine l_arg (j := 1) C (by omega) (by decide) dL_law_1219 dL_law_1220 dL_law_1221 dL_law_1222 dL_law_1223 ?_
  refine l_call (As := [.inl (xs (i + 1))]) (rest := [.int r]) C dL_law_1224 cl_L_130 rfl rfl (Nat.le_of_ble_eq_true rfl) (sX9_type (by omega) e2 ?_)
  refine l_eq 1258 C dL_law_1227 (by decide) ?_
  exact kk S2 hR
theorem law_c28 (C : l_C p s m meth c b L xs D cA) (h : Rl S S) (hi : i + 6 ≤ L) (kk : ∀ S2, Rl S2 S2 → l_E l p e s m below meth c b D cA ad S2 1258 (nI i) []) : l_E l p e s m below meth c b D cA ad S 1232 (nI i) [] := by
  obtain ⟨r, S1, S2, e1, e2, hR⟩ := w_clearText h 
  refine l_x C dL_law_1232 ?_
  refine l_call (As := []) (rest := []) C dL_law_1233 cl_L_131 rfl rfl (Nat.le_of_ble_eq_true rfl) (sX8_clearText (by omega) e1 ?_)
  refine l_m C dL_law_1236 ?_
  refine l_call (As := []) (rest := [.int r]) C dL_law_1237 cl_L_134 rfl rfl (Nat.le_of_ble_eq_true rfl) (sX9_clearText (by omega) e2 ?_)
  refine l_eq 1258 C dL_law_1240 (by decide) ?_
  exact kk S2 hR
theorem law_c29 (C : l_C p s m meth c b L xs D cA) (h : Rl S S) (hi : i + 6 ≤ L) (kk : ∀ S2, Rl S2 S2 → l_E l p e s m below meth c b D cA ad S2 1258 (nI i) []) : l_E l p e s m below meth c b D cA ad S 1245 (nI i) [] := by
  obtain ⟨r, S1, S2, e1, e2, hR⟩ := w_fault h 
  refine l_x C dL_law_1245 ?_
  refine l_call (As := []) (rest := []) C dL_law_1246 cl_L_135 rfl rfl (Nat.le_of_ble_eq_true rfl) (sX8_fault (by omega) e1 ?_)
  refine l_m C dL_law_1249 ?_
  refine l_call (As := []) (rest := [.int r]) C dL_law_1250 cl_L_138 rfl rfl (Nat.le_of_ble_eq_true rfl) (sX9_fault (by omega) e2 ?_)
  refine l_eq 1258 C dL_law_1253 (by decide) ?_
  exact kk S2 hR
end LC

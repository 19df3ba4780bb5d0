set_option maxHeartbeats 4000000 in
set_option maxRecDepth 100000 in
theorem lc_tune {X : lX} {G : mG} {i : Int} {μ : mMem} (hi : lB X i) (hB : BOTH μ) (kk : ∀ m : mMem, BOTH m → lW X G 1311 i [] m) : lW X G 192 i [] μ := by
  obtain ⟨st, hX, hM, hI⟩ := hB
  refine lw_x dL_law_192 ?_
  refine lw_ld dL_law_193 dL_law_194 dL_law_195 dL_law_196 dL_law_197 hi (by decide) ?_
  refine lw_ld dL_law_198 dL_law_199 dL_law_200 dL_law_201 dL_law_202 hi (by decide) ?_
  refine lw_ld dL_law_203 dL_law_204 dL_law_205 dL_law_206 dL_law_207 hi (by decide) ?_
  refine lw_i2l dL_law_208 ?_
  refine lw_bipush dL_law_209 (by decide +kernel) ?_
  refine lw_lshl dL_law_211 ?_
  refine lw_ld dL_law_212 dL_law_213 dL_law_214 dL_law_215 dL_law_216 hi (by decide) ?_
  refine lw_i2l dL_law_217 ?_
  refine lw_ldc2 dL_law_218 cl_L_13 ?_
  refine lw_land dL_law_221 ?_
  refine lw_lor dL_law_222 ?_
  refine lw_call dL_law_223 ll_15 ok_X6_tune (by decide) ((c_X_tune (G := G) (s := lA X i 1) (n := lA X i 2) hX hI (lA_bd X i 1) (lA_bd X i 2)).mono (fun r m h => toB1 hM h)) (ci := 6) rfl (by decide) rfl rfl rfl (Nat.le_of_ble_eq_true rfl) (fun r m h => ?_)
  obtain ⟨z, rfl, hz, hX1, hM1⟩ := h
  refine lw_m dL_law_226 ?_
  refine lw_ld dL_law_227 dL_law_228 dL_law_229 dL_law_230 dL_law_231 hi (by decide) ?_
  refine lw_ld dL_law_232 dL_law_233 dL_law_234 dL_law_235 dL_law_236 hi (by decide) ?_
  refine lw_ld dL_law_237 dL_law_238 dL_law_239 dL_law_240 dL_law_241 hi (by decide) ?_
  refine lw_i2l dL_law_242 ?_
  refine lw_bipush dL_law_243 (by decide +kernel) ?_
  refine lw_lshl dL_law_245 ?_
  refine lw_ld dL_law_246 dL_law_247 dL_law_248 dL_law_249 dL_law_250 hi (by decide) ?_
  refine lw_i2l dL_law_251 ?_
  refine lw_ldc2 dL_law_252 cl_L_13 ?_
  refine lw_land dL_law_255 ?_
  refine lw_lor dL_law_256 ?_
  refine lw_call dL_law_257 ll_19 ok_X7_tune (by decide) ((c_M_tune (G := G) (s := lA X i 1) (n := lA X i 2) hM1 hI (lA_bd X i 1) (lA_bd X i 2)).mono (fun r m h => toB2 hX1 (si_tune hI _ _ _) h)) (ci := 7) rfl (by decide) rfl rfl rfl (Nat.le_of_ble_eq_true rfl) (fun r m h => ?_)
  obtain ⟨z2, rfl, hz2, hX2, hM2⟩ := h
  refine lw_eq 1311 dL_law_260 (by decide) (hz.trans hz2.symm) ?_
  exact kk _ ⟨_, hX2, hM2, si_tune hI _ _ _⟩
set_option maxHeartbeats 4000000 in
set_option maxRecDepth 100000 in
theorem lc_tone {X : lX} {G : mG} {i : Int} {μ : mMem} (hi : lB X i) (hB : BOTH μ) (kk : ∀ m : mMem, BOTH m → lW X G 1311 i [] m) : lW X G 265 i [] μ := by
  obtain ⟨st, hX, hM, hI⟩ := hB
  refine lw_x dL_law_265 ?_
  refine lw_ld dL_law_266 dL_law_267 dL_law_268 dL_law_269 dL_law_270 hi (by decide) ?_
  refine lw_ld dL_law_271 dL_law_272 dL_law_273 dL_law_274 dL_law_275 hi (by decide) ?_
  refine lw_call dL_law_276 ll_20 ok_X6_tone (by decide) ((c_X_tone (G := G) (s := lA X i 1) (i := lA X i 2) hX hI (lA_bd X i 1) (lA_bd X i 2)).mono (fun r m h => toB1 hM h)) (ci := 6) rfl (by decide) rfl rfl rfl (Nat.le_of_ble_eq_true rfl) (fun r m h => ?_)
  obtain ⟨z, rfl, hz, hX1, hM1⟩ := h
  refine lw_m dL_law_279 ?_
  refine lw_ld dL_law_280 dL_law_281 dL_law_282 dL_law_283 dL_law_284 hi (by decide) ?_
  refine lw_ld dL_law_285 dL_law_286 dL_law_287 dL_law_288 dL_law_289 hi (by decide) ?_
  refine lw_call dL_law_290 ll_24 ok_X7_tone (by decide) ((c_M_tone (G := G) (s := lA X i 1) (i := lA X i 2) hM1 hI (lA_bd X i 1) (lA_bd X i 2)).mono (fun r m h => toB2 hX1 (si_tone hI _ _) h)) (ci := 7) rfl (by decide) rfl rfl rfl (Nat.le_of_ble_eq_true rfl) (fun r m h => ?_)
  obtain ⟨z2, rfl, hz2, hX2, hM2⟩ := h
  refine lw_eq 1311 dL_law_293 (by decide) (hz.trans hz2.symm) ?_
  exact kk _ ⟨_, hX2, hM2, si_tone hI _ _⟩
set_option maxHeartbeats 4000000 in
set_option maxRecDepth 100000 in
theorem lc_side {X : lX} {G : mG} {i : Int} {μ : mMem} (hi : lB X i) (hB : BOTH μ) (kk : ∀ m : mMem, BOTH m → lW X G 1311 i [] m) : lW X G 298 i [] μ := by
  obtain ⟨st, hX, hM, hI⟩ := hB
  refine lw_x dL_law_298 ?_
  refine lw_ld dL_law_299 dL_law_300 dL_law_301 dL_law_302 dL_law_303 hi (by decide) ?_
  refine lw_ld dL_law_304 dL_law_305 dL_law_306 dL_law_307 dL_law_308 hi (by decide) ?_
  refine lw_call dL_law_309 ll_25 ok_X6_side (by decide) ((c_X_side (G := G) (s := lA X i 1) (v := lA X i 2) hX hI (lA_bd X i 1) (lA_bd X i 2)).mono (fun r m h => toB1 hM h)) (ci := 6) rfl (by decide) rfl rfl rfl (Nat.le_of_ble_eq_true rfl) (fun r m h => ?_)
  obtain ⟨z, rfl, hz, hX1, hM1⟩ := h
  refine lw_m dL_law_312 ?_
  refine lw_ld dL_law_313 dL_law_314 dL_law_315 dL_law_316 dL_law_317 hi (by decide) ?_
  refine lw_ld dL_law_318 dL_law_319 dL_law_320 dL_law_321 dL_law_322 hi (by decide) ?_
  refine lw_call dL_law_323 ll_28 ok_X7_side (by decide) ((c_M_side (G := G) (s := lA X i 1) (v := lA X i 2) hM1 hI (lA_bd X i 1) (lA_bd X i 2)).mono (fun r m h => toB2 hX1 (si_side hI _ _) h)) (ci := 7) rfl (by decide) rfl rfl rfl (Nat.le_of_ble_eq_true rfl) (fun r m h => ?_)
  obtain ⟨z2, rfl, hz2, hX2, hM2⟩ := h
  refine lw_eq 1311 dL_law_326 (by decide) (hz.trans hz2.symm) ?_
  exact kk _ ⟨_, hX2, hM2, si_side hI _ _⟩
set_option maxHeartbeats 4000000 in
set_option maxRecDepth 100000 in
theorem lc_attache {X : lX} {G : mG} {i : Int} {μ : mMem} (hi : lB X i) (hB : BOTH μ) (kk : ∀ m : mMem, BOTH m → lW X G 1311 i [] m) : lW X G 331 i [] μ := by
  obtain ⟨st, hX, hM, hI⟩ := hB
  refine lw_x dL_law_331 ?_
  refine lw_ld dL_law_332 dL_law_333 dL_law_334 dL_law_335 dL_law_336 hi (by decide) ?_
  refine lw_ld dL_law_337 dL_law_338 dL_law_339 dL_law_340 dL_law_341 hi (by decide) ?_
  refine lw_call dL_law_342 ll_29 ok_X6_attache (by decide) ((c_X_attache (G := G) (k := lA X i 1) (s := lA X i 2) hX hI (lA_bd X i 1) (lA_bd X i 2)).mono (fun r m h => toB1 hM h)) (ci := 6) rfl (by decide) rfl rfl rfl (Nat.le_of_ble_eq_true rfl) (fun r m h => ?_)
  obtain ⟨z, rfl, hz, hX1, hM1⟩ := h
  refine lw_m dL_law_345 ?_
  refine lw_ld dL_law_346 dL_law_347 dL_law_348 dL_law_349 dL_law_350 hi (by decide) ?_
  refine lw_ld dL_law_351 dL_law_352 dL_law_353 dL_law_354 dL_law_355 hi (by decide) ?_
  refine lw_call dL_law_356 ll_32 ok_X7_attache (by decide) ((c_M_attache (G := G) (k := lA X i 1) (s := lA X i 2) hM1 hI (lA_bd X i 1) (lA_bd X i 2)).mono (fun r m h => toB2 hX1 (si_attache hI _ _) h)) (ci := 7) rfl (by decide) rfl rfl rfl (Nat.le_of_ble_eq_true rfl) (fun r m h => ?_)
  obtain ⟨z2, rfl, hz2, hX2, hM2⟩ := h
  refine lw_eq 1311 dL_law_359 (by decide) (hz.trans hz2.symm) ?_
  exact kk _ ⟨_, hX2, hM2, si_attache hI _ _⟩
set_option maxHeartbeats 4000000 in
set_option maxRecDepth 100000 in
theorem lc_of {X : lX} {G : mG} {i : Int} {μ : mMem} (hi : lB X i) (hB : BOTH μ) (kk : ∀ m : mMem, BOTH m → lW X G 1311 i [] m) : lW X G 364 i [] μ := by
  obtain ⟨st, hX, hM, hI⟩ := hB
  refine lw_x dL_law_364 ?_
  refine lw_ld dL_law_365 dL_law_366 dL_law_367 dL_law_368 dL_law_369 hi (by decide) ?_
  refine lw_ld dL_law_370 dL_law_371 dL_law_372 dL_law_373 dL_law_374 hi (by decide) ?_
  refine lw_call dL_law_375 ll_33 ok_X6_of (by decide) ((c_X_of (G := G) (a := lA X i 1) (v := lA X i 2) hX hI (lA_bd X i 1) (lA_bd X i 2)).mono (fun r m h => toB1 hM h)) (ci := 6) rfl (by decide) rfl rfl rfl (Nat.le_of_ble_eq_true rfl) (fun r m h => ?_)
  obtain ⟨z, rfl, hz, hX1, hM1⟩ := h
  refine lw_m dL_law_378 ?_
  refine lw_ld dL_law_379 dL_law_380 dL_law_381 dL_law_382 dL_law_383 hi (by decide) ?_
  refine lw_ld dL_law_384 dL_law_385 dL_law_386 dL_law_387 dL_law_388 hi (by decide) ?_
  refine lw_call dL_law_389 ll_36 ok_X7_of (by decide) ((c_M_of (G := G) (a := lA X i 1) (v := lA X i 2) hM1 hI (lA_bd X i 1) (lA_bd X i 2)).mono (fun r m h => toB2 hX1 (si_of hI _ _) h)) (ci := 7) rfl (by decide) rfl rfl rfl (Nat.le_of_ble_eq_true rfl) (fun r m h => ?_)
  obtain ⟨z2, rfl, hz2, hX2, hM2⟩ := h
  refine lw_eq 1311 dL_law_392 (by decide) (hz.trans hz2.symm) ?_
  exact kk _ ⟨_, hX2, hM2, si_of hI _ _⟩
set_option maxHeartbeats 4000000 in
set_option maxRecDepth 100000 in
theorem lc_answer {X : lX} {G : mG} {i : Int} {μ : mMem} (hi : lB X i) (hB : BOTH μ) (kk : ∀ m : mMem, BOTH m → lW X G 1311 i [] m) : lW X G 397 i [] μ := by
  obtain ⟨st, hX, hM, hI⟩ := hB
  refine lw_x dL_law_397 ?_
  refine lw_ld dL_law_398 dL_law_399 dL_law_400 dL_law_401 dL_law_402 hi (by decide) ?_
  refine lw_ld dL_law_403 dL_law_404 dL_law_405 dL_law_406 dL_law_407 hi (by decide) ?_
  refine lw_call dL_law_408 ll_37 ok_X6_answer (by decide) ((c_X_answer (G := G) (a := lA X i 1) (i := lA X i 2) hX hI (lA_bd X i 1) (lA_bd X i 2)).mono (fun r m h => toB1 hM h)) (ci := 6) rfl (by decide) rfl rfl rfl (Nat.le_of_ble_eq_true rfl) (fun r m h => ?_)
  obtain ⟨z, rfl, hz, hX1, hM1⟩ := h
  refine lw_m dL_law_411 ?_
  refine lw_ld dL_law_412 dL_law_413 dL_law_414 dL_law_415 dL_law_416 hi (by decide) ?_
  refine lw_ld dL_law_417 dL_law_418 dL_law_419 dL_law_420 dL_law_421 hi (by decide) ?_
  refine lw_call dL_law_422 ll_40 ok_X7_answer (by decide) ((c_M_answer (G := G) (a := lA X i 1) (i := lA X i 2) hM1 hI (lA_bd X i 1) (lA_bd X i 2)).mono (fun r m h => toB2 hX1 (si_answer hI _ _) h)) (ci := 7) rfl (by decide) rfl rfl rfl (Nat.le_of_ble_eq_true rfl) (fun r m h => ?_)
  obtain ⟨z2, rfl, hz2, hX2, hM2⟩ := h
  refine lw_eq 1311 dL_law_425 (by decide) (hz.trans hz2.symm) ?_
  exact kk _ ⟨_, hX2, hM2, si_answer hI _ _⟩
set_option maxHeartbeats 4000000 in
set_option maxRecDepth 100000 in
theorem lc_set {X : lX} {G : mG} {i : Int} {μ : mMem} (hi : lB X i) (hB : BOTH μ) (kk : ∀ m : mMem, BOTH m → lW X G 1311 i [] m) : lW X G 430 i [] μ := by
  obtain ⟨st, hX, hM, hI⟩ := hB
  refine lw_x dL_law_430 ?_
  refine lw_ld dL_law_431 dL_law_432 dL_law_433 dL_law_434 dL_law_435 hi (by decide) ?_
  refine lw_ld dL_law_436 dL_law_437 dL_law_438 dL_law_439 dL_law_440 hi (by decide) ?_
  refine lw_ld dL_law_441 dL_law_442 dL_law_443 dL_law_444 dL_law_445 hi (by decide) ?_
  refine lw_call dL_law_446 ll_41 ok_X6_set (by decide) ((c_X_set (G := G) (a := lA X i 1) (v := lA X i 2) (x := lA X i 3) hX hI (lA_bd X i 1) (lA_bd X i 2) (lA_bd X i 3)).mono (fun r m h => toB1 hM h)) (ci := 6) rfl (by decide) rfl rfl rfl (Nat.le_of_ble_eq_true rfl) (fun r m h => ?_)
  obtain ⟨z, rfl, hz, hX1, hM1⟩ := h
  refine lw_m dL_law_449 ?_
  refine lw_ld dL_law_450 dL_law_451 dL_law_452 dL_law_453 dL_law_454 hi (by decide) ?_
  refine lw_ld dL_law_455 dL_law_456 dL_law_457 dL_law_458 dL_law_459 hi (by decide) ?_
  refine lw_ld dL_law_460 dL_law_461 dL_law_462 dL_law_463 dL_law_464 hi (by decide) ?_
  refine lw_call dL_law_465 ll_45 ok_X7_set (by decide) ((c_M_set (G := G) (a := lA X i 1) (v := lA X i 2) (x := lA X i 3) hM1 hI (lA_bd X i 1) (lA_bd X i 2) (lA_bd X i 3)).mono (fun r m h => toB2 hX1 (si_set hI _ _ _) h)) (ci := 7) rfl (by decide) rfl rfl rfl (Nat.le_of_ble_eq_true rfl) (fun r m h => ?_)
  obtain ⟨z2, rfl, hz2, hX2, hM2⟩ := h
  refine lw_eq 1311 dL_law_468 (by decide) (hz.trans hz2.symm) ?_
  exact kk _ ⟨_, hX2, hM2, si_set hI _ _ _⟩
set_option maxHeartbeats 4000000 in
set_option maxRecDepth 100000 in
theorem lc_turn {X : lX} {G : mG} {i : Int} {μ : mMem} (hi : lB X i) (hB : BOTH μ) (kk : ∀ m : mMem, BOTH m → lW X G 1311 i [] m) : lW X G 473 i [] μ := by
  obtain ⟨st, hX, hM, hI⟩ := hB
  refine lw_x dL_law_473 ?_
  refine lw_ld dL_law_474 dL_law_475 dL_law_476 dL_law_477 dL_law_478 hi (by decide) ?_
  refine lw_ld dL_law_479 dL_law_480 dL_law_481 dL_law_482 dL_law_483 hi (by decide) ?_
  refine lw_call dL_law_484 ll_46 ok_X6_turn (by decide) ((c_X_turn (G := G) (a := lA X i 1) (k := lA X i 2) hX hI (lA_bd X i 1) (lA_bd X i 2)).mono (fun r m h => toB1 hM h)) (ci := 6) rfl (by decide) rfl rfl rfl (Nat.le_of_ble_eq_true rfl) (fun r m h => ?_)
  obtain ⟨z, rfl, hz, hX1, hM1⟩ := h
  refine lw_m dL_law_487 ?_
  refine lw_ld dL_law_488 dL_law_489 dL_law_490 dL_law_491 dL_law_492 hi (by decide) ?_
  refine lw_ld dL_law_493 dL_law_494 dL_law_495 dL_law_496 dL_law_497 hi (by decide) ?_
  refine lw_call dL_law_498 ll_49 ok_X7_turn (by decide) ((c_M_turn (G := G) (a := lA X i 1) (k := lA X i 2) hM1 hI (lA_bd X i 1) (lA_bd X i 2)).mono (fun r m h => toB2 hX1 (si_turn hI _ _) h)) (ci := 7) rfl (by decide) rfl rfl rfl (Nat.le_of_ble_eq_true rfl) (fun r m h => ?_)
  obtain ⟨z2, rfl, hz2, hX2, hM2⟩ := h
  refine lw_eq 1311 dL_law_501 (by decide) (hz.trans hz2.symm) ?_
  exact kk _ ⟨_, hX2, hM2, si_turn hI _ _⟩
set_option maxHeartbeats 4000000 in
set_option maxRecDepth 100000 in
theorem lc_as {X : lX} {G : mG} {i : Int} {μ : mMem} (hi : lB X i) (hB : BOTH μ) (kk : ∀ m : mMem, BOTH m → lW X G 1311 i [] m) : lW X G 506 i [] μ := by
  obtain ⟨st, hX, hM, hI⟩ := hB
  refine lw_x dL_law_506 ?_
  refine lw_ld dL_law_507 dL_law_508 dL_law_509 dL_law_510 dL_law_511 hi (by decide) ?_
  refine lw_ld dL_law_512 dL_law_513 dL_law_514 dL_law_515 dL_law_516 hi (by decide) ?_
  refine lw_call dL_law_517 ll_50 ok_X6_as (by decide) ((c_X_as (G := G) (a := lA X i 1) (k := lA X i 2) hX hI (lA_bd X i 1) (lA_bd X i 2)).mono (fun r m h => toB1 hM h)) (ci := 6) rfl (by decide) rfl rfl rfl (Nat.le_of_ble_eq_true rfl) (fun r m h => ?_)
  obtain ⟨z, rfl, hz, hX1, hM1⟩ := h
  refine lw_m dL_law_520 ?_
  refine lw_ld dL_law_521 dL_law_522 dL_law_523 dL_law_524 dL_law_525 hi (by decide) ?_
  refine lw_ld dL_law_526 dL_law_527 dL_law_528 dL_law_529 dL_law_530 hi (by decide) ?_
  refine lw_call dL_law_531 ll_53 ok_X7_as (by decide) ((c_M_as (G := G) (a := lA X i 1) (k := lA X i 2) hM1 hI (lA_bd X i 1) (lA_bd X i 2)).mono (fun r m h => toB2 hX1 (si_as hI _ _) h)) (ci := 7) rfl (by decide) rfl rfl rfl (Nat.le_of_ble_eq_true rfl) (fun r m h => ?_)
  obtain ⟨z2, rfl, hz2, hX2, hM2⟩ := h
  refine lw_eq 1311 dL_law_534 (by decide) (hz.trans hz2.symm) ?_
  exact kk _ ⟨_, hX2, hM2, si_as hI _ _⟩
set_option maxHeartbeats 4000000 in
set_option maxRecDepth 100000 in
theorem lc_days {X : lX} {G : mG} {i : Int} {μ : mMem} (hi : lB X i) (hB : BOTH μ) (kk : ∀ m : mMem, BOTH m → lW X G 1311 i [] m) : lW X G 539 i [] μ := by
  obtain ⟨st, hX, hM, hI⟩ := hB
  refine lw_x dL_law_539 ?_
  refine lw_ld dL_law_540 dL_law_541 dL_law_542 dL_law_543 dL_law_544 hi (by decide) ?_
  refine lw_call dL_law_545 ll_54 ok_X6_days (by decide) ((c_X_days (G := G) (n := lA X i 1) hX hI (lA_bd X i 1)).mono (fun r m h => toB1 hM h)) (ci := 6) rfl (by decide) rfl rfl rfl (Nat.le_of_ble_eq_true rfl) (fun r m h => ?_)
  obtain ⟨z, rfl, hz, hX1, hM1⟩ := h
  refine lw_m dL_law_548 ?_
  refine lw_ld dL_law_549 dL_law_550 dL_law_551 dL_law_552 dL_law_553 hi (by decide) ?_
  refine lw_call dL_law_554 ll_58 ok_X7_days (by decide) ((c_M_days (G := G) (n := lA X i 1) hM1 hI (lA_bd X i 1)).mono (fun r m h => toB2 hX1 (si_days hI _) h)) (ci := 7) rfl (by decide) rfl rfl rfl (Nat.le_of_ble_eq_true rfl) (fun r m h => ?_)
  obtain ⟨z2, rfl, hz2, hX2, hM2⟩ := h
  refine lw_eq 1311 dL_law_557 (by decide) (hz.trans hz2.symm) ?_
  exact kk _ ⟨_, hX2, hM2, si_days hI _⟩
set_option maxHeartbeats 4000000 in
set_option maxRecDepth 100000 in
theorem lc_now {X : lX} {G : mG} {i : Int} {μ : mMem} (hi : lB X i) (hB : BOTH μ) (kk : ∀ m : mMem, BOTH m → lW X G 1311 i [] m) : lW X G 562 i [] μ := by
  obtain ⟨st, hX, hM, hI⟩ := hB
  refine lw_x dL_law_562 ?_
  refine lw_ld dL_law_563 dL_law_564 dL_law_565 dL_law_566 dL_law_567 hi (by decide) ?_
  refine lw_call dL_law_568 ll_59 ok_X6_now (by decide) ((c_X_now (G := G) (v := lA X i 1) hX hI (lA_bd X i 1)).mono (fun r m h => toB1 hM h)) (ci := 6) rfl (by decide) rfl rfl rfl (Nat.le_of_ble_eq_true rfl) (fun r m h => ?_)
  obtain ⟨z, rfl, hz, hX1, hM1⟩ := h
  refine lw_m dL_law_571 ?_
  refine lw_ld dL_law_572 dL_law_573 dL_law_574 dL_law_575 dL_law_576 hi (by decide) ?_
  refine lw_call dL_law_577 ll_62 ok_X7_now (by decide) ((c_M_now (G := G) (v := lA X i 1) hM1 hI (lA_bd X i 1)).mono (fun r m h => toB2 hX1 (si_now hI _) h)) (ci := 7) rfl (by decide) rfl rfl rfl (Nat.le_of_ble_eq_true rfl) (fun r m h => ?_)
  obtain ⟨z2, rfl, hz2, hX2, hM2⟩ := h
  refine lw_eq 1311 dL_law_580 (by decide) (hz.trans hz2.symm) ?_
  exact kk _ ⟨_, hX2, hM2, si_now hI _⟩
set_option maxHeartbeats 4000000 in
set_option maxRecDepth 100000 in
theorem lc_on {X : lX} {G : mG} {i : Int} {μ : mMem} (hi : lB X i) (hB : BOTH μ) (kk : ∀ m : mMem, BOTH m → lW X G 1311 i [] m) : lW X G 585 i [] μ := by
  obtain ⟨st, hX, hM, hI⟩ := hB
  refine lw_x dL_law_585 ?_
  refine lw_ld dL_law_586 dL_law_587 dL_law_588 dL_law_589 dL_law_590 hi (by decide) ?_
  refine lw_ld dL_law_591 dL_law_592 dL_law_593 dL_law_594 dL_law_595 hi (by decide) ?_
  refine lw_ld dL_law_596 dL_law_597 dL_law_598 dL_law_599 dL_law_600 hi (by decide) ?_
  refine lw_call dL_law_601 ll_63 ok_X6_on (by decide) ((c_X_on (G := G) (s := lA X i 1) (i := lA X i 2) (n := lA X i 3) hX hI (lA_bd X i 1) (lA_bd X i 2) (lA_bd X i 3)).mono (fun r m h => toB1 hM h)) (ci := 6) rfl (by decide) rfl rfl rfl (Nat.le_of_ble_eq_true rfl) (fun r m h => ?_)
  obtain ⟨z, rfl, hz, hX1, hM1⟩ := h
  refine lw_m dL_law_604 ?_
  refine lw_ld dL_law_605 dL_law_606 dL_law_607 dL_law_608 dL_law_609 hi (by decide) ?_
  refine lw_ld dL_law_610 dL_law_611 dL_law_612 dL_law_613 dL_law_614 hi (by decide) ?_
  refine lw_ld dL_law_615 dL_law_616 dL_law_617 dL_law_618 dL_law_619 hi (by decide) ?_
  refine lw_call dL_law_620 ll_66 ok_X7_on (by decide) ((c_M_on (G := G) (s := lA X i 1) (i := lA X i 2) (n := lA X i 3) hM1 hI (lA_bd X i 1) (lA_bd X i 2) (lA_bd X i 3)).mono (fun r m h => toB2 hX1 (si_on hI _ _ _) h)) (ci := 7) rfl (by decide) rfl rfl rfl (Nat.le_of_ble_eq_true rfl) (fun r m h => ?_)
  obtain ⟨z2, rfl, hz2, hX2, hM2⟩ := h
  refine lw_eq 1311 dL_law_623 (by decide) (hz.trans hz2.symm) ?_
  exact kk _ ⟨_, hX2, hM2, si_on hI _ _ _⟩
set_option maxHeartbeats 4000000 in
set_option maxRecDepth 100000 in
theorem lc_tension {X : lX} {G : mG} {i : Int} {μ : mMem} (hi : lB X i) (hB : BOTH μ) (kk : ∀ m : mMem, BOTH m → lW X G 1311 i [] m) : lW X G 628 i [] μ := by
  obtain ⟨st, hX, hM, hI⟩ := hB
  refine lw_x dL_law_628 ?_
  refine lw_ld dL_law_629 dL_law_630 dL_law_631 dL_law_632 dL_law_633 hi (by decide) ?_
  refine lw_ld dL_law_634 dL_law_635 dL_law_636 dL_law_637 dL_law_638 hi (by decide) ?_
  refine lw_call dL_law_639 ll_67 ok_X6_tension (by decide) ((c_X_tension (G := G) (s := lA X i 1) (n := lA X i 2) hX hI (lA_bd X i 1) (lA_bd X i 2)).mono (fun r m h => toB1 hM h)) (ci := 6) rfl (by decide) rfl rfl rfl (Nat.le_of_ble_eq_true rfl) (fun r m h => ?_)
  obtain ⟨z, rfl, hz, hX1, hM1⟩ := h
  refine lw_m dL_law_642 ?_
  refine lw_ld dL_law_643 dL_law_644 dL_law_645 dL_law_646 dL_law_647 hi (by decide) ?_
  refine lw_ld dL_law_648 dL_law_649 dL_law_650 dL_law_651 dL_law_652 hi (by decide) ?_
  refine lw_call dL_law_653 ll_70 ok_X7_tension (by decide) ((c_M_tension (G := G) (s := lA X i 1) (n := lA X i 2) hM1 hI (lA_bd X i 1) (lA_bd X i 2)).mono (fun r m h => toB2 hX1 (si_tension hI _ _) h)) (ci := 7) rfl (by decide) rfl rfl rfl (Nat.le_of_ble_eq_true rfl) (fun r m h => ?_)
  obtain ⟨z2, rfl, hz2, hX2, hM2⟩ := h
  refine lw_eq 1311 dL_law_656 (by decide) (hz.trans hz2.symm) ?_
  exact kk _ ⟨_, hX2, hM2, si_tension hI _ _⟩
set_option maxHeartbeats 4000000 in
set_option maxRecDepth 100000 in
theorem lc_home {X : lX} {G : mG} {i : Int} {μ : mMem} (hi : lB X i) (hB : BOTH μ) (kk : ∀ m : mMem, BOTH m → lW X G 1311 i [] m) : lW X G 661 i [] μ := by
  obtain ⟨st, hX, hM, hI⟩ := hB
  refine lw_x dL_law_661 ?_
  refine lw_ld dL_law_662 dL_law_663 dL_law_664 dL_law_665 dL_law_666 hi (by decide) ?_
  refine lw_call dL_law_667 ll_71 ok_X6_home (by decide) ((c_X_home (G := G) (s := lA X i 1) hX hI (lA_bd X i 1)).mono (fun r m h => toB1 hM h)) (ci := 6) rfl (by decide) rfl rfl rfl (Nat.le_of_ble_eq_true rfl) (fun r m h => ?_)
  obtain ⟨z, rfl, hz, hX1, hM1⟩ := h
  refine lw_m dL_law_670 ?_
  refine lw_ld dL_law_671 dL_law_672 dL_law_673 dL_law_674 dL_law_675 hi (by decide) ?_
  refine lw_call dL_law_676 ll_74 ok_X7_home (by decide) ((c_M_home (G := G) (s := lA X i 1) hM1 hI (lA_bd X i 1)).mono (fun r m h => toB2 hX1 (si_home hI _) h)) (ci := 7) rfl (by decide) rfl rfl rfl (Nat.le_of_ble_eq_true rfl) (fun r m h => ?_)
  obtain ⟨z2, rfl, hz2, hX2, hM2⟩ := h
  refine lw_eq 1311 dL_law_679 (by decide) (hz.trans hz2.symm) ?_
  exact kk _ ⟨_, hX2, hM2, si_home hI _⟩
set_option maxHeartbeats 4000000 in
set_option maxRecDepth 100000 in
theorem lc_alike {X : lX} {G : mG} {i : Int} {μ : mMem} (hi : lB X i) (hB : BOTH μ) (kk : ∀ m : mMem, BOTH m → lW X G 1311 i [] m) : lW X G 684 i [] μ := by
  obtain ⟨st, hX, hM, hI⟩ := hB
  refine lw_x dL_law_684 ?_
  refine lw_call dL_law_685 ll_75 ok_X6_alike (by decide) ((c_X_alike (G := G)  hX hI ).mono (fun r m h => toB1 hM h)) (ci := 6) rfl (by decide) rfl rfl rfl (Nat.le_of_ble_eq_true rfl) (fun r m h => ?_)
  obtain ⟨z, rfl, hz, hX1, hM1⟩ := h
  refine lw_m dL_law_688 ?_
  refine lw_call dL_law_689 ll_79 ok_X7_alike (by decide) ((c_M_alikeD (G := G)  hM1 hI ).mono (fun r m h => toB2 hX1 (si_alike hI ) h)) (ci := 7) rfl (by decide) rfl rfl rfl (Nat.le_of_ble_eq_true rfl) (fun r m h => ?_)
  obtain ⟨z2, rfl, hz2, hX2, hM2⟩ := h
  refine lw_eq 1311 dL_law_692 (by decide) (hz.trans hz2.symm) ?_
  exact kk _ ⟨_, hX2, hM2, si_alike hI ⟩
set_option maxHeartbeats 4000000 in
set_option maxRecDepth 100000 in
theorem lc_again {X : lX} {G : mG} {i : Int} {μ : mMem} (hi : lB X i) (hB : BOTH μ) (kk : ∀ m : mMem, BOTH m → lW X G 1311 i [] m) : lW X G 697 i [] μ := by
  obtain ⟨st, hX, hM, hI⟩ := hB
  refine lw_x dL_law_697 ?_
  refine lw_ld dL_law_698 dL_law_699 dL_law_700 dL_law_701 dL_law_702 hi (by decide) ?_
  refine lw_call dL_law_703 ll_80 ok_X6_again (by decide) ((c_X_again (G := G) (s := lA X i 1) hX hI (lA_bd X i 1)).mono (fun r m h => toB1 hM h)) (ci := 6) rfl (by decide) rfl rfl rfl (Nat.le_of_ble_eq_true rfl) (fun r m h => ?_)
  obtain ⟨z, rfl, hz, hX1, hM1⟩ := h
  refine lw_m dL_law_706 ?_
  refine lw_ld dL_law_707 dL_law_708 dL_law_709 dL_law_710 dL_law_711 hi (by decide) ?_
  refine lw_call dL_law_712 ll_83 ok_X7_again (by decide) ((c_M_again (G := G) (s := lA X i 1) hM1 hI (lA_bd X i 1)).mono (fun r m h => toB2 hX1 (si_again hI _) h)) (ci := 7) rfl (by decide) rfl rfl rfl (Nat.le_of_ble_eq_true rfl) (fun r m h => ?_)
  obtain ⟨z2, rfl, hz2, hX2, hM2⟩ := h
  refine lw_eq 1311 dL_law_715 (by decide) (hz.trans hz2.symm) ?_
  exact kk _ ⟨_, hX2, hM2, si_again hI _⟩
set_option maxHeartbeats 4000000 in
set_option maxRecDepth 100000 in
theorem lc_key {X : lX} {G : mG} {i : Int} {μ : mMem} (hi : lB X i) (hB : BOTH μ) (kk : ∀ m : mMem, BOTH m → lW X G 1311 i [] m) : lW X G 720 i [] μ := by
  obtain ⟨st, hX, hM, hI⟩ := hB
  refine lw_x dL_law_720 ?_
  refine lw_ld dL_law_721 dL_law_722 dL_law_723 dL_law_724 dL_law_725 hi (by decide) ?_
  refine lw_call dL_law_726 ll_84 ok_X6_key (by decide) ((c_X_key (G := G) (a := lA X i 1) hX hI (lA_bd X i 1)).mono (fun r m h => toB1 hM h)) (ci := 6) rfl (by decide) rfl rfl rfl (Nat.le_of_ble_eq_true rfl) (fun r m h => ?_)
  obtain ⟨z, rfl, hz, hX1, hM1⟩ := h
  refine lw_m dL_law_729 ?_
  refine lw_ld dL_law_730 dL_law_731 dL_law_732 dL_law_733 dL_law_734 hi (by decide) ?_
  refine lw_call dL_law_735 ll_87 ok_X7_key (by decide) ((c_M_key (G := G) (a := lA X i 1) hM1 hI (lA_bd X i 1)).mono (fun r m h => toB2 hX1 (si_key hI _) h)) (ci := 7) rfl (by decide) rfl rfl rfl (Nat.le_of_ble_eq_true rfl) (fun r m h => ?_)
  obtain ⟨z2, rfl, hz2, hX2, hM2⟩ := h
  refine lw_eq 1311 dL_law_738 (by decide) (hz.trans hz2.symm) ?_
  exact kk _ ⟨_, hX2, hM2, si_key hI _⟩
set_option maxHeartbeats 4000000 in
set_option maxRecDepth 100000 in
theorem lc_kind {X : lX} {G : mG} {i : Int} {μ : mMem} (hi : lB X i) (hB : BOTH μ) (kk : ∀ m : mMem, BOTH m → lW X G 1311 i [] m) : lW X G 743 i [] μ := by
  obtain ⟨st, hX, hM, hI⟩ := hB
  refine lw_x dL_law_743 ?_
  refine lw_ld dL_law_744 dL_law_745 dL_law_746 dL_law_747 dL_law_748 hi (by decide) ?_
  refine lw_call dL_law_749 ll_88 ok_X6_kind (by decide) ((c_X_kind (G := G) (a := lA X i 1) hX hI (lA_bd X i 1)).mono (fun r m h => toB1 hM h)) (ci := 6) rfl (by decide) rfl rfl rfl (Nat.le_of_ble_eq_true rfl) (fun r m h => ?_)
  obtain ⟨z, rfl, hz, hX1, hM1⟩ := h
  refine lw_m dL_law_752 ?_
  refine lw_ld dL_law_753 dL_law_754 dL_law_755 dL_law_756 dL_law_757 hi (by decide) ?_
  refine lw_call dL_law_758 ll_91 ok_X7_kind (by decide) ((c_M_kind (G := G) (a := lA X i 1) hM1 hI (lA_bd X i 1)).mono (fun r m h => toB2 hX1 (si_kind hI _) h)) (ci := 7) rfl (by decide) rfl rfl rfl (Nat.le_of_ble_eq_true rfl) (fun r m h => ?_)
  obtain ⟨z2, rfl, hz2, hX2, hM2⟩ := h
  refine lw_eq 1311 dL_law_761 (by decide) (hz.trans hz2.symm) ?_
  exact kk _ ⟨_, hX2, hM2, si_kind hI _⟩
set_option maxHeartbeats 4000000 in
set_option maxRecDepth 100000 in
theorem lc_blot {X : lX} {G : mG} {i : Int} {μ : mMem} (hi : lB X i) (hB : BOTH μ) (kk : ∀ m : mMem, BOTH m → lW X G 1311 i [] m) : lW X G 766 i [] μ := by
  obtain ⟨st, hX, hM, hI⟩ := hB
  refine lw_x dL_law_766 ?_
  refine lw_ld dL_law_767 dL_law_768 dL_law_769 dL_law_770 dL_law_771 hi (by decide) ?_
  refine lw_ld dL_law_772 dL_law_773 dL_law_774 dL_law_775 dL_law_776 hi (by decide) ?_
  refine lw_call dL_law_777 ll_92 ok_X6_blot (by decide) ((c_X_blot (G := G) (a := lA X i 1) (s := lA X i 2) hX hI (lA_bd X i 1) (lA_bd X i 2)).mono (fun r m h => toB1 hM h)) (ci := 6) rfl (by decide) rfl rfl rfl (Nat.le_of_ble_eq_true rfl) (fun r m h => ?_)
  obtain ⟨z, rfl, hz, hX1, hM1⟩ := h
  refine lw_m dL_law_780 ?_
  refine lw_ld dL_law_781 dL_law_782 dL_law_783 dL_law_784 dL_law_785 hi (by decide) ?_
  refine lw_ld dL_law_786 dL_law_787 dL_law_788 dL_law_789 dL_law_790 hi (by decide) ?_
  refine lw_call dL_law_791 ll_95 ok_X7_blot (by decide) ((c_M_blot (G := G) (a := lA X i 1) (s := lA X i 2) hM1 hI (lA_bd X i 1) (lA_bd X i 2)).mono (fun r m h => toB2 hX1 (si_blot hI _ _) h)) (ci := 7) rfl (by decide) rfl rfl rfl (Nat.le_of_ble_eq_true rfl) (fun r m h => ?_)
  obtain ⟨z2, rfl, hz2, hX2, hM2⟩ := h
  refine lw_eq 1311 dL_law_794 (by decide) (hz.trans hz2.symm) ?_
  exact kk _ ⟨_, hX2, hM2, si_blot hI _ _⟩
set_option maxHeartbeats 4000000 in
set_option maxRecDepth 100000 in
theorem lc_calm {X : lX} {G : mG} {i : Int} {μ : mMem} (hi : lB X i) (hB : BOTH μ) (kk : ∀ m : mMem, BOTH m → lW X G 1311 i [] m) : lW X G 799 i [] μ := by
  obtain ⟨st, hX, hM, hI⟩ := hB
  refine lw_x dL_law_799 ?_
  refine lw_ld dL_law_800 dL_law_801 dL_law_802 dL_law_803 dL_law_804 hi (by decide) ?_
  refine lw_ld dL_law_805 dL_law_806 dL_law_807 dL_law_808 dL_law_809 hi (by decide) ?_
  refine lw_ld dL_law_810 dL_law_811 dL_law_812 dL_law_813 dL_law_814 hi (by decide) ?_
  refine lw_call dL_law_815 ll_96 ok_X6_calm (by decide) ((c_X_calm (G := G) (a := lA X i 1) (s := lA X i 2) (n := lA X i 3) hX hI (lA_bd X i 1) (lA_bd X i 2) (lA_bd X i 3)).mono (fun r m h => toB1 hM h)) (ci := 6) rfl (by decide) rfl rfl rfl (Nat.le_of_ble_eq_true rfl) (fun r m h => ?_)
  obtain ⟨z, rfl, hz, hX1, hM1⟩ := h
  refine lw_m dL_law_818 ?_
  refine lw_ld dL_law_819 dL_law_820 dL_law_821 dL_law_822 dL_law_823 hi (by decide) ?_
  refine lw_ld dL_law_824 dL_law_825 dL_law_826 dL_law_827 dL_law_828 hi (by decide) ?_
  refine lw_ld dL_law_829 dL_law_830 dL_law_831 dL_law_832 dL_law_833 hi (by decide) ?_
  refine lw_call dL_law_834 ll_99 ok_X7_calm (by decide) ((c_M_calm (G := G) (a := lA X i 1) (s := lA X i 2) (n := lA X i 3) hM1 hI (lA_bd X i 1) (lA_bd X i 2) (lA_bd X i 3)).mono (fun r m h => toB2 hX1 (si_calm hI _ _ _) h)) (ci := 7) rfl (by decide) rfl rfl rfl (Nat.le_of_ble_eq_true rfl) (fun r m h => ?_)
  obtain ⟨z2, rfl, hz2, hX2, hM2⟩ := h
  refine lw_eq 1311 dL_law_837 (by decide) (hz.trans hz2.symm) ?_
  exact kk _ ⟨_, hX2, hM2, si_calm hI _ _ _⟩
set_option maxHeartbeats 4000000 in
set_option maxRecDepth 100000 in
theorem lc_swap {X : lX} {G : mG} {i : Int} {μ : mMem} (hi : lB X i) (hB : BOTH μ) (kk : ∀ m : mMem, BOTH m → lW X G 1311 i [] m) : lW X G 842 i [] μ := by
  obtain ⟨st, hX, hM, hI⟩ := hB
  refine lw_x dL_law_842 ?_
  refine lw_call dL_law_843 ll_100 ok_X6_swap (by decide) ((c_X_swap (G := G)  hX hI ).mono (fun r m h => toB1 hM h)) (ci := 6) rfl (by decide) rfl rfl rfl (Nat.le_of_ble_eq_true rfl) (fun r m h => ?_)
  obtain ⟨z, rfl, hz, hX1, hM1⟩ := h
  refine lw_m dL_law_846 ?_
  refine lw_call dL_law_847 ll_103 ok_X7_swap (by decide) ((c_M_swap (G := G)  hM1 hI ).mono (fun r m h => toB2 hX1 (si_swap hI ) h)) (ci := 7) rfl (by decide) rfl rfl rfl (Nat.le_of_ble_eq_true rfl) (fun r m h => ?_)
  obtain ⟨z2, rfl, hz2, hX2, hM2⟩ := h
  refine lw_eq 1311 dL_law_850 (by decide) (hz.trans hz2.symm) ?_
  exact kk _ ⟨_, hX2, hM2, si_swap hI ⟩
set_option maxHeartbeats 4000000 in
set_option maxRecDepth 100000 in
theorem lc_keys {X : lX} {G : mG} {i : Int} {μ : mMem} (hi : lB X i) (hB : BOTH μ) (kk : ∀ m : mMem, BOTH m → lW X G 1311 i [] m) : lW X G 855 i [] μ := by
  obtain ⟨st, hX, hM, hI⟩ := hB
  refine lw_x dL_law_855 ?_
  refine lw_ld dL_law_856 dL_law_857 dL_law_858 dL_law_859 dL_law_860 hi (by decide) ?_
  refine lw_ld dL_law_861 dL_law_862 dL_law_863 dL_law_864 dL_law_865 hi (by decide) ?_
  refine lw_call dL_law_866 ll_104 ok_X6_keys (by decide) ((c_X_keys (G := G) (a := lA X i 1) (n := lA X i 2) hX hI (lA_bd X i 1) (lA_bd X i 2)).mono (fun r m h => toB1 hM h)) (ci := 6) rfl (by decide) rfl rfl rfl (Nat.le_of_ble_eq_true rfl) (fun r m h => ?_)
  obtain ⟨z, rfl, hz, hX1, hM1⟩ := h
  refine lw_m dL_law_869 ?_
  refine lw_ld dL_law_870 dL_law_871 dL_law_872 dL_law_873 dL_law_874 hi (by decide) ?_
  refine lw_ld dL_law_875 dL_law_876 dL_law_877 dL_law_878 dL_law_879 hi (by decide) ?_
  refine lw_call dL_law_880 ll_107 ok_X7_keys (by decide) ((c_M_keys (G := G) (a := lA X i 1) (n := lA X i 2) hM1 hI (lA_bd X i 1) (lA_bd X i 2)).mono (fun r m h => toB2 hX1 (si_keys hI _ _) h)) (ci := 7) rfl (by decide) rfl rfl rfl (Nat.le_of_ble_eq_true rfl) (fun r m h => ?_)
  obtain ⟨z2, rfl, hz2, hX2, hM2⟩ := h
  refine lw_eq 1311 dL_law_883 (by decide) (hz.trans hz2.symm) ?_
  exact kk _ ⟨_, hX2, hM2, si_keys hI _ _⟩
set_option maxHeartbeats 4000000 in
set_option maxRecDepth 100000 in
theorem lc_feed {X : lX} {G : mG} {i : Int} {μ : mMem} (hi : lB X i) (hB : BOTH μ) (kk : ∀ m : mMem, BOTH m → lW X G 1311 i [] m) : lW X G 888 i [] μ := by
  obtain ⟨st, hX, hM, hI⟩ := hB
  refine lw_x dL_law_888 ?_
  refine lw_ld dL_law_889 dL_law_890 dL_law_891 dL_law_892 dL_law_893 hi (by decide) ?_
  refine lw_ld dL_law_894 dL_law_895 dL_law_896 dL_law_897 dL_law_898 hi (by decide) ?_
  refine lw_call dL_law_899 ll_108 ok_X6_feed (by decide) ((c_X_feed (G := G) (x := lA X i 1) (n := lA X i 2) hX hI (lA_bd X i 2)).mono (fun r m h => toB1 hM h)) (ci := 6) rfl (by decide) rfl rfl rfl (Nat.le_of_ble_eq_true rfl) (fun r m h => ?_)
  obtain ⟨z, rfl, hz, hX1, hM1⟩ := h
  refine lw_m dL_law_902 ?_
  refine lw_ld dL_law_903 dL_law_904 dL_law_905 dL_law_906 dL_law_907 hi (by decide) ?_
  refine lw_ld dL_law_908 dL_law_909 dL_law_910 dL_law_911 dL_law_912 hi (by decide) ?_
  refine lw_call dL_law_913 ll_111 ok_X7_feed (by decide) ((c_M_feed (G := G) (x := lA X i 1) (n := lA X i 2) hM1 hI (lA_bd X i 1) (lA_bd X i 2)).mono (fun r m h => toB2 hX1 (si_feed hI _ _) h)) (ci := 7) rfl (by decide) rfl rfl rfl (Nat.le_of_ble_eq_true rfl) (fun r m h => ?_)
  obtain ⟨z2, rfl, hz2, hX2, hM2⟩ := h
  refine lw_eq 1311 dL_law_916 (by decide) (hz.trans hz2.symm) ?_
  exact kk _ ⟨_, hX2, hM2, si_feed hI _ _⟩
set_option maxHeartbeats 4000000 in
set_option maxRecDepth 100000 in
theorem lc_wipe {X : lX} {G : mG} {i : Int} {μ : mMem} (hi : lB X i) (hB : BOTH μ) (kk : ∀ m : mMem, BOTH m → lW X G 1311 i [] m) : lW X G 921 i [] μ := by
  obtain ⟨st, hX, hM, hI⟩ := hB
  refine lw_x dL_law_921 ?_
  refine lw_call dL_law_922 ll_112 ok_X6_wipe (by decide) ((c_X_wipe (G := G)  hX hI ).mono (fun r m h => toB1 hM h)) (ci := 6) rfl (by decide) rfl rfl rfl (Nat.le_of_ble_eq_true rfl) (fun r m h => ?_)
  obtain ⟨z, rfl, hz, hX1, hM1⟩ := h
  refine lw_m dL_law_925 ?_
  refine lw_call dL_law_926 ll_115 ok_X7_wipe (by decide) ((c_M_wipe (G := G)  hM1 hI ).mono (fun r m h => toB2 hX1 (si_wipe hI ) h)) (ci := 7) rfl (by decide) rfl rfl rfl (Nat.le_of_ble_eq_true rfl) (fun r m h => ?_)
  obtain ⟨z2, rfl, hz2, hX2, hM2⟩ := h
  refine lw_eq 1311 dL_law_929 (by decide) (hz.trans hz2.symm) ?_
  exact kk _ ⟨_, hX2, hM2, si_wipe hI ⟩
set_option maxHeartbeats 4000000 in
set_option maxRecDepth 100000 in
theorem lc_affair {X : lX} {G : mG} {i : Int} {μ : mMem} (hi : lB X i) (hB : BOTH μ) (kk : ∀ m : mMem, BOTH m → lW X G 1311 i [] m) : lW X G 934 i [] μ := by
  obtain ⟨st, hX, hM, hI⟩ := hB
  refine lw_x dL_law_934 ?_
  refine lw_call dL_law_935 ll_116 ok_X6_affair (by decide) ((c_X_affair (G := G)  hX hI ).mono (fun r m h => toB1 hM h)) (ci := 6) rfl (by decide) rfl rfl rfl (Nat.le_of_ble_eq_true rfl) (fun r m h => ?_)
  obtain ⟨z, rfl, hz, hX1, hM1⟩ := h
  refine lw_m dL_law_938 ?_
  refine lw_call dL_law_939 ll_119 ok_X7_affair (by decide) ((c_M_affair (G := G)  hM1 hI ).mono (fun r m h => toB2 hX1 (si_affair hI ) h)) (ci := 7) rfl (by decide) rfl rfl rfl (Nat.le_of_ble_eq_true rfl) (fun r m h => ?_)
  obtain ⟨z2, rfl, hz2, hX2, hM2⟩ := h
  refine lw_eq 1311 dL_law_942 (by decide) (hz.trans hz2.symm) ?_
  exact kk _ ⟨_, hX2, hM2, si_affair hI ⟩
set_option maxHeartbeats 4000000 in
set_option maxRecDepth 100000 in
theorem lc_sheet {X : lX} {G : mG} {i : Int} {μ : mMem} (hi : lB X i) (hB : BOTH μ) (kk : ∀ m : mMem, BOTH m → lW X G 1311 i [] m) : lW X G 947 i [] μ := by
  obtain ⟨st, hX, hM, hI⟩ := hB
  refine lw_x dL_law_947 ?_
  refine lw_ld dL_law_948 dL_law_949 dL_law_950 dL_law_951 dL_law_952 hi (by decide) ?_
  refine lw_ld dL_law_953 dL_law_954 dL_law_955 dL_law_956 dL_law_957 hi (by decide) ?_
  refine lw_ld dL_law_958 dL_law_959 dL_law_960 dL_law_961 dL_law_962 hi (by decide) ?_
  refine lw_call dL_law_963 ll_120 ok_X6_sheet (by decide) ((c_X_sheet (G := G) (s := lA X i 1) (b := lA X i 2) (n := lA X i 3) hX hI (lA_bd X i 1) (lA_bd X i 2) (lA_bd X i 3)).mono (fun r m h => toB1 hM h)) (ci := 6) rfl (by decide) rfl rfl rfl (Nat.le_of_ble_eq_true rfl) (fun r m h => ?_)
  obtain ⟨z, rfl, hz, hX1, hM1⟩ := h
  refine lw_m dL_law_966 ?_
  refine lw_ld dL_law_967 dL_law_968 dL_law_969 dL_law_970 dL_law_971 hi (by decide) ?_
  refine lw_ld dL_law_972 dL_law_973 dL_law_974 dL_law_975 dL_law_976 hi (by decide) ?_
  refine lw_ld dL_law_977 dL_law_978 dL_law_979 dL_law_980 dL_law_981 hi (by decide) ?_
  refine lw_call dL_law_982 ll_123 ok_X7_sheet (by decide) ((c_M_sheet (G := G) (s := lA X i 1) (b := lA X i 2) (n := lA X i 3) hM1 hI (lA_bd X i 1) (lA_bd X i 2) (lA_bd X i 3)).mono (fun r m h => toB2 hX1 (si_sheet hI _ _ _) h)) (ci := 7) rfl (by decide) rfl rfl rfl (Nat.le_of_ble_eq_true rfl) (fun r m h => ?_)
  obtain ⟨z2, rfl, hz2, hX2, hM2⟩ := h
  refine lw_eq 1311 dL_law_985 (by decide) (hz.trans hz2.symm) ?_
  exact kk _ ⟨_, hX2, hM2, si_sheet hI _ _ _⟩
set_option maxHeartbeats 4000000 in
set_option maxRecDepth 100000 in
theorem lc_write {X : lX} {G : mG} {i : Int} {μ : mMem} (hi : lB X i) (hB : BOTH μ) (kk : ∀ m : mMem, BOTH m → lW X G 1311 i [] m) : lW X G 990 i [] μ := by
  obtain ⟨st, hX, hM, hI⟩ := hB
  refine lw_x dL_law_990 ?_
  refine lw_ld dL_law_991 dL_law_992 dL_law_993 dL_law_994 dL_law_995 hi (by decide) ?_
  refine lw_ld dL_law_996 dL_law_997 dL_law_998 dL_law_999 dL_law_1000 hi (by decide) ?_
  refine lw_ld dL_law_1001 dL_law_1002 dL_law_1003 dL_law_1004 dL_law_1005 hi (by decide) ?_
  refine lw_i2l dL_law_1006 ?_
  refine lw_bipush dL_law_1007 (by decide +kernel) ?_
  refine lw_lshl dL_law_1009 ?_
  refine lw_ld dL_law_1010 dL_law_1011 dL_law_1012 dL_law_1013 dL_law_1014 hi (by decide) ?_
  refine lw_i2l dL_law_1015 ?_
  refine lw_ldc2 dL_law_1016 cl_L_13 ?_
  refine lw_land dL_law_1019 ?_
  refine lw_lor dL_law_1020 ?_
  refine lw_call dL_law_1021 ll_124 ok_X6_write (by decide) ((c_X_write (G := G) (s := lA X i 1) (i := lA X i 2) hX hI (lA_bd X i 1) (lA_bd X i 2)).mono (fun r m h => toL1 hM h)) (ci := 6) rfl (by decide) rfl rfl rfl (Nat.le_of_ble_eq_true rfl) (fun r m h => ?_)
  obtain ⟨z, rfl, hz, hX1, hM1⟩ := h
  refine lw_m dL_law_1024 ?_
  refine lw_ld dL_law_1025 dL_law_1026 dL_law_1027 dL_law_1028 dL_law_1029 hi (by decide) ?_
  refine lw_ld dL_law_1030 dL_law_1031 dL_law_1032 dL_law_1033 dL_law_1034 hi (by decide) ?_
  refine lw_ld dL_law_1035 dL_law_1036 dL_law_1037 dL_law_1038 dL_law_1039 hi (by decide) ?_
  refine lw_i2l dL_law_1040 ?_
  refine lw_bipush dL_law_1041 (by decide +kernel) ?_
  refine lw_lshl dL_law_1043 ?_
  refine lw_ld dL_law_1044 dL_law_1045 dL_law_1046 dL_law_1047 dL_law_1048 hi (by decide) ?_
  refine lw_i2l dL_law_1049 ?_
  refine lw_ldc2 dL_law_1050 cl_L_13 ?_
  refine lw_land dL_law_1053 ?_
  refine lw_lor dL_law_1054 ?_
  refine lw_call dL_law_1055 ll_128 ok_X7_write (by decide) ((c_M_write (G := G) (s := lA X i 1) (i := lA X i 2) hM1 hI (lA_bd X i 1) (lA_bd X i 2)).mono (fun r m h => toL2 hX1 (si_write hI _ _ _) h)) (ci := 7) rfl (by decide) rfl rfl rfl (Nat.le_of_ble_eq_true rfl) (fun r m h => ?_)
  obtain ⟨z2, rfl, hz2, hX2, hM2⟩ := h
  refine lw_leq 1311 dL_law_1058 dL_law_1059 (by decide) (hz.trans hz2.symm) ?_
  exact kk _ ⟨_, hX2, hM2, si_write hI _ _ _⟩
set_option maxHeartbeats 4000000 in
set_option maxRecDepth 100000 in
theorem lc_copy {X : lX} {G : mG} {i : Int} {μ : mMem} (hi : lB X i) (hB : BOTH μ) (kk : ∀ m : mMem, BOTH m → lW X G 1311 i [] m) : lW X G 1064 i [] μ := by
  obtain ⟨st, hX, hM, hI⟩ := hB
  refine lw_x dL_law_1064 ?_
  refine lw_ld dL_law_1065 dL_law_1066 dL_law_1067 dL_law_1068 dL_law_1069 hi (by decide) ?_
  refine lw_ld dL_law_1070 dL_law_1071 dL_law_1072 dL_law_1073 dL_law_1074 hi (by decide) ?_
  refine lw_ld dL_law_1075 dL_law_1076 dL_law_1077 dL_law_1078 dL_law_1079 hi (by decide) ?_
  refine lw_ld dL_law_1080 dL_law_1081 dL_law_1082 dL_law_1083 dL_law_1084 hi (by decide) ?_
  refine lw_ld dL_law_1085 dL_law_1086 dL_law_1087 dL_law_1088 dL_law_1089 hi (by decide) ?_
  refine lw_call dL_law_1090 ll_129 ok_X6_copy (by decide) ((c_X_copy (G := G) (s := lA X i 1) (a := lA X i 2) (t := lA X i 3) (b := lA X i 4) (n := lA X i 5) hX hI (lA_bd X i 1) (lA_bd X i 2) (lA_bd X i 3) (lA_bd X i 4) (lA_bd X i 5)).mono (fun r m h => toB1 hM h)) (ci := 6) rfl (by decide) rfl rfl rfl (Nat.le_of_ble_eq_true rfl) (fun r m h => ?_)
  obtain ⟨z, rfl, hz, hX1, hM1⟩ := h
  refine lw_m dL_law_1093 ?_
  refine lw_ld dL_law_1094 dL_law_1095 dL_law_1096 dL_law_1097 dL_law_1098 hi (by decide) ?_
  refine lw_ld dL_law_1099 dL_law_1100 dL_law_1101 dL_law_1102 dL_law_1103 hi (by decide) ?_
  refine lw_ld dL_law_1104 dL_law_1105 dL_law_1106 dL_law_1107 dL_law_1108 hi (by decide) ?_
  refine lw_ld dL_law_1109 dL_law_1110 dL_law_1111 dL_law_1112 dL_law_1113 hi (by decide) ?_
  refine lw_ld dL_law_1114 dL_law_1115 dL_law_1116 dL_law_1117 dL_law_1118 hi (by decide) ?_
  refine lw_call dL_law_1119 ll_133 ok_X7_copy (by decide) ((c_M_copy (G := G) (s := lA X i 1) (a := lA X i 2) (t := lA X i 3) (b := lA X i 4) (n := lA X i 5) hM1 hI (lA_bd X i 1) (lA_bd X i 2) (lA_bd X i 3) (lA_bd X i 4) (lA_bd X i 5)).mono (fun r m h => toB2 hX1 (si_copy hI _ _ _ _ _) h)) (ci := 7) rfl (by decide) rfl rfl rfl (Nat.le_of_ble_eq_true rfl) (fun r m h => ?_)
  obtain ⟨z2, rfl, hz2, hX2, hM2⟩ := h
  refine lw_eq 1311 dL_law_1122 (by decide) (hz.trans hz2.symm) ?_
  exact kk _ ⟨_, hX2, hM2, si_copy hI _ _ _ _ _⟩
set_option maxHeartbeats 4000000 in
set_option maxRecDepth 100000 in
theorem lc_lays {X : lX} {G : mG} {i : Int} {μ : mMem} (hi : lB X i) (hB : BOTH μ) (kk : ∀ m : mMem, BOTH m → lW X G 1311 i [] m) : lW X G 1127 i [] μ := by
  obtain ⟨st, hX, hM, hI⟩ := hB
  refine lw_x dL_law_1127 ?_
  refine lw_ld dL_law_1128 dL_law_1129 dL_law_1130 dL_law_1131 dL_law_1132 hi (by decide) ?_
  refine lw_ld dL_law_1133 dL_law_1134 dL_law_1135 dL_law_1136 dL_law_1137 hi (by decide) ?_
  refine lw_call dL_law_1138 ll_134 ok_X6_lays (by decide) ((c_X_lays (G := G) (s := lA X i 1) (d := lA X i 2) hX hI (lA_bd X i 1) (lA_bd X i 2)).mono (fun r m h => toB1 hM h)) (ci := 6) rfl (by decide) rfl rfl rfl (Nat.le_of_ble_eq_true rfl) (fun r m h => ?_)
  obtain ⟨z, rfl, hz, hX1, hM1⟩ := h
  refine lw_m dL_law_1141 ?_
  refine lw_ld dL_law_1142 dL_law_1143 dL_law_1144 dL_law_1145 dL_law_1146 hi (by decide) ?_
  refine lw_ld dL_law_1147 dL_law_1148 dL_law_1149 dL_law_1150 dL_law_1151 hi (by decide) ?_
  refine lw_call dL_law_1152 ll_137 ok_X7_lays (by decide) ((c_M_lays (G := G) (s := lA X i 1) (d := lA X i 2) hM1 hI (lA_bd X i 1) (lA_bd X i 2)).mono (fun r m h => toB2 hX1 (si_lays hI _ _) h)) (ci := 7) rfl (by decide) rfl rfl rfl (Nat.le_of_ble_eq_true rfl) (fun r m h => ?_)
  obtain ⟨z2, rfl, hz2, hX2, hM2⟩ := h
  refine lw_eq 1311 dL_law_1155 (by decide) (hz.trans hz2.symm) ?_
  exact kk _ ⟨_, hX2, hM2, si_lays hI _ _⟩
set_option maxHeartbeats 4000000 in
set_option maxRecDepth 100000 in
theorem lc_book {X : lX} {G : mG} {i : Int} {μ : mMem} (hi : lB X i) (hB : BOTH μ) (kk : ∀ m : mMem, BOTH m → lW X G 1311 i [] m) : lW X G 1160 i [] μ := by
  obtain ⟨st, hX, hM, hI⟩ := hB
  refine lw_x dL_law_1160 ?_
  refine lw_ld dL_law_1161 dL_law_1162 dL_law_1163 dL_law_1164 dL_law_1165 hi (by decide) ?_
  refine lw_ld dL_law_1166 dL_law_1167 dL_law_1168 dL_law_1169 dL_law_1170 hi (by decide) ?_
  refine lw_call dL_law_1171 ll_138 ok_X6_book (by decide) ((c_X_book (G := G) (s := lA X i 1) (d := lA X i 2) hX hI (lA_bd X i 1) (lA_bd X i 2)).mono (fun r m h => toB1 hM h)) (ci := 6) rfl (by decide) rfl rfl rfl (Nat.le_of_ble_eq_true rfl) (fun r m h => ?_)
  obtain ⟨z, rfl, hz, hX1, hM1⟩ := h
  refine lw_m dL_law_1174 ?_
  refine lw_ld dL_law_1175 dL_law_1176 dL_law_1177 dL_law_1178 dL_law_1179 hi (by decide) ?_
  refine lw_ld dL_law_1180 dL_law_1181 dL_law_1182 dL_law_1183 dL_law_1184 hi (by decide) ?_
  refine lw_call dL_law_1185 ll_141 ok_X7_book (by decide) ((c_M_book (G := G) (s := lA X i 1) (d := lA X i 2) hM1 hI (lA_bd X i 1) (lA_bd X i 2)).mono (fun r m h => toB2 hX1 (si_book hI _ _) h)) (ci := 7) rfl (by decide) rfl rfl rfl (Nat.le_of_ble_eq_true rfl) (fun r m h => ?_)
  obtain ⟨z2, rfl, hz2, hX2, hM2⟩ := h
  refine lw_eq 1311 dL_law_1188 (by decide) (hz.trans hz2.symm) ?_
  exact kk _ ⟨_, hX2, hM2, si_book hI _ _⟩
set_option maxHeartbeats 4000000 in
set_option maxRecDepth 100000 in
theorem lc_read {X : lX} {G : mG} {i : Int} {μ : mMem} (hi : lB X i) (hB : BOTH μ) (kk : ∀ m : mMem, BOTH m → lW X G 1311 i [] m) : lW X G 1193 i [] μ := by
  obtain ⟨st, hX, hM, hI⟩ := hB
  refine lw_x dL_law_1193 ?_
  refine lw_ld dL_law_1194 dL_law_1195 dL_law_1196 dL_law_1197 dL_law_1198 hi (by decide) ?_
  refine lw_ld dL_law_1199 dL_law_1200 dL_law_1201 dL_law_1202 dL_law_1203 hi (by decide) ?_
  refine lw_call dL_law_1204 ll_142 ok_X6_read (by decide) ((c_X_read (G := G) (s := lA X i 1) (a := lA X i 2) hX hI (lA_bd X i 1) (lA_bd X i 2)).mono (fun r m h => toB1 hM h)) (ci := 6) rfl (by decide) rfl rfl rfl (Nat.le_of_ble_eq_true rfl) (fun r m h => ?_)
  obtain ⟨z, rfl, hz, hX1, hM1⟩ := h
  refine lw_m dL_law_1207 ?_
  refine lw_ld dL_law_1208 dL_law_1209 dL_law_1210 dL_law_1211 dL_law_1212 hi (by decide) ?_
  refine lw_ld dL_law_1213 dL_law_1214 dL_law_1215 dL_law_1216 dL_law_1217 hi (by decide) ?_
  refine lw_call dL_law_1218 ll_145 ok_X7_read (by decide) ((c_M_read (G := G) (s := lA X i 1) (a := lA X i 2) hM1 hI (lA_bd X i 1) (lA_bd X i 2)).mono (fun r m h => toB2 hX1 (si_read hI _ _) h)) (ci := 7) rfl (by decide) rfl rfl rfl (Nat.le_of_ble_eq_true rfl) (fun r m h => ?_)
  obtain ⟨z2, rfl, hz2, hX2, hM2⟩ := h
  refine lw_eq 1311 dL_law_1221 (by decide) (hz.trans hz2.symm) ?_
  exact kk _ ⟨_, hX2, hM2, si_read hI _ _⟩
set_option maxHeartbeats 4000000 in
set_option maxRecDepth 100000 in
theorem lc_image {X : lX} {G : mG} {i : Int} {μ : mMem} (hi : lB X i) (hB : BOTH μ) (kk : ∀ m : mMem, BOTH m → lW X G 1311 i [] m) : lW X G 1226 i [] μ := by
  obtain ⟨st, hX, hM, hI⟩ := hB
  refine lw_x dL_law_1226 ?_
  refine lw_call dL_law_1227 ll_146 ok_X6_image (by decide) ((c_X_image (G := G)  hX hI ).mono (fun r m h => toB1 hM h)) (ci := 6) rfl (by decide) rfl rfl rfl (Nat.le_of_ble_eq_true rfl) (fun r m h => ?_)
  obtain ⟨z, rfl, hz, hX1, hM1⟩ := h
  refine lw_m dL_law_1230 ?_
  refine lw_call dL_law_1231 ll_149 ok_X7_image (by decide) ((c_M_image (G := G)  hM1 hI ).mono (fun r m h => toB2 hX1 (si_image hI ) h)) (ci := 7) rfl (by decide) rfl rfl rfl (Nat.le_of_ble_eq_true rfl) (fun r m h => ?_)
  obtain ⟨z2, rfl, hz2, hX2, hM2⟩ := h
  refine lw_eq 1311 dL_law_1234 (by decide) (hz.trans hz2.symm) ?_
  exact kk _ ⟨_, hX2, hM2, si_image hI ⟩
set_option maxHeartbeats 4000000 in
set_option maxRecDepth 100000 in
theorem lc_undo {X : lX} {G : mG} {i : Int} {μ : mMem} (hi : lB X i) (hB : BOTH μ) (kk : ∀ m : mMem, BOTH m → lW X G 1311 i [] m) : lW X G 1239 i [] μ := by
  obtain ⟨st, hX, hM, hI⟩ := hB
  refine lw_x dL_law_1239 ?_
  refine lw_call dL_law_1240 ll_150 ok_X6_undo (by decide) ((c_X_undo (G := G)  hX hI ).mono (fun r m h => toB1 hM h)) (ci := 6) rfl (by decide) rfl rfl rfl (Nat.le_of_ble_eq_true rfl) (fun r m h => ?_)
  obtain ⟨z, rfl, hz, hX1, hM1⟩ := h
  refine lw_m dL_law_1243 ?_
  refine lw_call dL_law_1244 ll_153 ok_X7_undo (by decide) ((c_M_undo (G := G)  hM1 hI ).mono (fun r m h => toB2 hX1 (si_undo hI ) h)) (ci := 7) rfl (by decide) rfl rfl rfl (Nat.le_of_ble_eq_true rfl) (fun r m h => ?_)
  obtain ⟨z2, rfl, hz2, hX2, hM2⟩ := h
  refine lw_eq 1311 dL_law_1247 (by decide) (hz.trans hz2.symm) ?_
  exact kk _ ⟨_, hX2, hM2, si_undo hI ⟩
set_option maxHeartbeats 4000000 in
set_option maxRecDepth 100000 in
theorem lc_tear {X : lX} {G : mG} {i : Int} {μ : mMem} (hi : lB X i) (hB : BOTH μ) (kk : ∀ m : mMem, BOTH m → lW X G 1311 i [] m) : lW X G 1252 i [] μ := by
  obtain ⟨st, hX, hM, hI⟩ := hB
  refine lw_x dL_law_1252 ?_
  refine lw_call dL_law_1253 ll_154 ok_X6_tear (by decide) ((c_X_tear (G := G)  hX hI ).mono (fun r m h => toB1 hM h)) (ci := 6) rfl (by decide) rfl rfl rfl (Nat.le_of_ble_eq_true rfl) (fun r m h => ?_)
  obtain ⟨z, rfl, hz, hX1, hM1⟩ := h
  refine lw_m dL_law_1256 ?_
  refine lw_call dL_law_1257 ll_157 ok_X7_tear (by decide) ((c_M_tear (G := G)  hM1 hI ).mono (fun r m h => toB2 hX1 (si_tear hI ) h)) (ci := 7) rfl (by decide) rfl rfl rfl (Nat.le_of_ble_eq_true rfl) (fun r m h => ?_)
  obtain ⟨z2, rfl, hz2, hX2, hM2⟩ := h
  refine lw_eq 1311 dL_law_1260 (by decide) (hz.trans hz2.symm) ?_
  exact kk _ ⟨_, hX2, hM2, si_tear hI ⟩
set_option maxHeartbeats 4000000 in
set_option maxRecDepth 100000 in
theorem lc_count {X : lX} {G : mG} {i : Int} {μ : mMem} (hi : lB X i) (hB : BOTH μ) (kk : ∀ m : mMem, BOTH m → lW X G 1311 i [] m) : lW X G 1265 i [] μ := by
  obtain ⟨st, hX, hM, hI⟩ := hB
  refine lw_x dL_law_1265 ?_
  refine lw_ld dL_law_1266 dL_law_1267 dL_law_1268 dL_law_1269 dL_law_1270 hi (by decide) ?_
  refine lw_call dL_law_1271 ll_158 ok_X6_count (by decide) ((c_X_count (G := G) (v := lA X i 1) hX hI (lA_bd X i 1)).mono (fun r m h => toB1 hM h)) (ci := 6) rfl (by decide) rfl rfl rfl (Nat.le_of_ble_eq_true rfl) (fun r m h => ?_)
  obtain ⟨z, rfl, hz, hX1, hM1⟩ := h
  refine lw_m dL_law_1274 ?_
  refine lw_ld dL_law_1275 dL_law_1276 dL_law_1277 dL_law_1278 dL_law_1279 hi (by decide) ?_
  refine lw_call dL_law_1280 ll_161 ok_X7_count (by decide) ((c_M_count (G := G) (v := lA X i 1) hM1 hI (lA_bd X i 1)).mono (fun r m h => toB2 hX1 (si_count hI _) h)) (ci := 7) rfl (by decide) rfl rfl rfl (Nat.le_of_ble_eq_true rfl) (fun r m h => ?_)
  obtain ⟨z2, rfl, hz2, hX2, hM2⟩ := h
  refine lw_eq 1311 dL_law_1283 (by decide) (hz.trans hz2.symm) ?_
  exact kk _ ⟨_, hX2, hM2, si_count hI _⟩
set_option maxHeartbeats 4000000 in
set_option maxRecDepth 100000 in
theorem lc_status {X : lX} {G : mG} {i : Int} {μ : mMem} (hi : lB X i) (hB : BOTH μ) (kk : ∀ m : mMem, BOTH m → lW X G 1311 i [] m) : lW X G 1288 i [] μ := by
  obtain ⟨st, hX, hM, hI⟩ := hB
  refine lw_x dL_law_1288 ?_
  refine lw_ld dL_law_1289 dL_law_1290 dL_law_1291 dL_law_1292 dL_law_1293 hi (by decide) ?_
  refine lw_call dL_law_1294 ll_162 ok_X6_status (by decide) ((c_X_status (G := G) (v := lA X i 1) hX hI (lA_bd X i 1)).mono (fun r m h => toB1 hM h)) (ci := 6) rfl (by decide) rfl rfl rfl (Nat.le_of_ble_eq_true rfl) (fun r m h => ?_)
  obtain ⟨z, rfl, hz, hX1, hM1⟩ := h
  refine lw_m dL_law_1297 ?_
  refine lw_ld dL_law_1298 dL_law_1299 dL_law_1300 dL_law_1301 dL_law_1302 hi (by decide) ?_
  refine lw_call dL_law_1303 ll_165 ok_X7_status (by decide) ((c_M_status (G := G) (v := lA X i 1) hM1 hI (lA_bd X i 1)).mono (fun r m h => toB2 hX1 (si_status hI _) h)) (ci := 7) rfl (by decide) rfl rfl rfl (Nat.le_of_ble_eq_true rfl) (fun r m h => ?_)
  obtain ⟨z2, rfl, hz2, hX2, hM2⟩ := h
  refine lw_eq 1311 dL_law_1306 (by decide) (hz.trans hz2.symm) ?_
  exact kk _ ⟨_, hX2, hM2, si_status hI _⟩

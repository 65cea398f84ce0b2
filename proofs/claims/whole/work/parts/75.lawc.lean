section AMC2
variable {V : am_V} {b Ln kc ks i : Nat} {xs : Nat → Int32} {f : Nat → Nat → Int32} {τ : Nat → Nat → Int64}
theorem c_feed (hLn : Ln ≤ 2560) (hi : i + 5 ≤ Ln) (hI : INV f) (k : ∀ S : fm, INV S.1 → AL V b Ln xs kc ks 1406 (LL i) [] (hp S)) : AL V b Ln xs kc ks 200 (LL i) [] (hp (f, τ)) := by
  refine al_aload (i := 1) (x := 0) dL_200 rfl rfl ?_
  refine al_arg (j := 1) hLn hi (by omega) dL_201 dL_202 dL_203 (by decide) dL_204 dL_205 ?_
  refine al_callV (M' := MX4_feed) (a := 0) (ci := 4) (as := [.int (xs (i + 1))]) dL_206 lmL_13 oX4_feed (by show Option.map _ _ = some 1; decide +kernel) tb_0 rfl rfl rfl (Nat.le_of_ble_eq_true rfl) (b_feed hI (xs (i + 1))) (fun r1 S1 h1 => ?_)
  refine al_aload (i := 2) (x := 64) dL_209 rfl rfl ?_
  refine al_arg (j := 1) hLn hi (by omega) dL_210 dL_211 dL_212 (by decide) dL_213 dL_214 ?_
  refine al_callV (M' := MX5_feed) (a := 64) (ci := 5) (as := [.int (xs (i + 1))]) dL_215 lmL_17 oX5_feed (by show Option.map _ _ = some 1; decide +kernel) tb_M rfl rfl rfl (Nat.le_of_ble_eq_true rfl) h1 (fun r2 S2 h2 => ?_)
  exact al_same (tgt := 1406) dL_218 (by decide) h2.1 (k S2 h2.2)
theorem c_end (hLn : Ln ≤ 2560) (hi : i + 5 ≤ Ln) (hI : INV f) (k : ∀ S : fm, INV S.1 → AL V b Ln xs kc ks 1406 (LL i) [] (hp S)) : AL V b Ln xs kc ks 223 (LL i) [] (hp (f, τ)) := by
  refine al_aload (i := 1) (x := 0) dL_223 rfl rfl ?_
  refine al_arg (j := 1) hLn hi (by omega) dL_224 dL_225 dL_226 (by decide) dL_227 dL_228 ?_
  refine al_callV (M' := MX4_end) (a := 0) (ci := 4) (as := [.int (xs (i + 1))]) dL_229 lmL_18 oX4_end (by show Option.map _ _ = some 1; decide +kernel) tb_0 rfl rfl rfl (Nat.le_of_ble_eq_true rfl) (b_end hI (xs (i + 1))) (fun r1 S1 h1 => ?_)
  refine al_aload (i := 2) (x := 64) dL_232 rfl rfl ?_
  refine al_arg (j := 1) hLn hi (by omega) dL_233 dL_234 dL_235 (by decide) dL_236 dL_237 ?_
  refine al_callV (M' := MX5_end) (a := 64) (ci := 5) (as := [.int (xs (i + 1))]) dL_238 lmL_21 oX5_end (by show Option.map _ _ = some 1; decide +kernel) tb_M rfl rfl rfl (Nat.le_of_ble_eq_true rfl) h1 (fun r2 S2 h2 => ?_)
  exact al_same (tgt := 1406) dL_241 (by decide) h2.1 (k S2 h2.2)
theorem c_text (hLn : Ln ≤ 2560) (hi : i + 5 ≤ Ln) (hI : INV f) (k : ∀ S : fm, INV S.1 → AL V b Ln xs kc ks 1406 (LL i) [] (hp S)) : AL V b Ln xs kc ks 246 (LL i) [] (hp (f, τ)) := by
  refine al_aload (i := 1) (x := 0) dL_246 rfl rfl ?_
  refine al_callV (M' := MX4_text) (a := 0) (ci := 4) (as := []) dL_247 lmL_22 oX4_text (by show Option.map _ _ = some 0; decide +kernel) tb_0 rfl rfl rfl (Nat.le_of_ble_eq_true rfl) (b_text hI) (fun r1 S1 h1 => ?_)
  refine al_aload (i := 2) (x := 64) dL_250 rfl rfl ?_
  refine al_callV (M' := MX5_text) (a := 64) (ci := 5) (as := []) dL_251 lmL_26 oX5_text (by show Option.map _ _ = some 0; decide +kernel) tb_M rfl rfl rfl (Nat.le_of_ble_eq_true rfl) h1 (fun r2 S2 h2 => ?_)
  exact al_same (tgt := 1406) dL_254 (by decide) h2.1 (k S2 h2.2)
theorem c_fault (hLn : Ln ≤ 2560) (hi : i + 5 ≤ Ln) (hI : INV f) (k : ∀ S : fm, INV S.1 → AL V b Ln xs kc ks 1406 (LL i) [] (hp S)) : AL V b Ln xs kc ks 259 (LL i) [] (hp (f, τ)) := by
  refine al_aload (i := 1) (x := 0) dL_259 rfl rfl ?_
  refine al_callV (M' := MX4_fault) (a := 0) (ci := 4) (as := []) dL_260 lmL_27 oX4_fault (by show Option.map _ _ = some 0; decide +kernel) tb_0 rfl rfl rfl (Nat.le_of_ble_eq_true rfl) (b_fault hI) (fun r1 S1 h1 => ?_)
  refine al_aload (i := 2) (x := 64) dL_263 rfl rfl ?_
  refine al_callV (M' := MX5_fault) (a := 64) (ci := 5) (as := []) dL_264 lmL_30 oX5_fault (by show Option.map _ _ = some 0; decide +kernel) tb_M rfl rfl rfl (Nat.le_of_ble_eq_true rfl) h1 (fun r2 S2 h2 => ?_)
  exact al_same (tgt := 1406) dL_267 (by decide) h2.1 (k S2 h2.2)
theorem c_rule (hLn : Ln ≤ 2560) (hi : i + 5 ≤ Ln) (hI : INV f) (k : ∀ S : fm, INV S.1 → AL V b Ln xs kc ks 1406 (LL i) [] (hp S)) : AL V b Ln xs kc ks 272 (LL i) [] (hp (f, τ)) := by
  refine al_aload (i := 1) (x := 0) dL_272 rfl rfl ?_
  refine al_arg (j := 1) hLn hi (by omega) dL_273 dL_274 dL_275 (by decide) dL_276 dL_277 ?_
  refine al_callV (M' := MX4_rule) (a := 0) (ci := 4) (as := [.int (xs (i + 1))]) dL_278 lmL_31 oX4_rule (by show Option.map _ _ = some 1; decide +kernel) tb_0 rfl rfl rfl (Nat.le_of_ble_eq_true rfl) (b_rule hI (xs (i + 1))) (fun r1 S1 h1 => ?_)
  refine al_aload (i := 2) (x := 64) dL_281 rfl rfl ?_
  refine al_arg (j := 1) hLn hi (by omega) dL_282 dL_283 dL_284 (by decide) dL_285 dL_286 ?_
  refine al_callV (M' := MX5_rule) (a := 64) (ci := 5) (as := [.int (xs (i + 1))]) dL_287 lmL_34 oX5_rule (by show Option.map _ _ = some 1; decide +kernel) tb_M rfl rfl rfl (Nat.le_of_ble_eq_true rfl) h1 (fun r2 S2 h2 => ?_)
  exact al_same (tgt := 1406) dL_290 (by decide) h2.1 (k S2 h2.2)
theorem c_key (hLn : Ln ≤ 2560) (hi : i + 5 ≤ Ln) (hI : INV f) (k : ∀ S : fm, INV S.1 → AL V b Ln xs kc ks 1406 (LL i) [] (hp S)) : AL V b Ln xs kc ks 295 (LL i) [] (hp (f, τ)) := by
  refine al_aload (i := 1) (x := 0) dL_295 rfl rfl ?_
  refine al_arg (j := 1) hLn hi (by omega) dL_296 dL_297 dL_298 (by decide) dL_299 dL_300 ?_
  refine al_arg (j := 2) hLn hi (by omega) dL_301 dL_302 dL_303 (by decide) dL_304 dL_305 ?_
  refine al_callV (M' := MX4_key) (a := 0) (ci := 4) (as := [.int (xs (i + 1)), .int (xs (i + 2))]) dL_306 lmL_35 oX4_key (by show Option.map _ _ = some 2; decide +kernel) tb_0 rfl rfl rfl (Nat.le_of_ble_eq_true rfl) (b_key hI (xs (i + 1)) (xs (i + 2))) (fun r1 S1 h1 => ?_)
  refine al_aload (i := 2) (x := 64) dL_309 rfl rfl ?_
  refine al_arg (j := 1) hLn hi (by omega) dL_310 dL_311 dL_312 (by decide) dL_313 dL_314 ?_
  refine al_arg (j := 2) hLn hi (by omega) dL_315 dL_316 dL_317 (by decide) dL_318 dL_319 ?_
  refine al_callV (M' := MX5_key) (a := 64) (ci := 5) (as := [.int (xs (i + 1)), .int (xs (i + 2))]) dL_320 lmL_39 oX5_key (by show Option.map _ _ = some 2; decide +kernel) tb_M rfl rfl rfl (Nat.le_of_ble_eq_true rfl) h1 (fun r2 S2 h2 => ?_)
  exact al_same (tgt := 1406) dL_323 (by decide) h2.1 (k S2 h2.2)
theorem c_press (hLn : Ln ≤ 2560) (hi : i + 5 ≤ Ln) (hI : INV f) (k : ∀ S : fm, INV S.1 → AL V b Ln xs kc ks 1406 (LL i) [] (hp S)) : AL V b Ln xs kc ks 328 (LL i) [] (hp (f, τ)) := by
  refine al_aload (i := 1) (x := 0) dL_328 rfl rfl ?_
  refine al_arg (j := 1) hLn hi (by omega) dL_329 dL_330 dL_331 (by decide) dL_332 dL_333 ?_
  refine al_arg (j := 2) hLn hi (by omega) dL_334 dL_335 dL_336 (by decide) dL_337 dL_338 ?_
  refine al_callV (M' := MX4_press) (a := 0) (ci := 4) (as := [.int (xs (i + 1)), .int (xs (i + 2))]) dL_339 lmL_40 oX4_press (by show Option.map _ _ = some 2; decide +kernel) tb_0 rfl rfl rfl (Nat.le_of_ble_eq_true rfl) (b_press hI (xs (i + 1)) (xs (i + 2))) (fun r1 S1 h1 => ?_)
  refine al_aload (i := 2) (x := 64) dL_342 rfl rfl ?_
  refine al_arg (j := 1) hLn hi (by omega) dL_343 dL_344 dL_345 (by decide) dL_346 dL_347 ?_
  refine al_arg (j := 2) hLn hi (by omega) dL_348 dL_349 dL_350 (by decide) dL_351 dL_352 ?_
  refine al_callV (M' := MX5_press) (a := 64) (ci := 5) (as := [.int (xs (i + 1)), .int (xs (i + 2))]) dL_353 lmL_43 oX5_press (by show Option.map _ _ = some 2; decide +kernel) tb_M rfl rfl rfl (Nat.le_of_ble_eq_true rfl) h1 (fun r2 S2 h2 => ?_)
  exact al_same (tgt := 1406) dL_356 (by decide) h2.1 (k S2 h2.2)
theorem c_contact (hLn : Ln ≤ 2560) (hi : i + 5 ≤ Ln) (hI : INV f) (k : ∀ S : fm, INV S.1 → AL V b Ln xs kc ks 1406 (LL i) [] (hp S)) : AL V b Ln xs kc ks 361 (LL i) [] (hp (f, τ)) := by
  refine al_aload (i := 1) (x := 0) dL_361 rfl rfl ?_
  refine al_arg (j := 1) hLn hi (by omega) dL_362 dL_363 dL_364 (by decide) dL_365 dL_366 ?_
  refine al_arg (j := 2) hLn hi (by omega) dL_367 dL_368 dL_369 (by decide) dL_370 dL_371 ?_
  refine al_callV (M' := MX4_contact) (a := 0) (ci := 4) (as := [.int (xs (i + 1)), .int (xs (i + 2))]) dL_372 lmL_44 oX4_contact (by show Option.map _ _ = some 2; decide +kernel) tb_0 rfl rfl rfl (Nat.le_of_ble_eq_true rfl) (b_contact hI (xs (i + 1)) (xs (i + 2))) (fun r1 S1 h1 => ?_)
  refine al_aload (i := 2) (x := 64) dL_375 rfl rfl ?_
  refine al_arg (j := 1) hLn hi (by omega) dL_376 dL_377 dL_378 (by decide) dL_379 dL_380 ?_
  refine al_arg (j := 2) hLn hi (by omega) dL_381 dL_382 dL_383 (by decide) dL_384 dL_385 ?_
  refine al_callV (M' := MX5_contact) (a := 64) (ci := 5) (as := [.int (xs (i + 1)), .int (xs (i + 2))]) dL_386 lmL_47 oX5_contact (by show Option.map _ _ = some 2; decide +kernel) tb_M rfl rfl rfl (Nat.le_of_ble_eq_true rfl) h1 (fun r2 S2 h2 => ?_)
  exact al_same (tgt := 1406) dL_389 (by decide) h2.1 (k S2 h2.2)
theorem c_alter (hLn : Ln ≤ 2560) (hi : i + 5 ≤ Ln) (hI : INV f) (k : ∀ S : fm, INV S.1 → AL V b Ln xs kc ks 1406 (LL i) [] (hp S)) : AL V b Ln xs kc ks 394 (LL i) [] (hp (f, τ)) := by
  refine al_aload (i := 1) (x := 0) dL_394 rfl rfl ?_
  refine al_arg (j := 1) hLn hi (by omega) dL_395 dL_396 dL_397 (by decide) dL_398 dL_399 ?_
  refine al_arg (j := 2) hLn hi (by omega) dL_400 dL_401 dL_402 (by decide) dL_403 dL_404 ?_
  refine al_arg (j := 3) hLn hi (by omega) dL_405 dL_406 dL_407 (by decide) dL_408 dL_409 ?_
  refine al_callV (M' := MX4_alter) (a := 0) (ci := 4) (as := [.int (xs (i + 1)), .int (xs (i + 2)), .int (xs (i + 3))]) dL_410 lmL_48 oX4_alter (by show Option.map _ _ = some 3; decide +kernel) tb_0 rfl rfl rfl (Nat.le_of_ble_eq_true rfl) (b_alter hI (xs (i + 1)) (xs (i + 2)) (xs (i + 3))) (fun r1 S1 h1 => ?_)
  refine al_aload (i := 2) (x := 64) dL_413 rfl rfl ?_
  refine al_arg (j := 1) hLn hi (by omega) dL_414 dL_415 dL_416 (by decide) dL_417 dL_418 ?_
  refine al_arg (j := 2) hLn hi (by omega) dL_419 dL_420 dL_421 (by decide) dL_422 dL_423 ?_
  refine al_arg (j := 3) hLn hi (by omega) dL_424 dL_425 dL_426 (by decide) dL_427 dL_428 ?_
  refine al_callV (M' := MX5_alter) (a := 64) (ci := 5) (as := [.int (xs (i + 1)), .int (xs (i + 2)), .int (xs (i + 3))]) dL_429 lmL_52 oX5_alter (by show Option.map _ _ = some 3; decide +kernel) tb_M rfl rfl rfl (Nat.le_of_ble_eq_true rfl) h1 (fun r2 S2 h2 => ?_)
  exact al_same (tgt := 1406) dL_432 (by decide) h2.1 (k S2 h2.2)
theorem c_every (hLn : Ln ≤ 2560) (hi : i + 5 ≤ Ln) (hI : INV f) (k : ∀ S : fm, INV S.1 → AL V b Ln xs kc ks 1406 (LL i) [] (hp S)) : AL V b Ln xs kc ks 437 (LL i) [] (hp (f, τ)) := by
  refine al_aload (i := 1) (x := 0) dL_437 rfl rfl ?_
  refine al_arg (j := 1) hLn hi (by omega) dL_438 dL_439 dL_440 (by decide) dL_441 dL_442 ?_
  refine al_callV (M' := MX4_every) (a := 0) (ci := 4) (as := [.int (xs (i + 1))]) dL_443 lmL_53 oX4_every (by show Option.map _ _ = some 1; decide +kernel) tb_0 rfl rfl rfl (Nat.le_of_ble_eq_true rfl) (b_every hI (xs (i + 1))) (fun r1 S1 h1 => ?_)
  refine al_aload (i := 2) (x := 64) dL_446 rfl rfl ?_
  refine al_arg (j := 1) hLn hi (by omega) dL_447 dL_448 dL_449 (by decide) dL_450 dL_451 ?_
  refine al_callV (M' := MX5_every) (a := 64) (ci := 5) (as := [.int (xs (i + 1))]) dL_452 lmL_56 oX5_every (by show Option.map _ _ = some 1; decide +kernel) tb_M rfl rfl rfl (Nat.le_of_ble_eq_true rfl) h1 (fun r2 S2 h2 => ?_)
  exact al_same (tgt := 1406) dL_455 (by decide) h2.1 (k S2 h2.2)
theorem c_strike (hLn : Ln ≤ 2560) (hi : i + 5 ≤ Ln) (hI : INV f) (k : ∀ S : fm, INV S.1 → AL V b Ln xs kc ks 1406 (LL i) [] (hp S)) : AL V b Ln xs kc ks 460 (LL i) [] (hp (f, τ)) := by
  refine al_aload (i := 1) (x := 0) dL_460 rfl rfl ?_
  refine al_arg (j := 1) hLn hi (by omega) dL_461 dL_462 dL_463 (by decide) dL_464 dL_465 ?_
  refine al_arg (j := 2) hLn hi (by omega) dL_466 dL_467 dL_468 (by decide) dL_469 dL_470 ?_
  refine al_arg (j := 3) hLn hi (by omega) dL_471 dL_472 dL_473 (by decide) dL_474 dL_475 ?_
  refine al_callV (M' := MX4_strike) (a := 0) (ci := 4) (as := [.int (xs (i + 1)), .int (xs (i + 2)), .int (xs (i + 3))]) dL_476 lmL_57 oX4_strike (by show Option.map _ _ = some 3; decide +kernel) tb_0 rfl rfl rfl (Nat.le_of_ble_eq_true rfl) (b_strike hI (xs (i + 1)) (xs (i + 2)) (xs (i + 3))) (fun r1 S1 h1 => ?_)
  refine al_aload (i := 2) (x := 64) dL_479 rfl rfl ?_
  refine al_arg (j := 1) hLn hi (by omega) dL_480 dL_481 dL_482 (by decide) dL_483 dL_484 ?_
  refine al_arg (j := 2) hLn hi (by omega) dL_485 dL_486 dL_487 (by decide) dL_488 dL_489 ?_
  refine al_arg (j := 3) hLn hi (by omega) dL_490 dL_491 dL_492 (by decide) dL_493 dL_494 ?_
  refine al_callV (M' := MX5_strike) (a := 64) (ci := 5) (as := [.int (xs (i + 1)), .int (xs (i + 2)), .int (xs (i + 3))]) dL_495 lmL_60 oX5_strike (by show Option.map _ _ = some 3; decide +kernel) tb_M rfl rfl rfl (Nat.le_of_ble_eq_true rfl) h1 (fun r2 S2 h2 => ?_)
  exact al_same (tgt := 1406) dL_498 (by decide) h2.1 (k S2 h2.2)
theorem c_drop (hLn : Ln ≤ 2560) (hi : i + 5 ≤ Ln) (hI : INV f) (k : ∀ S : fm, INV S.1 → AL V b Ln xs kc ks 1406 (LL i) [] (hp S)) : AL V b Ln xs kc ks 503 (LL i) [] (hp (f, τ)) := by
  refine al_aload (i := 1) (x := 0) dL_503 rfl rfl ?_
  refine al_arg (j := 1) hLn hi (by omega) dL_504 dL_505 dL_506 (by decide) dL_507 dL_508 ?_
  refine al_callV (M' := MX4_drop) (a := 0) (ci := 4) (as := [.int (xs (i + 1))]) dL_509 lmL_61 oX4_drop (by show Option.map _ _ = some 1; decide +kernel) tb_0 rfl rfl rfl (Nat.le_of_ble_eq_true rfl) (b_drop hI (xs (i + 1))) (fun r1 S1 h1 => ?_)
  refine al_aload (i := 2) (x := 64) dL_512 rfl rfl ?_
  refine al_arg (j := 1) hLn hi (by omega) dL_513 dL_514 dL_515 (by decide) dL_516 dL_517 ?_
  refine al_callV (M' := MX5_drop) (a := 64) (ci := 5) (as := [.int (xs (i + 1))]) dL_518 lmL_64 oX5_drop (by show Option.map _ _ = some 1; decide +kernel) tb_M rfl rfl rfl (Nat.le_of_ble_eq_true rfl) h1 (fun r2 S2 h2 => ?_)
  exact al_same (tgt := 1406) dL_521 (by decide) h2.1 (k S2 h2.2)
theorem c_ticks (hLn : Ln ≤ 2560) (hi : i + 5 ≤ Ln) (hI : INV f) (k : ∀ S : fm, INV S.1 → AL V b Ln xs kc ks 1406 (LL i) [] (hp S)) : AL V b Ln xs kc ks 526 (LL i) [] (hp (f, τ)) := by
  refine al_aload (i := 1) (x := 0) dL_526 rfl rfl ?_
  refine al_arg (j := 1) hLn hi (by omega) dL_527 dL_528 dL_529 (by decide) dL_530 dL_531 ?_
  refine al_callV (M' := MX4_ticks) (a := 0) (ci := 4) (as := [.int (xs (i + 1))]) dL_532 lmL_65 oX4_ticks (by show Option.map _ _ = some 1; decide +kernel) tb_0 rfl rfl rfl (Nat.le_of_ble_eq_true rfl) (b_ticks hI (xs (i + 1))) (fun r1 S1 h1 => ?_)
  refine al_aload (i := 2) (x := 64) dL_535 rfl rfl ?_
  refine al_arg (j := 1) hLn hi (by omega) dL_536 dL_537 dL_538 (by decide) dL_539 dL_540 ?_
  refine al_callV (M' := MX5_ticks) (a := 64) (ci := 5) (as := [.int (xs (i + 1))]) dL_541 lmL_68 oX5_ticks (by show Option.map _ _ = some 1; decide +kernel) tb_M rfl rfl rfl (Nat.le_of_ble_eq_true rfl) h1 (fun r2 S2 h2 => ?_)
  exact al_same (tgt := 1406) dL_544 (by decide) h2.1 (k S2 h2.2)
theorem c_runs (hLn : Ln ≤ 2560) (hi : i + 5 ≤ Ln) (hI : INV f) (k : ∀ S : fm, INV S.1 → AL V b Ln xs kc ks 1406 (LL i) [] (hp S)) : AL V b Ln xs kc ks 549 (LL i) [] (hp (f, τ)) := by
  refine al_aload (i := 1) (x := 0) dL_549 rfl rfl ?_
  refine al_arg (j := 1) hLn hi (by omega) dL_550 dL_551 dL_552 (by decide) dL_553 dL_554 ?_
  refine al_arg (j := 2) hLn hi (by omega) dL_555 dL_556 dL_557 (by decide) dL_558 dL_559 ?_
  refine al_callV (M' := MX4_runs) (a := 0) (ci := 4) (as := [.int (xs (i + 1)), .int (xs (i + 2))]) dL_560 lmL_69 oX4_runs (by show Option.map _ _ = some 2; decide +kernel) tb_0 rfl rfl rfl (Nat.le_of_ble_eq_true rfl) (b_runs hI (xs (i + 1)) (xs (i + 2))) (fun r1 S1 h1 => ?_)
  refine al_aload (i := 2) (x := 64) dL_563 rfl rfl ?_
  refine al_arg (j := 1) hLn hi (by omega) dL_564 dL_565 dL_566 (by decide) dL_567 dL_568 ?_
  refine al_arg (j := 2) hLn hi (by omega) dL_569 dL_570 dL_571 (by decide) dL_572 dL_573 ?_
  refine al_callV (M' := MX5_runs) (a := 64) (ci := 5) (as := [.int (xs (i + 1)), .int (xs (i + 2))]) dL_574 lmL_72 oX5_runs (by show Option.map _ _ = some 2; decide +kernel) tb_M rfl rfl rfl (Nat.le_of_ble_eq_true rfl) h1 (fun r2 S2 h2 => ?_)
  exact al_same (tgt := 1406) dL_577 (by decide) h2.1 (k S2 h2.2)
theorem c_ahead (hLn : Ln ≤ 2560) (hi : i + 5 ≤ Ln) (hI : INV f) (k : ∀ S : fm, INV S.1 → AL V b Ln xs kc ks 1406 (LL i) [] (hp S)) : AL V b Ln xs kc ks 582 (LL i) [] (hp (f, τ)) := by
  refine al_aload (i := 1) (x := 0) dL_582 rfl rfl ?_
  refine al_arg (j := 1) hLn hi (by omega) dL_583 dL_584 dL_585 (by decide) dL_586 dL_587 ?_
  refine al_arg (j := 2) hLn hi (by omega) dL_588 dL_589 dL_590 (by decide) dL_591 dL_592 ?_
  refine al_arg (j := 3) hLn hi (by omega) dL_593 dL_594 dL_595 (by decide) dL_596 dL_597 ?_
  refine al_callV (M' := MX4_ahead) (a := 0) (ci := 4) (as := [.int (xs (i + 1)), .int (xs (i + 2)), .int (xs (i + 3))]) dL_598 lmL_73 oX4_ahead (by show Option.map _ _ = some 3; decide +kernel) tb_0 rfl rfl rfl (Nat.le_of_ble_eq_true rfl) (b_ahead hI (xs (i + 1)) (xs (i + 2)) (xs (i + 3))) (fun r1 S1 h1 => ?_)
  refine al_aload (i := 2) (x := 64) dL_601 rfl rfl ?_
  refine al_arg (j := 1) hLn hi (by omega) dL_602 dL_603 dL_604 (by decide) dL_605 dL_606 ?_
  refine al_arg (j := 2) hLn hi (by omega) dL_607 dL_608 dL_609 (by decide) dL_610 dL_611 ?_
  refine al_arg (j := 3) hLn hi (by omega) dL_612 dL_613 dL_614 (by decide) dL_615 dL_616 ?_
  refine al_callV (M' := MX5_ahead) (a := 64) (ci := 5) (as := [.int (xs (i + 1)), .int (xs (i + 2)), .int (xs (i + 3))]) dL_617 lmL_76 oX5_ahead (by show Option.map _ _ = some 3; decide +kernel) tb_M rfl rfl rfl (Nat.le_of_ble_eq_true rfl) h1 (fun r2 S2 h2 => ?_)
  exact al_same (tgt := 1406) dL_620 (by decide) h2.1 (k S2 h2.2)
theorem c_when (hLn : Ln ≤ 2560) (hi : i + 5 ≤ Ln) (hI : INV f) (k : ∀ S : fm, INV S.1 → AL V b Ln xs kc ks 1406 (LL i) [] (hp S)) : AL V b Ln xs kc ks 625 (LL i) [] (hp (f, τ)) := by
  refine al_aload (i := 1) (x := 0) dL_625 rfl rfl ?_
  refine al_arg (j := 1) hLn hi (by omega) dL_626 dL_627 dL_628 (by decide) dL_629 dL_630 ?_
  refine al_arg (j := 2) hLn hi (by omega) dL_631 dL_632 dL_633 (by decide) dL_634 dL_635 ?_
  refine al_callV (M' := MX4_when) (a := 0) (ci := 4) (as := [.int (xs (i + 1)), .int (xs (i + 2))]) dL_636 lmL_77 oX4_when (by show Option.map _ _ = some 2; decide +kernel) tb_0 rfl rfl rfl (Nat.le_of_ble_eq_true rfl) (b_when hI (xs (i + 1)) (xs (i + 2))) (fun r1 S1 h1 => ?_)
  refine al_aload (i := 2) (x := 64) dL_639 rfl rfl ?_
  refine al_arg (j := 1) hLn hi (by omega) dL_640 dL_641 dL_642 (by decide) dL_643 dL_644 ?_
  refine al_arg (j := 2) hLn hi (by omega) dL_645 dL_646 dL_647 (by decide) dL_648 dL_649 ?_
  refine al_callV (M' := MX5_when) (a := 64) (ci := 5) (as := [.int (xs (i + 1)), .int (xs (i + 2))]) dL_650 lmL_80 oX5_when (by show Option.map _ _ = some 2; decide +kernel) tb_M rfl rfl rfl (Nat.le_of_ble_eq_true rfl) h1 (fun r2 S2 h2 => ?_)
  exact al_same (tgt := 1406) dL_653 (by decide) h2.1 (k S2 h2.2)
theorem c_due (hLn : Ln ≤ 2560) (hi : i + 5 ≤ Ln) (hI : INV f) (k : ∀ S : fm, INV S.1 → AL V b Ln xs kc ks 1406 (LL i) [] (hp S)) : AL V b Ln xs kc ks 658 (LL i) [] (hp (f, τ)) := by
  refine al_aload (i := 1) (x := 0) dL_658 rfl rfl ?_
  refine al_arg (j := 1) hLn hi (by omega) dL_659 dL_660 dL_661 (by decide) dL_662 dL_663 ?_
  refine al_callV (M' := MX4_due) (a := 0) (ci := 4) (as := [.int (xs (i + 1))]) dL_664 lmL_81 oX4_due (by show Option.map _ _ = some 1; decide +kernel) tb_0 rfl rfl rfl (Nat.le_of_ble_eq_true rfl) (b_due hI (xs (i + 1))) (fun r1 S1 h1 => ?_)
  refine al_aload (i := 2) (x := 64) dL_667 rfl rfl ?_
  refine al_arg (j := 1) hLn hi (by omega) dL_668 dL_669 dL_670 (by decide) dL_671 dL_672 ?_
  refine al_callV (M' := MX5_due) (a := 64) (ci := 5) (as := [.int (xs (i + 1))]) dL_673 lmL_84 oX5_due (by show Option.map _ _ = some 1; decide +kernel) tb_M rfl rfl rfl (Nat.le_of_ble_eq_true rfl) h1 (fun r2 S2 h2 => ?_)
  exact al_same (tgt := 1406) dL_676 (by decide) h2.1 (k S2 h2.2)
theorem c_need (hLn : Ln ≤ 2560) (hi : i + 5 ≤ Ln) (hI : INV f) (k : ∀ S : fm, INV S.1 → AL V b Ln xs kc ks 1406 (LL i) [] (hp S)) : AL V b Ln xs kc ks 681 (LL i) [] (hp (f, τ)) := by
  refine al_aload (i := 1) (x := 0) dL_681 rfl rfl ?_
  refine al_arg (j := 1) hLn hi (by omega) dL_682 dL_683 dL_684 (by decide) dL_685 dL_686 ?_
  refine al_arg (j := 2) hLn hi (by omega) dL_687 dL_688 dL_689 (by decide) dL_690 dL_691 ?_
  refine al_arg (j := 3) hLn hi (by omega) dL_692 dL_693 dL_694 (by decide) dL_695 dL_696 ?_
  refine al_callV (M' := MX4_need) (a := 0) (ci := 4) (as := [.int (xs (i + 1)), .int (xs (i + 2)), .int (xs (i + 3))]) dL_697 lmL_85 oX4_need (by show Option.map _ _ = some 3; decide +kernel) tb_0 rfl rfl rfl (Nat.le_of_ble_eq_true rfl) (b_need hI (xs (i + 1)) (xs (i + 2)) (xs (i + 3))) (fun r1 S1 h1 => ?_)
  refine al_aload (i := 2) (x := 64) dL_700 rfl rfl ?_
  refine al_arg (j := 1) hLn hi (by omega) dL_701 dL_702 dL_703 (by decide) dL_704 dL_705 ?_
  refine al_arg (j := 2) hLn hi (by omega) dL_706 dL_707 dL_708 (by decide) dL_709 dL_710 ?_
  refine al_arg (j := 3) hLn hi (by omega) dL_711 dL_712 dL_713 (by decide) dL_714 dL_715 ?_
  refine al_callV (M' := MX5_need) (a := 64) (ci := 5) (as := [.int (xs (i + 1)), .int (xs (i + 2)), .int (xs (i + 3))]) dL_716 lmL_88 oX5_need (by show Option.map _ _ = some 3; decide +kernel) tb_M rfl rfl rfl (Nat.le_of_ble_eq_true rfl) h1 (fun r2 S2 h2 => ?_)
  exact al_same (tgt := 1406) dL_719 (by decide) h2.1 (k S2 h2.2)
theorem c_bear (hLn : Ln ≤ 2560) (hi : i + 5 ≤ Ln) (hI : INV f) (k : ∀ S : fm, INV S.1 → AL V b Ln xs kc ks 1406 (LL i) [] (hp S)) : AL V b Ln xs kc ks 724 (LL i) [] (hp (f, τ)) := by
  refine al_aload (i := 1) (x := 0) dL_724 rfl rfl ?_
  refine al_arg (j := 1) hLn hi (by omega) dL_725 dL_726 dL_727 (by decide) dL_728 dL_729 ?_
  refine al_arg (j := 2) hLn hi (by omega) dL_730 dL_731 dL_732 (by decide) dL_733 dL_734 ?_
  refine al_arg (j := 3) hLn hi (by omega) dL_735 dL_736 dL_737 (by decide) dL_738 dL_739 ?_
  refine al_callV (M' := MX4_bear) (a := 0) (ci := 4) (as := [.int (xs (i + 1)), .int (xs (i + 2)), .int (xs (i + 3))]) dL_740 lmL_89 oX4_bear (by show Option.map _ _ = some 3; decide +kernel) tb_0 rfl rfl rfl (Nat.le_of_ble_eq_true rfl) (b_bear hI (xs (i + 1)) (xs (i + 2)) (xs (i + 3))) (fun r1 S1 h1 => ?_)
  refine al_aload (i := 2) (x := 64) dL_743 rfl rfl ?_
  refine al_arg (j := 1) hLn hi (by omega) dL_744 dL_745 dL_746 (by decide) dL_747 dL_748 ?_
  refine al_arg (j := 2) hLn hi (by omega) dL_749 dL_750 dL_751 (by decide) dL_752 dL_753 ?_
  refine al_arg (j := 3) hLn hi (by omega) dL_754 dL_755 dL_756 (by decide) dL_757 dL_758 ?_
  refine al_callV (M' := MX5_bear) (a := 64) (ci := 5) (as := [.int (xs (i + 1)), .int (xs (i + 2)), .int (xs (i + 3))]) dL_759 lmL_92 oX5_bear (by show Option.map _ _ = some 3; decide +kernel) tb_M rfl rfl rfl (Nat.le_of_ble_eq_true rfl) h1 (fun r2 S2 h2 => ?_)
  exact al_same (tgt := 1406) dL_762 (by decide) h2.1 (k S2 h2.2)
theorem c_kind (hLn : Ln ≤ 2560) (hi : i + 5 ≤ Ln) (hI : INV f) (k : ∀ S : fm, INV S.1 → AL V b Ln xs kc ks 1406 (LL i) [] (hp S)) : AL V b Ln xs kc ks 767 (LL i) [] (hp (f, τ)) := by
  refine al_aload (i := 1) (x := 0) dL_767 rfl rfl ?_
  refine al_arg (j := 1) hLn hi (by omega) dL_768 dL_769 dL_770 (by decide) dL_771 dL_772 ?_
  refine al_arg (j := 2) hLn hi (by omega) dL_773 dL_774 dL_775 (by decide) dL_776 dL_777 ?_
  refine al_arg (j := 3) hLn hi (by omega) dL_778 dL_779 dL_780 (by decide) dL_781 dL_782 ?_
  refine al_callV (M' := MX4_kind) (a := 0) (ci := 4) (as := [.int (xs (i + 1)), .int (xs (i + 2)), .int (xs (i + 3))]) dL_783 lmL_93 oX4_kind (by show Option.map _ _ = some 3; decide +kernel) tb_0 rfl rfl rfl (Nat.le_of_ble_eq_true rfl) (b_kind hI (xs (i + 1)) (xs (i + 2)) (xs (i + 3))) (fun r1 S1 h1 => ?_)
  refine al_aload (i := 2) (x := 64) dL_786 rfl rfl ?_
  refine al_arg (j := 1) hLn hi (by omega) dL_787 dL_788 dL_789 (by decide) dL_790 dL_791 ?_
  refine al_arg (j := 2) hLn hi (by omega) dL_792 dL_793 dL_794 (by decide) dL_795 dL_796 ?_
  refine al_arg (j := 3) hLn hi (by omega) dL_797 dL_798 dL_799 (by decide) dL_800 dL_801 ?_
  refine al_callV (M' := MX5_kind) (a := 64) (ci := 5) (as := [.int (xs (i + 1)), .int (xs (i + 2)), .int (xs (i + 3))]) dL_802 lmL_96 oX5_kind (by show Option.map _ _ = some 3; decide +kernel) tb_M rfl rfl rfl (Nat.le_of_ble_eq_true rfl) h1 (fun r2 S2 h2 => ?_)
  exact al_same (tgt := 1406) dL_805 (by decide) h2.1 (k S2 h2.2)
theorem c_slow (hLn : Ln ≤ 2560) (hi : i + 5 ≤ Ln) (hI : INV f) (k : ∀ S : fm, INV S.1 → AL V b Ln xs kc ks 1406 (LL i) [] (hp S)) : AL V b Ln xs kc ks 810 (LL i) [] (hp (f, τ)) := by
  refine al_aload (i := 1) (x := 0) dL_810 rfl rfl ?_
  refine al_arg (j := 1) hLn hi (by omega) dL_811 dL_812 dL_813 (by decide) dL_814 dL_815 ?_
  refine al_arg (j := 2) hLn hi (by omega) dL_816 dL_817 dL_818 (by decide) dL_819 dL_820 ?_
  refine al_callV (M' := MX4_slow) (a := 0) (ci := 4) (as := [.int (xs (i + 1)), .int (xs (i + 2))]) dL_821 lmL_97 oX4_slow (by show Option.map _ _ = some 2; decide +kernel) tb_0 rfl rfl rfl (Nat.le_of_ble_eq_true rfl) (b_slow hI (xs (i + 1)) (xs (i + 2))) (fun r1 S1 h1 => ?_)
  refine al_aload (i := 2) (x := 64) dL_824 rfl rfl ?_
  refine al_arg (j := 1) hLn hi (by omega) dL_825 dL_826 dL_827 (by decide) dL_828 dL_829 ?_
  refine al_arg (j := 2) hLn hi (by omega) dL_830 dL_831 dL_832 (by decide) dL_833 dL_834 ?_
  refine al_callV (M' := MX5_slow) (a := 64) (ci := 5) (as := [.int (xs (i + 1)), .int (xs (i + 2))]) dL_835 lmL_100 oX5_slow (by show Option.map _ _ = some 2; decide +kernel) tb_M rfl rfl rfl (Nat.le_of_ble_eq_true rfl) h1 (fun r2 S2 h2 => ?_)
  exact al_same (tgt := 1406) dL_838 (by decide) h2.1 (k S2 h2.2)
theorem c_lose (hLn : Ln ≤ 2560) (hi : i + 5 ≤ Ln) (hI : INV f) (k : ∀ S : fm, INV S.1 → AL V b Ln xs kc ks 1406 (LL i) [] (hp S)) : AL V b Ln xs kc ks 843 (LL i) [] (hp (f, τ)) := by
  refine al_aload (i := 1) (x := 0) dL_843 rfl rfl ?_
  refine al_arg (j := 1) hLn hi (by omega) dL_844 dL_845 dL_846 (by decide) dL_847 dL_848 ?_
  refine al_arg (j := 2) hLn hi (by omega) dL_849 dL_850 dL_851 (by decide) dL_852 dL_853 ?_
  refine al_callV (M' := MX4_lose) (a := 0) (ci := 4) (as := [.int (xs (i + 1)), .int (xs (i + 2))]) dL_854 lmL_101 oX4_lose (by show Option.map _ _ = some 2; decide +kernel) tb_0 rfl rfl rfl (Nat.le_of_ble_eq_true rfl) (b_lose hI (xs (i + 1)) (xs (i + 2))) (fun r1 S1 h1 => ?_)
  refine al_aload (i := 2) (x := 64) dL_857 rfl rfl ?_
  refine al_arg (j := 1) hLn hi (by omega) dL_858 dL_859 dL_860 (by decide) dL_861 dL_862 ?_
  refine al_arg (j := 2) hLn hi (by omega) dL_863 dL_864 dL_865 (by decide) dL_866 dL_867 ?_
  refine al_callV (M' := MX5_lose) (a := 64) (ci := 5) (as := [.int (xs (i + 1)), .int (xs (i + 2))]) dL_868 lmL_104 oX5_lose (by show Option.map _ _ = some 2; decide +kernel) tb_M rfl rfl rfl (Nat.le_of_ble_eq_true rfl) h1 (fun r2 S2 h2 => ?_)
  exact al_same (tgt := 1406) dL_871 (by decide) h2.1 (k S2 h2.2)
theorem c_luck (hLn : Ln ≤ 2560) (hi : i + 5 ≤ Ln) (hI : INV f) (k : ∀ S : fm, INV S.1 → AL V b Ln xs kc ks 1406 (LL i) [] (hp S)) : AL V b Ln xs kc ks 876 (LL i) [] (hp (f, τ)) := by
  refine al_aload (i := 1) (x := 0) dL_876 rfl rfl ?_
  refine al_arg (j := 1) hLn hi (by omega) dL_877 dL_878 dL_879 (by decide) dL_880 dL_881 ?_
  refine al_arg (j := 2) hLn hi (by omega) dL_882 dL_883 dL_884 (by decide) dL_885 dL_886 ?_
  refine al_arg (j := 3) hLn hi (by omega) dL_887 dL_888 dL_889 (by decide) dL_890 dL_891 ?_
  refine al_arg (j := 4) hLn hi (by omega) dL_892 dL_893 dL_894 (by decide) dL_895 dL_896 ?_
  refine al_callVL (M' := MX4_luck) (a := 0) (ci := 4) (as := [.int (xs (i + 1)), .int (xs (i + 2)), .int (xs (i + 3)), .int (xs (i + 4))]) dL_897 lmL_105 oX4_luck (by show Option.map _ _ = some 4; decide +kernel) tb_0 rfl rfl rfl (Nat.le_of_ble_eq_true rfl) (b_luck hI (xs (i + 1)) (xs (i + 2)) (xs (i + 3)) (xs (i + 4))) (fun r1 S1 h1 => ?_)
  refine al_aload (i := 2) (x := 64) dL_900 rfl rfl ?_
  refine al_arg (j := 1) hLn hi (by omega) dL_901 dL_902 dL_903 (by decide) dL_904 dL_905 ?_
  refine al_arg (j := 2) hLn hi (by omega) dL_906 dL_907 dL_908 (by decide) dL_909 dL_910 ?_
  refine al_arg (j := 3) hLn hi (by omega) dL_911 dL_912 dL_913 (by decide) dL_914 dL_915 ?_
  refine al_arg (j := 4) hLn hi (by omega) dL_916 dL_917 dL_918 (by decide) dL_919 dL_920 ?_
  refine al_callVL (M' := MX5_luck) (a := 64) (ci := 5) (as := [.int (xs (i + 1)), .int (xs (i + 2)), .int (xs (i + 3)), .int (xs (i + 4))]) dL_921 lmL_109 oX5_luck (by show Option.map _ _ = some 4; decide +kernel) tb_M rfl rfl rfl (Nat.le_of_ble_eq_true rfl) h1 (fun r2 S2 h2 => ?_)
  exact al_sameL (tgt := 1406) dL_924 dL_925 (by decide) h2.1 (k S2 h2.2)
theorem c_mean (hLn : Ln ≤ 2560) (hi : i + 5 ≤ Ln) (hI : INV f) (k : ∀ S : fm, INV S.1 → AL V b Ln xs kc ks 1406 (LL i) [] (hp S)) : AL V b Ln xs kc ks 930 (LL i) [] (hp (f, τ)) := by
  refine al_aload (i := 1) (x := 0) dL_930 rfl rfl ?_
  refine al_arg (j := 1) hLn hi (by omega) dL_931 dL_932 dL_933 (by decide) dL_934 dL_935 ?_
  refine al_arg (j := 2) hLn hi (by omega) dL_936 dL_937 dL_938 (by decide) dL_939 dL_940 ?_
  refine al_arg (j := 3) hLn hi (by omega) dL_941 dL_942 dL_943 (by decide) dL_944 dL_945 ?_
  refine al_callVL (M' := MX4_mean) (a := 0) (ci := 4) (as := [.int (xs (i + 1)), .int (xs (i + 2)), .int (xs (i + 3))]) dL_946 lmL_110 oX4_mean (by show Option.map _ _ = some 3; decide +kernel) tb_0 rfl rfl rfl (Nat.le_of_ble_eq_true rfl) (b_mean hI (xs (i + 1)) (xs (i + 2)) (xs (i + 3))) (fun r1 S1 h1 => ?_)
  refine al_aload (i := 2) (x := 64) dL_949 rfl rfl ?_
  refine al_arg (j := 1) hLn hi (by omega) dL_950 dL_951 dL_952 (by decide) dL_953 dL_954 ?_
  refine al_arg (j := 2) hLn hi (by omega) dL_955 dL_956 dL_957 (by decide) dL_958 dL_959 ?_
  refine al_arg (j := 3) hLn hi (by omega) dL_960 dL_961 dL_962 (by decide) dL_963 dL_964 ?_
  refine al_callVL (M' := MX5_mean) (a := 64) (ci := 5) (as := [.int (xs (i + 1)), .int (xs (i + 2)), .int (xs (i + 3))]) dL_965 lmL_114 oX5_mean (by show Option.map _ _ = some 3; decide +kernel) tb_M rfl rfl rfl (Nat.le_of_ble_eq_true rfl) h1 (fun r2 S2 h2 => ?_)
  exact al_sameL (tgt := 1406) dL_968 dL_969 (by decide) h2.1 (k S2 h2.2)
theorem c_see (hLn : Ln ≤ 2560) (hi : i + 5 ≤ Ln) (hI : INV f) (k : ∀ S : fm, INV S.1 → AL V b Ln xs kc ks 1406 (LL i) [] (hp S)) : AL V b Ln xs kc ks 974 (LL i) [] (hp (f, τ)) := by
  refine al_aload (i := 1) (x := 0) dL_974 rfl rfl ?_
  refine al_arg (j := 1) hLn hi (by omega) dL_975 dL_976 dL_977 (by decide) dL_978 dL_979 ?_
  refine al_arg (j := 2) hLn hi (by omega) dL_980 dL_981 dL_982 (by decide) dL_983 dL_984 ?_
  refine al_arg (j := 3) hLn hi (by omega) dL_985 dL_986 dL_987 (by decide) dL_988 dL_989 ?_
  refine al_callV (M' := MX4_see) (a := 0) (ci := 4) (as := [.int (xs (i + 1)), .int (xs (i + 2)), .int (xs (i + 3))]) dL_990 lmL_115 oX4_see (by show Option.map _ _ = some 3; decide +kernel) tb_0 rfl rfl rfl (Nat.le_of_ble_eq_true rfl) (b_see hI (xs (i + 1)) (xs (i + 2)) (xs (i + 3))) (fun r1 S1 h1 => ?_)
  refine al_aload (i := 2) (x := 64) dL_993 rfl rfl ?_
  refine al_arg (j := 1) hLn hi (by omega) dL_994 dL_995 dL_996 (by decide) dL_997 dL_998 ?_
  refine al_arg (j := 2) hLn hi (by omega) dL_999 dL_1000 dL_1001 (by decide) dL_1002 dL_1003 ?_
  refine al_arg (j := 3) hLn hi (by omega) dL_1004 dL_1005 dL_1006 (by decide) dL_1007 dL_1008 ?_
  refine al_callV (M' := MX5_see) (a := 64) (ci := 5) (as := [.int (xs (i + 1)), .int (xs (i + 2)), .int (xs (i + 3))]) dL_1009 lmL_118 oX5_see (by show Option.map _ _ = some 3; decide +kernel) tb_M rfl rfl rfl (Nat.le_of_ble_eq_true rfl) h1 (fun r2 S2 h2 => ?_)
  exact al_same (tgt := 1406) dL_1012 (by decide) h2.1 (k S2 h2.2)
theorem c_forget (hLn : Ln ≤ 2560) (hi : i + 5 ≤ Ln) (hI : INV f) (k : ∀ S : fm, INV S.1 → AL V b Ln xs kc ks 1406 (LL i) [] (hp S)) : AL V b Ln xs kc ks 1017 (LL i) [] (hp (f, τ)) := by
  refine al_aload (i := 1) (x := 0) dL_1017 rfl rfl ?_
  refine al_arg (j := 1) hLn hi (by omega) dL_1018 dL_1019 dL_1020 (by decide) dL_1021 dL_1022 ?_
  refine al_callV (M' := MX4_forget) (a := 0) (ci := 4) (as := [.int (xs (i + 1))]) dL_1023 lmL_119 oX4_forget (by show Option.map _ _ = some 1; decide +kernel) tb_0 rfl rfl rfl (Nat.le_of_ble_eq_true rfl) (b_forget hI (xs (i + 1))) (fun r1 S1 h1 => ?_)
  refine al_aload (i := 2) (x := 64) dL_1026 rfl rfl ?_
  refine al_arg (j := 1) hLn hi (by omega) dL_1027 dL_1028 dL_1029 (by decide) dL_1030 dL_1031 ?_
  refine al_callV (M' := MX5_forget) (a := 64) (ci := 5) (as := [.int (xs (i + 1))]) dL_1032 lmL_122 oX5_forget (by show Option.map _ _ = some 1; decide +kernel) tb_M rfl rfl rfl (Nat.le_of_ble_eq_true rfl) h1 (fun r2 S2 h2 => ?_)
  exact al_same (tgt := 1406) dL_1035 (by decide) h2.1 (k S2 h2.2)
theorem c_kinds (hLn : Ln ≤ 2560) (hi : i + 5 ≤ Ln) (hI : INV f) (k : ∀ S : fm, INV S.1 → AL V b Ln xs kc ks 1406 (LL i) [] (hp S)) : AL V b Ln xs kc ks 1040 (LL i) [] (hp (f, τ)) := by
  refine al_aload (i := 1) (x := 0) dL_1040 rfl rfl ?_
  refine al_arg (j := 1) hLn hi (by omega) dL_1041 dL_1042 dL_1043 (by decide) dL_1044 dL_1045 ?_
  refine al_callV (M' := MX4_kinds) (a := 0) (ci := 4) (as := [.int (xs (i + 1))]) dL_1046 lmL_123 oX4_kinds (by show Option.map _ _ = some 1; decide +kernel) tb_0 rfl rfl rfl (Nat.le_of_ble_eq_true rfl) (b_kinds hI (xs (i + 1))) (fun r1 S1 h1 => ?_)
  refine al_aload (i := 2) (x := 64) dL_1049 rfl rfl ?_
  refine al_arg (j := 1) hLn hi (by omega) dL_1050 dL_1051 dL_1052 (by decide) dL_1053 dL_1054 ?_
  refine al_callV (M' := MX5_kinds) (a := 64) (ci := 5) (as := [.int (xs (i + 1))]) dL_1055 lmL_126 oX5_kinds (by show Option.map _ _ = some 1; decide +kernel) tb_M rfl rfl rfl (Nat.le_of_ble_eq_true rfl) h1 (fun r2 S2 h2 => ?_)
  exact al_same (tgt := 1406) dL_1058 (by decide) h2.1 (k S2 h2.2)
theorem c_numbers (hLn : Ln ≤ 2560) (hi : i + 5 ≤ Ln) (hI : INV f) (k : ∀ S : fm, INV S.1 → AL V b Ln xs kc ks 1406 (LL i) [] (hp S)) : AL V b Ln xs kc ks 1063 (LL i) [] (hp (f, τ)) := by
  refine al_aload (i := 1) (x := 0) dL_1063 rfl rfl ?_
  refine al_arg (j := 1) hLn hi (by omega) dL_1064 dL_1065 dL_1066 (by decide) dL_1067 dL_1068 ?_
  refine al_callV (M' := MX4_numbers) (a := 0) (ci := 4) (as := [.int (xs (i + 1))]) dL_1069 lmL_127 oX4_numbers (by show Option.map _ _ = some 1; decide +kernel) tb_0 rfl rfl rfl (Nat.le_of_ble_eq_true rfl) (b_numbers hI (xs (i + 1))) (fun r1 S1 h1 => ?_)
  refine al_aload (i := 2) (x := 64) dL_1072 rfl rfl ?_
  refine al_arg (j := 1) hLn hi (by omega) dL_1073 dL_1074 dL_1075 (by decide) dL_1076 dL_1077 ?_
  refine al_callV (M' := MX5_numbers) (a := 64) (ci := 5) (as := [.int (xs (i + 1))]) dL_1078 lmL_130 oX5_numbers (by show Option.map _ _ = some 1; decide +kernel) tb_M rfl rfl rfl (Nat.le_of_ble_eq_true rfl) h1 (fun r2 S2 h2 => ?_)
  exact al_same (tgt := 1406) dL_1081 (by decide) h2.1 (k S2 h2.2)
theorem c_bounces (hLn : Ln ≤ 2560) (hi : i + 5 ≤ Ln) (hI : INV f) (k : ∀ S : fm, INV S.1 → AL V b Ln xs kc ks 1406 (LL i) [] (hp S)) : AL V b Ln xs kc ks 1086 (LL i) [] (hp (f, τ)) := by
  refine al_aload (i := 1) (x := 0) dL_1086 rfl rfl ?_
  refine al_arg (j := 1) hLn hi (by omega) dL_1087 dL_1088 dL_1089 (by decide) dL_1090 dL_1091 ?_
  refine al_callV (M' := MX4_bounces) (a := 0) (ci := 4) (as := [.int (xs (i + 1))]) dL_1092 lmL_131 oX4_bounces (by show Option.map _ _ = some 1; decide +kernel) tb_0 rfl rfl rfl (Nat.le_of_ble_eq_true rfl) (b_bounces hI (xs (i + 1))) (fun r1 S1 h1 => ?_)
  refine al_aload (i := 2) (x := 64) dL_1095 rfl rfl ?_
  refine al_arg (j := 1) hLn hi (by omega) dL_1096 dL_1097 dL_1098 (by decide) dL_1099 dL_1100 ?_
  refine al_callV (M' := MX5_bounces) (a := 64) (ci := 5) (as := [.int (xs (i + 1))]) dL_1101 lmL_134 oX5_bounces (by show Option.map _ _ = some 1; decide +kernel) tb_M rfl rfl rfl (Nat.le_of_ble_eq_true rfl) h1 (fun r2 S2 h2 => ?_)
  exact al_same (tgt := 1406) dL_1104 (by decide) h2.1 (k S2 h2.2)
theorem c_ask (hLn : Ln ≤ 2560) (hi : i + 5 ≤ Ln) (hI : INV f) (k : ∀ S : fm, INV S.1 → AL V b Ln xs kc ks 1406 (LL i) [] (hp S)) : AL V b Ln xs kc ks 1109 (LL i) [] (hp (f, τ)) := by
  refine al_aload (i := 1) (x := 0) dL_1109 rfl rfl ?_
  refine al_arg (j := 1) hLn hi (by omega) dL_1110 dL_1111 dL_1112 (by decide) dL_1113 dL_1114 ?_
  refine al_arg (j := 2) hLn hi (by omega) dL_1115 dL_1116 dL_1117 (by decide) dL_1118 dL_1119 ?_
  refine al_callV (M' := MX4_ask) (a := 0) (ci := 4) (as := [.int (xs (i + 1)), .int (xs (i + 2))]) dL_1120 lmL_135 oX4_ask (by show Option.map _ _ = some 2; decide +kernel) tb_0 rfl rfl rfl (Nat.le_of_ble_eq_true rfl) (b_ask hI (xs (i + 1)) (xs (i + 2))) (fun r1 S1 h1 => ?_)
  refine al_aload (i := 2) (x := 64) dL_1123 rfl rfl ?_
  refine al_arg (j := 1) hLn hi (by omega) dL_1124 dL_1125 dL_1126 (by decide) dL_1127 dL_1128 ?_
  refine al_arg (j := 2) hLn hi (by omega) dL_1129 dL_1130 dL_1131 (by decide) dL_1132 dL_1133 ?_
  refine al_callV (M' := MX5_ask) (a := 64) (ci := 5) (as := [.int (xs (i + 1)), .int (xs (i + 2))]) dL_1134 lmL_138 oX5_ask (by show Option.map _ _ = some 2; decide +kernel) tb_M rfl rfl rfl (Nat.le_of_ble_eq_true rfl) h1 (fun r2 S2 h2 => ?_)
  exact al_same (tgt := 1406) dL_1137 (by decide) h2.1 (k S2 h2.2)
theorem c_drift (hLn : Ln ≤ 2560) (hi : i + 5 ≤ Ln) (hI : INV f) (k : ∀ S : fm, INV S.1 → AL V b Ln xs kc ks 1406 (LL i) [] (hp S)) : AL V b Ln xs kc ks 1142 (LL i) [] (hp (f, τ)) := by
  refine al_aload (i := 1) (x := 0) dL_1142 rfl rfl ?_
  refine al_arg (j := 1) hLn hi (by omega) dL_1143 dL_1144 dL_1145 (by decide) dL_1146 dL_1147 ?_
  refine al_arg (j := 2) hLn hi (by omega) dL_1148 dL_1149 dL_1150 (by decide) dL_1151 dL_1152 ?_
  refine al_arg (j := 3) hLn hi (by omega) dL_1153 dL_1154 dL_1155 (by decide) dL_1156 dL_1157 ?_
  refine al_callV (M' := MX4_drift) (a := 0) (ci := 4) (as := [.int (xs (i + 1)), .int (xs (i + 2)), .int (xs (i + 3))]) dL_1158 lmL_139 oX4_drift (by show Option.map _ _ = some 3; decide +kernel) tb_0 rfl rfl rfl (Nat.le_of_ble_eq_true rfl) (b_drift hI (xs (i + 1)) (xs (i + 2)) (xs (i + 3))) (fun r1 S1 h1 => ?_)
  refine al_aload (i := 2) (x := 64) dL_1161 rfl rfl ?_
  refine al_arg (j := 1) hLn hi (by omega) dL_1162 dL_1163 dL_1164 (by decide) dL_1165 dL_1166 ?_
  refine al_arg (j := 2) hLn hi (by omega) dL_1167 dL_1168 dL_1169 (by decide) dL_1170 dL_1171 ?_
  refine al_arg (j := 3) hLn hi (by omega) dL_1172 dL_1173 dL_1174 (by decide) dL_1175 dL_1176 ?_
  refine al_callV (M' := MX5_drift) (a := 64) (ci := 5) (as := [.int (xs (i + 1)), .int (xs (i + 2)), .int (xs (i + 3))]) dL_1177 lmL_142 oX5_drift (by show Option.map _ _ = some 3; decide +kernel) tb_M rfl rfl rfl (Nat.le_of_ble_eq_true rfl) h1 (fun r2 S2 h2 => ?_)
  exact al_same (tgt := 1406) dL_1180 (by decide) h2.1 (k S2 h2.2)
theorem c_keep (hLn : Ln ≤ 2560) (hi : i + 5 ≤ Ln) (hI : INV f) (k : ∀ S : fm, INV S.1 → AL V b Ln xs kc ks 1406 (LL i) [] (hp S)) : AL V b Ln xs kc ks 1185 (LL i) [] (hp (f, τ)) := by
  refine al_aload (i := 1) (x := 0) dL_1185 rfl rfl ?_
  refine al_arg (j := 1) hLn hi (by omega) dL_1186 dL_1187 dL_1188 (by decide) dL_1189 dL_1190 ?_
  refine al_callV (M' := MX4_keep) (a := 0) (ci := 4) (as := [.int (xs (i + 1))]) dL_1191 lmL_143 oX4_keep (by show Option.map _ _ = some 1; decide +kernel) tb_0 rfl rfl rfl (Nat.le_of_ble_eq_true rfl) (b_keep hI (xs (i + 1))) (fun r1 S1 h1 => ?_)
  refine al_aload (i := 2) (x := 64) dL_1194 rfl rfl ?_
  refine al_arg (j := 1) hLn hi (by omega) dL_1195 dL_1196 dL_1197 (by decide) dL_1198 dL_1199 ?_
  refine al_callV (M' := MX5_keep) (a := 64) (ci := 5) (as := [.int (xs (i + 1))]) dL_1200 lmL_146 oX5_keep (by show Option.map _ _ = some 1; decide +kernel) tb_M rfl rfl rfl (Nat.le_of_ble_eq_true rfl) h1 (fun r2 S2 h2 => ?_)
  exact al_same (tgt := 1406) dL_1203 (by decide) h2.1 (k S2 h2.2)
theorem c_back (hLn : Ln ≤ 2560) (hi : i + 5 ≤ Ln) (hI : INV f) (k : ∀ S : fm, INV S.1 → AL V b Ln xs kc ks 1406 (LL i) [] (hp S)) : AL V b Ln xs kc ks 1208 (LL i) [] (hp (f, τ)) := by
  refine al_aload (i := 1) (x := 0) dL_1208 rfl rfl ?_
  refine al_arg (j := 1) hLn hi (by omega) dL_1209 dL_1210 dL_1211 (by decide) dL_1212 dL_1213 ?_
  refine al_callV (M' := MX4_back) (a := 0) (ci := 4) (as := [.int (xs (i + 1))]) dL_1214 lmL_147 oX4_back (by show Option.map _ _ = some 1; decide +kernel) tb_0 rfl rfl rfl (Nat.le_of_ble_eq_true rfl) (b_back hI (xs (i + 1))) (fun r1 S1 h1 => ?_)
  refine al_aload (i := 2) (x := 64) dL_1217 rfl rfl ?_
  refine al_arg (j := 1) hLn hi (by omega) dL_1218 dL_1219 dL_1220 (by decide) dL_1221 dL_1222 ?_
  refine al_callV (M' := MX5_back) (a := 64) (ci := 5) (as := [.int (xs (i + 1))]) dL_1223 lmL_150 oX5_back (by show Option.map _ _ = some 1; decide +kernel) tb_M rfl rfl rfl (Nat.le_of_ble_eq_true rfl) h1 (fun r2 S2 h2 => ?_)
  exact al_same (tgt := 1406) dL_1226 (by decide) h2.1 (k S2 h2.2)
theorem c_sheet (hLn : Ln ≤ 2560) (hi : i + 5 ≤ Ln) (hI : INV f) (k : ∀ S : fm, INV S.1 → AL V b Ln xs kc ks 1406 (LL i) [] (hp S)) : AL V b Ln xs kc ks 1231 (LL i) [] (hp (f, τ)) := by
  refine al_aload (i := 1) (x := 0) dL_1231 rfl rfl ?_
  refine al_arg (j := 1) hLn hi (by omega) dL_1232 dL_1233 dL_1234 (by decide) dL_1235 dL_1236 ?_
  refine al_arg (j := 2) hLn hi (by omega) dL_1237 dL_1238 dL_1239 (by decide) dL_1240 dL_1241 ?_
  refine al_arg (j := 3) hLn hi (by omega) dL_1242 dL_1243 dL_1244 (by decide) dL_1245 dL_1246 ?_
  refine al_callV (M' := MX4_sheet) (a := 0) (ci := 4) (as := [.int (xs (i + 1)), .int (xs (i + 2)), .int (xs (i + 3))]) dL_1247 lmL_151 oX4_sheet (by show Option.map _ _ = some 3; decide +kernel) tb_0 rfl rfl rfl (Nat.le_of_ble_eq_true rfl) (b_sheet hI (xs (i + 1)) (xs (i + 2)) (xs (i + 3))) (fun r1 S1 h1 => ?_)
  refine al_aload (i := 2) (x := 64) dL_1250 rfl rfl ?_
  refine al_arg (j := 1) hLn hi (by omega) dL_1251 dL_1252 dL_1253 (by decide) dL_1254 dL_1255 ?_
  refine al_arg (j := 2) hLn hi (by omega) dL_1256 dL_1257 dL_1258 (by decide) dL_1259 dL_1260 ?_
  refine al_arg (j := 3) hLn hi (by omega) dL_1261 dL_1262 dL_1263 (by decide) dL_1264 dL_1265 ?_
  refine al_callV (M' := MX5_sheet) (a := 64) (ci := 5) (as := [.int (xs (i + 1)), .int (xs (i + 2)), .int (xs (i + 3))]) dL_1266 lmL_154 oX5_sheet (by show Option.map _ _ = some 3; decide +kernel) tb_M rfl rfl rfl (Nat.le_of_ble_eq_true rfl) h1 (fun r2 S2 h2 => ?_)
  exact al_same (tgt := 1406) dL_1269 (by decide) h2.1 (k S2 h2.2)
theorem c_lay (hLn : Ln ≤ 2560) (hi : i + 5 ≤ Ln) (hI : INV f) (k : ∀ S : fm, INV S.1 → AL V b Ln xs kc ks 1406 (LL i) [] (hp S)) : AL V b Ln xs kc ks 1274 (LL i) [] (hp (f, τ)) := by
  refine al_aload (i := 1) (x := 0) dL_1274 rfl rfl ?_
  refine al_arg (j := 1) hLn hi (by omega) dL_1275 dL_1276 dL_1277 (by decide) dL_1278 dL_1279 ?_
  refine al_arg (j := 2) hLn hi (by omega) dL_1280 dL_1281 dL_1282 (by decide) dL_1283 dL_1284 ?_
  refine al_arg (j := 3) hLn hi (by omega) dL_1285 dL_1286 dL_1287 (by decide) dL_1288 dL_1289 ?_
  refine al_callV (M' := MX4_lay) (a := 0) (ci := 4) (as := [.int (xs (i + 1)), .int (xs (i + 2)), .int (xs (i + 3))]) dL_1290 lmL_155 oX4_lay (by show Option.map _ _ = some 3; decide +kernel) tb_0 rfl rfl rfl (Nat.le_of_ble_eq_true rfl) (b_lay hI (xs (i + 1)) (xs (i + 2)) (xs (i + 3))) (fun r1 S1 h1 => ?_)
  refine al_aload (i := 2) (x := 64) dL_1293 rfl rfl ?_
  refine al_arg (j := 1) hLn hi (by omega) dL_1294 dL_1295 dL_1296 (by decide) dL_1297 dL_1298 ?_
  refine al_arg (j := 2) hLn hi (by omega) dL_1299 dL_1300 dL_1301 (by decide) dL_1302 dL_1303 ?_
  refine al_arg (j := 3) hLn hi (by omega) dL_1304 dL_1305 dL_1306 (by decide) dL_1307 dL_1308 ?_
  refine al_callV (M' := MX5_lay) (a := 64) (ci := 5) (as := [.int (xs (i + 1)), .int (xs (i + 2)), .int (xs (i + 3))]) dL_1309 lmL_158 oX5_lay (by show Option.map _ _ = some 3; decide +kernel) tb_M rfl rfl rfl (Nat.le_of_ble_eq_true rfl) h1 (fun r2 S2 h2 => ?_)
  exact al_same (tgt := 1406) dL_1312 (by decide) h2.1 (k S2 h2.2)
theorem c_read (hLn : Ln ≤ 2560) (hi : i + 5 ≤ Ln) (hI : INV f) (k : ∀ S : fm, INV S.1 → AL V b Ln xs kc ks 1406 (LL i) [] (hp S)) : AL V b Ln xs kc ks 1317 (LL i) [] (hp (f, τ)) := by
  refine al_aload (i := 1) (x := 0) dL_1317 rfl rfl ?_
  refine al_arg (j := 1) hLn hi (by omega) dL_1318 dL_1319 dL_1320 (by decide) dL_1321 dL_1322 ?_
  refine al_arg (j := 2) hLn hi (by omega) dL_1323 dL_1324 dL_1325 (by decide) dL_1326 dL_1327 ?_
  refine al_arg (j := 3) hLn hi (by omega) dL_1328 dL_1329 dL_1330 (by decide) dL_1331 dL_1332 ?_
  refine al_arg (j := 4) hLn hi (by omega) dL_1333 dL_1334 dL_1335 (by decide) dL_1336 dL_1337 ?_
  refine al_callV (M' := MX4_read) (a := 0) (ci := 4) (as := [.int (xs (i + 1)), .int (xs (i + 2)), .int (xs (i + 3)), .int (xs (i + 4))]) dL_1338 lmL_159 oX4_read (by show Option.map _ _ = some 4; decide +kernel) tb_0 rfl rfl rfl (Nat.le_of_ble_eq_true rfl) (b_read hI (xs (i + 1)) (xs (i + 2)) (xs (i + 3)) (xs (i + 4))) (fun r1 S1 h1 => ?_)
  refine al_aload (i := 2) (x := 64) dL_1341 rfl rfl ?_
  refine al_arg (j := 1) hLn hi (by omega) dL_1342 dL_1343 dL_1344 (by decide) dL_1345 dL_1346 ?_
  refine al_arg (j := 2) hLn hi (by omega) dL_1347 dL_1348 dL_1349 (by decide) dL_1350 dL_1351 ?_
  refine al_arg (j := 3) hLn hi (by omega) dL_1352 dL_1353 dL_1354 (by decide) dL_1355 dL_1356 ?_
  refine al_arg (j := 4) hLn hi (by omega) dL_1357 dL_1358 dL_1359 (by decide) dL_1360 dL_1361 ?_
  refine al_callV (M' := MX5_read) (a := 64) (ci := 5) (as := [.int (xs (i + 1)), .int (xs (i + 2)), .int (xs (i + 3)), .int (xs (i + 4))]) dL_1362 lmL_163 oX5_read (by show Option.map _ _ = some 4; decide +kernel) tb_M rfl rfl rfl (Nat.le_of_ble_eq_true rfl) h1 (fun r2 S2 h2 => ?_)
  exact al_same (tgt := 1406) dL_1365 (by decide) h2.1 (k S2 h2.2)
theorem c_torn (hLn : Ln ≤ 2560) (hi : i + 5 ≤ Ln) (hI : INV f) (k : ∀ S : fm, INV S.1 → AL V b Ln xs kc ks 1406 (LL i) [] (hp S)) : AL V b Ln xs kc ks 1370 (LL i) [] (hp (f, τ)) := by
  refine al_aload (i := 1) (x := 0) dL_1370 rfl rfl ?_
  refine al_callV (M' := MX4_torn) (a := 0) (ci := 4) (as := []) dL_1371 lmL_164 oX4_torn (by show Option.map _ _ = some 0; decide +kernel) tb_0 rfl rfl rfl (Nat.le_of_ble_eq_true rfl) (b_torn hI) (fun r1 S1 h1 => ?_)
  refine al_aload (i := 2) (x := 64) dL_1374 rfl rfl ?_
  refine al_callV (M' := MX5_torn) (a := 64) (ci := 5) (as := []) dL_1375 lmL_167 oX5_torn (by show Option.map _ _ = some 0; decide +kernel) tb_M rfl rfl rfl (Nat.le_of_ble_eq_true rfl) h1 (fun r2 S2 h2 => ?_)
  exact al_same (tgt := 1406) dL_1378 (by decide) h2.1 (k S2 h2.2)
theorem c_count (hLn : Ln ≤ 2560) (hi : i + 5 ≤ Ln) (hI : INV f) (k : ∀ S : fm, INV S.1 → AL V b Ln xs kc ks 1406 (LL i) [] (hp S)) : AL V b Ln xs kc ks 1383 (LL i) [] (hp (f, τ)) := by
  refine al_aload (i := 1) (x := 0) dL_1383 rfl rfl ?_
  refine al_arg (j := 1) hLn hi (by omega) dL_1384 dL_1385 dL_1386 (by decide) dL_1387 dL_1388 ?_
  refine al_callV (M' := MX4_count) (a := 0) (ci := 4) (as := [.int (xs (i + 1))]) dL_1389 lmL_168 oX4_count (by show Option.map _ _ = some 1; decide +kernel) tb_0 rfl rfl rfl (Nat.le_of_ble_eq_true rfl) (b_count hI (xs (i + 1))) (fun r1 S1 h1 => ?_)
  refine al_aload (i := 2) (x := 64) dL_1392 rfl rfl ?_
  refine al_arg (j := 1) hLn hi (by omega) dL_1393 dL_1394 dL_1395 (by decide) dL_1396 dL_1397 ?_
  refine al_callV (M' := MX5_count) (a := 64) (ci := 5) (as := [.int (xs (i + 1))]) dL_1398 lmL_171 oX5_count (by show Option.map _ _ = some 1; decide +kernel) tb_M rfl rfl rfl (Nat.le_of_ble_eq_true rfl) h1 (fun r2 S2 h2 => ?_)
  exact al_same (tgt := 1406) dL_1401 (by decide) h2.1 (k S2 h2.2)
end AMC2

theorem lor_rng (a b : Int) : -9223372036854775808 ≤ fwLor a b ∧ fwLor a b < 9223372036854775808 := ⟨Int64.le_toInt _, Int64.toInt_lt _⟩
set_option maxRecDepth 100000 in
theorem q_feed {n : Nat} {xs : Nat → Int32} {i : Nat} {h : fwH} (I : jI h) (hn : n ≤ 100000) (hi : i + 6 ≤ n) (tail : ∀ h, jI h → lWP n xs 1993 (lLs i) [] h) : lWP n xs 308 (lLs i) [] h := by
  refine l_aload dL_law_308 rfl ?_
  refine l_aload dL_law_309 rfl ?_
  refine l_iload dL_law_310 rfl ?_
  refine l_iconst dL_law_311 ?_
  refine l_iadd dL_law_312 ?_
  refine l_sld (i + 1) dL_law_313 (by omega) (by omega) hn ?_
  refine l_aload dL_law_314 rfl ?_
  refine l_iload dL_law_315 rfl ?_
  refine l_iconst dL_law_316 ?_
  refine l_iadd dL_law_317 ?_
  refine l_sld (i + 2) dL_law_318 (by omega) (by omega) hn ?_
  refine l_aload dL_law_319 rfl ?_
  refine l_iload dL_law_320 rfl ?_
  refine l_iconst dL_law_321 ?_
  refine l_iadd dL_law_322 ?_
  refine l_sld (i + 3) dL_law_323 (by omega) (by omega) hn ?_
  refine l_aload dL_law_324 rfl ?_
  refine l_iload dL_law_325 rfl ?_
  refine l_iconst dL_law_326 ?_
  refine l_iadd dL_law_327 ?_
  refine l_sld (i + 4) dL_law_328 (by omega) (by omega) hn ?_
  refine l_aload dL_law_329 rfl ?_
  refine l_iload dL_law_330 rfl ?_
  refine l_iconst dL_law_331 ?_
  refine l_iadd dL_law_332 ?_
  refine l_sld (i + 5) dL_law_333 (by omega) (by omega) hn ?_
  refine l_callV (k := 0) (i := 0) (d := 0 + 1) (S := []) [aI (sv xs (i + 1)), aI (sv xs (i + 2)), aI (sv xs (i + 3)), aI (sv xs (i + 4)), aI (sv xs (i + 5))] dL_law_334 ml_L_13 ok_X11_feed vi_X11_feed rfl rfl (by decide) rfl (Nat.le_of_ble_eq_true rfl) (by decide) ?_
  refine pr_feed (d := 0) (d2 := 0) I (sv xs (i + 1)) (sv xs (i + 2)) (sv xs (i + 3)) (sv xs (i + 4)) (sv xs (i + 5))  (fun v g1 m => ?_)
  show lWP n xs 337 (lLs i) [aI v] g1
  refine l_pop dL_law_337 rfl ?_
  refine l_aload dL_law_338 rfl ?_
  refine l_aload dL_law_339 rfl ?_
  refine l_iload dL_law_340 rfl ?_
  refine l_iconst dL_law_341 ?_
  refine l_iadd dL_law_342 ?_
  refine l_sld (i + 1) dL_law_343 (by omega) (by omega) hn ?_
  refine l_aload dL_law_344 rfl ?_
  refine l_iload dL_law_345 rfl ?_
  refine l_iconst dL_law_346 ?_
  refine l_iadd dL_law_347 ?_
  refine l_sld (i + 2) dL_law_348 (by omega) (by omega) hn ?_
  refine l_aload dL_law_349 rfl ?_
  refine l_iload dL_law_350 rfl ?_
  refine l_iconst dL_law_351 ?_
  refine l_iadd dL_law_352 ?_
  refine l_sld (i + 3) dL_law_353 (by omega) (by omega) hn ?_
  refine l_aload dL_law_354 rfl ?_
  refine l_iload dL_law_355 rfl ?_
  refine l_iconst dL_law_356 ?_
  refine l_iadd dL_law_357 ?_
  refine l_sld (i + 4) dL_law_358 (by omega) (by omega) hn ?_
  refine l_aload dL_law_359 rfl ?_
  refine l_iload dL_law_360 rfl ?_
  refine l_iconst dL_law_361 ?_
  refine l_iadd dL_law_362 ?_
  refine l_sld (i + 5) dL_law_363 (by omega) (by omega) hn ?_
  refine l_callV (k := 12) (i := 0) (d := 0 + 0) (S := []) [aI (sv xs (i + 1)), aI (sv xs (i + 2)), aI (sv xs (i + 3)), aI (sv xs (i + 4)), aI (sv xs (i + 5))] dL_law_364 ml_L_17 ok_X12_feed vi_X12_feed rfl rfl (by decide) rfl (Nat.le_of_ble_eq_true rfl) (by decide) ?_
  refine m _ (fun g2 I2 => ?_)
  show lWP n xs 367 (lLs i) [aI v] g2
  refine l_pop dL_law_367 rfl ?_
  exact l_goto 1993 dL_law_368 (by decide) (tail _ I2)
set_option maxRecDepth 100000 in
theorem q_end {n : Nat} {xs : Nat → Int32} {i : Nat} {h : fwH} (I : jI h) (hn : n ≤ 100000) (hi : i + 6 ≤ n) (tail : ∀ h, jI h → lWP n xs 1993 (lLs i) [] h) : lWP n xs 371 (lLs i) [] h := by
  refine l_aload dL_law_371 rfl ?_
  refine l_aload dL_law_372 rfl ?_
  refine l_iload dL_law_373 rfl ?_
  refine l_iconst dL_law_374 ?_
  refine l_iadd dL_law_375 ?_
  refine l_sld (i + 1) dL_law_376 (by omega) (by omega) hn ?_
  refine l_callV (k := 0) (i := 0) (d := 0 + 0) (S := []) [aI (sv xs (i + 1))] dL_law_377 ml_L_18 ok_X11_end vi_X11_end rfl rfl (by decide) rfl (Nat.le_of_ble_eq_true rfl) (by decide) ?_
  refine pr_end (d := 0) (d2 := 0) I (sv xs (i + 1)) (sv_rng _ _) (fun v g1 m => ?_)
  show lWP n xs 380 (lLs i) [aI v] g1
  refine l_pop dL_law_380 rfl ?_
  refine l_aload dL_law_381 rfl ?_
  refine l_aload dL_law_382 rfl ?_
  refine l_iload dL_law_383 rfl ?_
  refine l_iconst dL_law_384 ?_
  refine l_iadd dL_law_385 ?_
  refine l_sld (i + 1) dL_law_386 (by omega) (by omega) hn ?_
  refine l_callV (k := 12) (i := 0) (d := 0 + 1) (S := []) [aI (sv xs (i + 1))] dL_law_387 ml_L_22 ok_X12_end vi_X12_end rfl rfl (by decide) rfl (Nat.le_of_ble_eq_true rfl) (by decide) ?_
  refine m _ (fun g2 I2 => ?_)
  show lWP n xs 390 (lLs i) [aI v] g2
  refine l_pop dL_law_390 rfl ?_
  exact l_goto 1993 dL_law_391 (by decide) (tail _ I2)
set_option maxRecDepth 100000 in
theorem q_mount {n : Nat} {xs : Nat → Int32} {i : Nat} {h : fwH} (I : jI h) (hn : n ≤ 100000) (hi : i + 6 ≤ n) (tail : ∀ h, jI h → lWP n xs 1993 (lLs i) [] h) : lWP n xs 394 (lLs i) [] h := by
  refine l_aload dL_law_394 rfl ?_
  refine l_callV (k := 0) (i := 0) (d := 0 + 8) (S := []) [] dL_law_395 ml_L_23 ok_X11_mount vi_X11_mount rfl rfl (by decide) rfl (Nat.le_of_ble_eq_true rfl) (by decide) ?_
  refine pr_mount (d := 0) (d2 := 0) I   (fun v g1 m => ?_)
  show lWP n xs 398 (lLs i) [aI v] g1
  refine l_pop dL_law_398 rfl ?_
  refine l_aload dL_law_399 rfl ?_
  refine l_callV (k := 12) (i := 0) (d := 0 + 11) (S := []) [] dL_law_400 ml_L_27 ok_X12_mount vi_X12_mount rfl rfl (by decide) rfl (Nat.le_of_ble_eq_true rfl) (by decide) ?_
  refine m _ (fun g2 I2 => ?_)
  show lWP n xs 403 (lLs i) [aI v] g2
  refine l_pop dL_law_403 rfl ?_
  exact l_goto 1993 dL_law_404 (by decide) (tail _ I2)
set_option maxRecDepth 100000 in
theorem q_fault {n : Nat} {xs : Nat → Int32} {i : Nat} {h : fwH} (I : jI h) (hn : n ≤ 100000) (hi : i + 6 ≤ n) (tail : ∀ h, jI h → lWP n xs 1993 (lLs i) [] h) : lWP n xs 407 (lLs i) [] h := by
  refine l_aload dL_law_407 rfl ?_
  refine l_aload dL_law_408 rfl ?_
  refine l_iload dL_law_409 rfl ?_
  refine l_iconst dL_law_410 ?_
  refine l_iadd dL_law_411 ?_
  refine l_sld (i + 1) dL_law_412 (by omega) (by omega) hn ?_
  refine l_callV (k := 0) (i := 0) (d := 0 + 0) (S := []) [aI (sv xs (i + 1))] dL_law_413 ml_L_28 ok_X11_fault vi_X11_fault rfl rfl (by decide) rfl (Nat.le_of_ble_eq_true rfl) (by decide) ?_
  refine pr_fault (d := 0) (d2 := 0) I (sv xs (i + 1)) (sv_rng _ _) (fun v g1 m => ?_)
  show lWP n xs 416 (lLs i) [aI v] g1
  refine l_pop dL_law_416 rfl ?_
  refine l_aload dL_law_417 rfl ?_
  refine l_aload dL_law_418 rfl ?_
  refine l_iload dL_law_419 rfl ?_
  refine l_iconst dL_law_420 ?_
  refine l_iadd dL_law_421 ?_
  refine l_sld (i + 1) dL_law_422 (by omega) (by omega) hn ?_
  refine l_callV (k := 12) (i := 0) (d := 0 + 0) (S := []) [aI (sv xs (i + 1))] dL_law_423 ml_L_31 ok_X12_fault vi_X12_fault rfl rfl (by decide) rfl (Nat.le_of_ble_eq_true rfl) (by decide) ?_
  refine m _ (fun g2 I2 => ?_)
  show lWP n xs 426 (lLs i) [aI v] g2
  refine l_pop dL_law_426 rfl ?_
  exact l_goto 1993 dL_law_427 (by decide) (tail _ I2)
set_option maxRecDepth 100000 in
theorem q_folk {n : Nat} {xs : Nat → Int32} {i : Nat} {h : fwH} (I : jI h) (hn : n ≤ 100000) (hi : i + 6 ≤ n) (tail : ∀ h, jI h → lWP n xs 1993 (lLs i) [] h) : lWP n xs 430 (lLs i) [] h := by
  refine l_aload dL_law_430 rfl ?_
  refine l_aload dL_law_431 rfl ?_
  refine l_iload dL_law_432 rfl ?_
  refine l_iconst dL_law_433 ?_
  refine l_iadd dL_law_434 ?_
  refine l_sld (i + 1) dL_law_435 (by omega) (by omega) hn ?_
  refine l_aload dL_law_436 rfl ?_
  refine l_iload dL_law_437 rfl ?_
  refine l_iconst dL_law_438 ?_
  refine l_iadd dL_law_439 ?_
  refine l_sld (i + 2) dL_law_440 (by omega) (by omega) hn ?_
  refine l_callV (k := 0) (i := 0) (d := 0 + 1) (S := []) [aI (sv xs (i + 1)), aI (sv xs (i + 2))] dL_law_441 ml_L_32 ok_X11_folk vi_X11_folk rfl rfl (by decide) rfl (Nat.le_of_ble_eq_true rfl) (by decide) ?_
  refine pr_folk (d := 0) (d2 := 0) I (sv xs (i + 1)) (sv xs (i + 2)) (sv_rng _ _) (sv_rng _ _) (fun v g1 m => ?_)
  show lWP n xs 444 (lLs i) [aI v] g1
  refine l_pop dL_law_444 rfl ?_
  refine l_aload dL_law_445 rfl ?_
  refine l_aload dL_law_446 rfl ?_
  refine l_iload dL_law_447 rfl ?_
  refine l_iconst dL_law_448 ?_
  refine l_iadd dL_law_449 ?_
  refine l_sld (i + 1) dL_law_450 (by omega) (by omega) hn ?_
  refine l_aload dL_law_451 rfl ?_
  refine l_iload dL_law_452 rfl ?_
  refine l_iconst dL_law_453 ?_
  refine l_iadd dL_law_454 ?_
  refine l_sld (i + 2) dL_law_455 (by omega) (by omega) hn ?_
  refine l_callV (k := 12) (i := 0) (d := 0 + 2) (S := []) [aI (sv xs (i + 1)), aI (sv xs (i + 2))] dL_law_456 ml_L_36 ok_X12_folk vi_X12_folk rfl rfl (by decide) rfl (Nat.le_of_ble_eq_true rfl) (by decide) ?_
  refine m _ (fun g2 I2 => ?_)
  show lWP n xs 459 (lLs i) [aI v] g2
  refine l_pop dL_law_459 rfl ?_
  exact l_goto 1993 dL_law_460 (by decide) (tail _ I2)
set_option maxRecDepth 100000 in
theorem q_height {n : Nat} {xs : Nat → Int32} {i : Nat} {h : fwH} (I : jI h) (hn : n ≤ 100000) (hi : i + 6 ≤ n) (tail : ∀ h, jI h → lWP n xs 1993 (lLs i) [] h) : lWP n xs 463 (lLs i) [] h := by
  refine l_aload dL_law_463 rfl ?_
  refine l_aload dL_law_464 rfl ?_
  refine l_iload dL_law_465 rfl ?_
  refine l_iconst dL_law_466 ?_
  refine l_iadd dL_law_467 ?_
  refine l_sld (i + 1) dL_law_468 (by omega) (by omega) hn ?_
  refine l_callV (k := 0) (i := 0) (d := 0 + 1) (S := []) [aI (sv xs (i + 1))] dL_law_469 ml_L_37 ok_X11_height vi_X11_height rfl rfl (by decide) rfl (Nat.le_of_ble_eq_true rfl) (by decide) ?_
  refine pr_height (d := 0) (d2 := 0) I (sv xs (i + 1)) (sv_rng _ _) (fun v g1 m => ?_)
  show lWP n xs 472 (lLs i) [aI v] g1
  refine l_pop dL_law_472 rfl ?_
  refine l_aload dL_law_473 rfl ?_
  refine l_aload dL_law_474 rfl ?_
  refine l_iload dL_law_475 rfl ?_
  refine l_iconst dL_law_476 ?_
  refine l_iadd dL_law_477 ?_
  refine l_sld (i + 1) dL_law_478 (by omega) (by omega) hn ?_
  refine l_callV (k := 12) (i := 0) (d := 0 + 6) (S := []) [aI (sv xs (i + 1))] dL_law_479 ml_L_40 ok_X12_height vi_X12_height rfl rfl (by decide) rfl (Nat.le_of_ble_eq_true rfl) (by decide) ?_
  refine m _ (fun g2 I2 => ?_)
  show lWP n xs 482 (lLs i) [aI v] g2
  refine l_pop dL_law_482 rfl ?_
  exact l_goto 1993 dL_law_483 (by decide) (tail _ I2)
set_option maxRecDepth 100000 in
theorem q_shade {n : Nat} {xs : Nat → Int32} {i : Nat} {h : fwH} (I : jI h) (hn : n ≤ 100000) (hi : i + 6 ≤ n) (tail : ∀ h, jI h → lWP n xs 1993 (lLs i) [] h) : lWP n xs 486 (lLs i) [] h := by
  refine l_aload dL_law_486 rfl ?_
  refine l_aload dL_law_487 rfl ?_
  refine l_iload dL_law_488 rfl ?_
  refine l_iconst dL_law_489 ?_
  refine l_iadd dL_law_490 ?_
  refine l_sld (i + 1) dL_law_491 (by omega) (by omega) hn ?_
  refine l_aload dL_law_492 rfl ?_
  refine l_iload dL_law_493 rfl ?_
  refine l_iconst dL_law_494 ?_
  refine l_iadd dL_law_495 ?_
  refine l_sld (i + 2) dL_law_496 (by omega) (by omega) hn ?_
  refine l_callV (k := 0) (i := 0) (d := 0 + 2) (S := []) [aI (sv xs (i + 1)), aI (sv xs (i + 2))] dL_law_497 ml_L_41 ok_X11_shade vi_X11_shade rfl rfl (by decide) rfl (Nat.le_of_ble_eq_true rfl) (by decide) ?_
  refine pr_shade (d := 0) (d2 := 0) I (sv xs (i + 1)) (sv xs (i + 2)) (sv_rng _ _) (sv_rng _ _) (fun v g1 m => ?_)
  show lWP n xs 500 (lLs i) [aI v] g1
  refine l_pop dL_law_500 rfl ?_
  refine l_aload dL_law_501 rfl ?_
  refine l_aload dL_law_502 rfl ?_
  refine l_iload dL_law_503 rfl ?_
  refine l_iconst dL_law_504 ?_
  refine l_iadd dL_law_505 ?_
  refine l_sld (i + 1) dL_law_506 (by omega) (by omega) hn ?_
  refine l_aload dL_law_507 rfl ?_
  refine l_iload dL_law_508 rfl ?_
  refine l_iconst dL_law_509 ?_
  refine l_iadd dL_law_510 ?_
  refine l_sld (i + 2) dL_law_511 (by omega) (by omega) hn ?_
  refine l_callV (k := 12) (i := 0) (d := 0 + 6) (S := []) [aI (sv xs (i + 1)), aI (sv xs (i + 2))] dL_law_512 ml_L_44 ok_X12_shade vi_X12_shade rfl rfl (by decide) rfl (Nat.le_of_ble_eq_true rfl) (by decide) ?_
  refine m _ (fun g2 I2 => ?_)
  show lWP n xs 515 (lLs i) [aI v] g2
  refine l_pop dL_law_515 rfl ?_
  exact l_goto 1993 dL_law_516 (by decide) (tail _ I2)
set_option maxRecDepth 100000 in
theorem q_light {n : Nat} {xs : Nat → Int32} {i : Nat} {h : fwH} (I : jI h) (hn : n ≤ 100000) (hi : i + 6 ≤ n) (tail : ∀ h, jI h → lWP n xs 1993 (lLs i) [] h) : lWP n xs 519 (lLs i) [] h := by
  refine l_aload dL_law_519 rfl ?_
  refine l_aload dL_law_520 rfl ?_
  refine l_iload dL_law_521 rfl ?_
  refine l_iconst dL_law_522 ?_
  refine l_iadd dL_law_523 ?_
  refine l_sld (i + 1) dL_law_524 (by omega) (by omega) hn ?_
  refine l_callV (k := 0) (i := 0) (d := 0 + 2) (S := []) [aI (sv xs (i + 1))] dL_law_525 ml_L_45 ok_X11_light vi_X11_light rfl rfl (by decide) rfl (Nat.le_of_ble_eq_true rfl) (by decide) ?_
  refine pr_light (d := 0) (d2 := 0) I (sv xs (i + 1)) (sv_rng _ _) (fun v g1 m => ?_)
  show lWP n xs 528 (lLs i) [aI v] g1
  refine l_pop dL_law_528 rfl ?_
  refine l_aload dL_law_529 rfl ?_
  refine l_aload dL_law_530 rfl ?_
  refine l_iload dL_law_531 rfl ?_
  refine l_iconst dL_law_532 ?_
  refine l_iadd dL_law_533 ?_
  refine l_sld (i + 1) dL_law_534 (by omega) (by omega) hn ?_
  refine l_callV (k := 12) (i := 0) (d := 0 + 6) (S := []) [aI (sv xs (i + 1))] dL_law_535 ml_L_48 ok_X12_light vi_X12_light rfl rfl (by decide) rfl (Nat.le_of_ble_eq_true rfl) (by decide) ?_
  refine m _ (fun g2 I2 => ?_)
  show lWP n xs 538 (lLs i) [aI v] g2
  refine l_pop dL_law_538 rfl ?_
  exact l_goto 1993 dL_law_539 (by decide) (tail _ I2)
set_option maxRecDepth 100000 in
theorem q_dark {n : Nat} {xs : Nat → Int32} {i : Nat} {h : fwH} (I : jI h) (hn : n ≤ 100000) (hi : i + 6 ≤ n) (tail : ∀ h, jI h → lWP n xs 1993 (lLs i) [] h) : lWP n xs 542 (lLs i) [] h := by
  refine l_aload dL_law_542 rfl ?_
  refine l_aload dL_law_543 rfl ?_
  refine l_iload dL_law_544 rfl ?_
  refine l_iconst dL_law_545 ?_
  refine l_iadd dL_law_546 ?_
  refine l_sld (i + 1) dL_law_547 (by omega) (by omega) hn ?_
  refine l_callV (k := 0) (i := 0) (d := 0 + 3) (S := []) [aI (sv xs (i + 1))] dL_law_548 ml_L_49 ok_X11_dark vi_X11_dark rfl rfl (by decide) rfl (Nat.le_of_ble_eq_true rfl) (by decide) ?_
  refine pr_dark (d := 0) (d2 := 0) I (sv xs (i + 1)) (sv_rng _ _) (fun v g1 m => ?_)
  show lWP n xs 551 (lLs i) [aI v] g1
  refine l_pop dL_law_551 rfl ?_
  refine l_aload dL_law_552 rfl ?_
  refine l_aload dL_law_553 rfl ?_
  refine l_iload dL_law_554 rfl ?_
  refine l_iconst dL_law_555 ?_
  refine l_iadd dL_law_556 ?_
  refine l_sld (i + 1) dL_law_557 (by omega) (by omega) hn ?_
  refine l_callV (k := 12) (i := 0) (d := 0 + 6) (S := []) [aI (sv xs (i + 1))] dL_law_558 ml_L_52 ok_X12_dark vi_X12_dark rfl rfl (by decide) rfl (Nat.le_of_ble_eq_true rfl) (by decide) ?_
  refine m _ (fun g2 I2 => ?_)
  show lWP n xs 561 (lLs i) [aI v] g2
  refine l_pop dL_law_561 rfl ?_
  exact l_goto 1993 dL_law_562 (by decide) (tail _ I2)
set_option maxRecDepth 100000 in
theorem q_snow {n : Nat} {xs : Nat → Int32} {i : Nat} {h : fwH} (I : jI h) (hn : n ≤ 100000) (hi : i + 6 ≤ n) (tail : ∀ h, jI h → lWP n xs 1993 (lLs i) [] h) : lWP n xs 565 (lLs i) [] h := by
  refine l_aload dL_law_565 rfl ?_
  refine l_callV (k := 0) (i := 0) (d := 0 + 2) (S := []) [] dL_law_566 ml_L_53 ok_X11_snow vi_X11_snow rfl rfl (by decide) rfl (Nat.le_of_ble_eq_true rfl) (by decide) ?_
  refine pr_snow (d := 0) (d2 := 0) I   (fun v g1 m => ?_)
  show lWP n xs 569 (lLs i) [aI v] g1
  refine l_pop dL_law_569 rfl ?_
  refine l_aload dL_law_570 rfl ?_
  refine l_callV (k := 12) (i := 0) (d := 0 + 6) (S := []) [] dL_law_571 ml_L_56 ok_X12_snow vi_X12_snow rfl rfl (by decide) rfl (Nat.le_of_ble_eq_true rfl) (by decide) ?_
  refine m _ (fun g2 I2 => ?_)
  show lWP n xs 574 (lLs i) [aI v] g2
  refine l_pop dL_law_574 rfl ?_
  exact l_goto 1993 dL_law_575 (by decide) (tail _ I2)
set_option maxRecDepth 100000 in
theorem q_top {n : Nat} {xs : Nat → Int32} {i : Nat} {h : fwH} (I : jI h) (hn : n ≤ 100000) (hi : i + 6 ≤ n) (tail : ∀ h, jI h → lWP n xs 1993 (lLs i) [] h) : lWP n xs 578 (lLs i) [] h := by
  refine l_aload dL_law_578 rfl ?_
  refine l_callV (k := 0) (i := 0) (d := 0 + 2) (S := []) [] dL_law_579 ml_L_57 ok_X11_top vi_X11_top rfl rfl (by decide) rfl (Nat.le_of_ble_eq_true rfl) (by decide) ?_
  refine pr_top (d := 0) (d2 := 0) I   (fun v g1 m => ?_)
  show lWP n xs 582 (lLs i) [aI v] g1
  refine l_pop dL_law_582 rfl ?_
  refine l_aload dL_law_583 rfl ?_
  refine l_callV (k := 12) (i := 0) (d := 0 + 6) (S := []) [] dL_law_584 ml_L_60 ok_X12_top vi_X12_top rfl rfl (by decide) rfl (Nat.le_of_ble_eq_true rfl) (by decide) ?_
  refine m _ (fun g2 I2 => ?_)
  show lWP n xs 587 (lLs i) [aI v] g2
  refine l_pop dL_law_587 rfl ?_
  exact l_goto 1993 dL_law_588 (by decide) (tail _ I2)
set_option maxRecDepth 100000 in
theorem q_gain {n : Nat} {xs : Nat → Int32} {i : Nat} {h : fwH} (I : jI h) (hn : n ≤ 100000) (hi : i + 6 ≤ n) (tail : ∀ h, jI h → lWP n xs 1993 (lLs i) [] h) : lWP n xs 591 (lLs i) [] h := by
  refine l_aload dL_law_591 rfl ?_
  refine l_aload dL_law_592 rfl ?_
  refine l_iload dL_law_593 rfl ?_
  refine l_iconst dL_law_594 ?_
  refine l_iadd dL_law_595 ?_
  refine l_sld (i + 1) dL_law_596 (by omega) (by omega) hn ?_
  refine l_callV (k := 0) (i := 0) (d := 0 + 4) (S := []) [aI (sv xs (i + 1))] dL_law_597 ml_L_61 ok_X11_gain vi_X11_gain rfl rfl (by decide) rfl (Nat.le_of_ble_eq_true rfl) (by decide) ?_
  refine pr_gain (d := 0) (d2 := 0) I (sv xs (i + 1)) (sv_rng _ _) (fun v g1 m => ?_)
  show lWP n xs 600 (lLs i) [aI v] g1
  refine l_pop dL_law_600 rfl ?_
  refine l_aload dL_law_601 rfl ?_
  refine l_aload dL_law_602 rfl ?_
  refine l_iload dL_law_603 rfl ?_
  refine l_iconst dL_law_604 ?_
  refine l_iadd dL_law_605 ?_
  refine l_sld (i + 1) dL_law_606 (by omega) (by omega) hn ?_
  refine l_callV (k := 12) (i := 0) (d := 0 + 6) (S := []) [aI (sv xs (i + 1))] dL_law_607 ml_L_64 ok_X12_gain vi_X12_gain rfl rfl (by decide) rfl (Nat.le_of_ble_eq_true rfl) (by decide) ?_
  refine m _ (fun g2 I2 => ?_)
  show lWP n xs 610 (lLs i) [aI v] g2
  refine l_pop dL_law_610 rfl ?_
  exact l_goto 1993 dL_law_611 (by decide) (tail _ I2)
set_option maxRecDepth 100000 in
theorem q_hopes {n : Nat} {xs : Nat → Int32} {i : Nat} {h : fwH} (I : jI h) (hn : n ≤ 100000) (hi : i + 6 ≤ n) (tail : ∀ h, jI h → lWP n xs 1993 (lLs i) [] h) : lWP n xs 614 (lLs i) [] h := by
  refine l_aload dL_law_614 rfl ?_
  refine l_aload dL_law_615 rfl ?_
  refine l_iload dL_law_616 rfl ?_
  refine l_iconst dL_law_617 ?_
  refine l_iadd dL_law_618 ?_
  refine l_sld (i + 1) dL_law_619 (by omega) (by omega) hn ?_
  refine l_aload dL_law_620 rfl ?_
  refine l_iload dL_law_621 rfl ?_
  refine l_iconst dL_law_622 ?_
  refine l_iadd dL_law_623 ?_
  refine l_sld (i + 2) dL_law_624 (by omega) (by omega) hn ?_
  refine l_callV (k := 0) (i := 0) (d := 0 + 5) (S := []) [aI (sv xs (i + 1)), aI (sv xs (i + 2))] dL_law_625 ml_L_65 ok_X11_hopes vi_X11_hopes rfl rfl (by decide) rfl (Nat.le_of_ble_eq_true rfl) (by decide) ?_
  refine pr_hopes (d := 0) (d2 := 0) I (sv xs (i + 1)) (sv xs (i + 2)) (sv_rng _ _) (sv_rng _ _) (fun v g1 m => ?_)
  show lWP n xs 628 (lLs i) [aI v] g1
  refine l_pop dL_law_628 rfl ?_
  refine l_aload dL_law_629 rfl ?_
  refine l_aload dL_law_630 rfl ?_
  refine l_iload dL_law_631 rfl ?_
  refine l_iconst dL_law_632 ?_
  refine l_iadd dL_law_633 ?_
  refine l_sld (i + 1) dL_law_634 (by omega) (by omega) hn ?_
  refine l_aload dL_law_635 rfl ?_
  refine l_iload dL_law_636 rfl ?_
  refine l_iconst dL_law_637 ?_
  refine l_iadd dL_law_638 ?_
  refine l_sld (i + 2) dL_law_639 (by omega) (by omega) hn ?_
  refine l_callV (k := 12) (i := 0) (d := 0 + 7) (S := []) [aI (sv xs (i + 1)), aI (sv xs (i + 2))] dL_law_640 ml_L_68 ok_X12_hopes vi_X12_hopes rfl rfl (by decide) rfl (Nat.le_of_ble_eq_true rfl) (by decide) ?_
  refine m _ (fun g2 I2 => ?_)
  show lWP n xs 643 (lLs i) [aI v] g2
  refine l_pop dL_law_643 rfl ?_
  exact l_goto 1993 dL_law_644 (by decide) (tail _ I2)
set_option maxRecDepth 100000 in
theorem q_wishes {n : Nat} {xs : Nat → Int32} {i : Nat} {h : fwH} (I : jI h) (hn : n ≤ 100000) (hi : i + 6 ≤ n) (tail : ∀ h, jI h → lWP n xs 1993 (lLs i) [] h) : lWP n xs 647 (lLs i) [] h := by
  refine l_aload dL_law_647 rfl ?_
  refine l_aload dL_law_648 rfl ?_
  refine l_iload dL_law_649 rfl ?_
  refine l_iconst dL_law_650 ?_
  refine l_iadd dL_law_651 ?_
  refine l_sld (i + 1) dL_law_652 (by omega) (by omega) hn ?_
  refine l_callV (k := 0) (i := 0) (d := 0 + 5) (S := []) [aI (sv xs (i + 1))] dL_law_653 ml_L_69 ok_X11_wishes vi_X11_wishes rfl rfl (by decide) rfl (Nat.le_of_ble_eq_true rfl) (by decide) ?_
  refine pr_wishes (d := 0) (d2 := 0) I (sv xs (i + 1)) (sv_rng _ _) (fun v g1 m => ?_)
  show lWP n xs 656 (lLs i) [aI v] g1
  refine l_pop dL_law_656 rfl ?_
  refine l_aload dL_law_657 rfl ?_
  refine l_aload dL_law_658 rfl ?_
  refine l_iload dL_law_659 rfl ?_
  refine l_iconst dL_law_660 ?_
  refine l_iadd dL_law_661 ?_
  refine l_sld (i + 1) dL_law_662 (by omega) (by omega) hn ?_
  refine l_callV (k := 12) (i := 0) (d := 0 + 7) (S := []) [aI (sv xs (i + 1))] dL_law_663 ml_L_72 ok_X12_wishes vi_X12_wishes rfl rfl (by decide) rfl (Nat.le_of_ble_eq_true rfl) (by decide) ?_
  refine m _ (fun g2 I2 => ?_)
  show lWP n xs 666 (lLs i) [aI v] g2
  refine l_pop dL_law_666 rfl ?_
  exact l_goto 1993 dL_law_667 (by decide) (tail _ I2)
set_option maxRecDepth 100000 in
theorem q_gains {n : Nat} {xs : Nat → Int32} {i : Nat} {h : fwH} (I : jI h) (hn : n ≤ 100000) (hi : i + 6 ≤ n) (tail : ∀ h, jI h → lWP n xs 1993 (lLs i) [] h) : lWP n xs 670 (lLs i) [] h := by
  refine l_aload dL_law_670 rfl ?_
  refine l_callV (k := 0) (i := 0) (d := 0 + 4) (S := []) [] dL_law_671 ml_L_73 ok_X11_gains vi_X11_gains rfl rfl (by decide) rfl (Nat.le_of_ble_eq_true rfl) (by decide) ?_
  refine pr_gains (d := 0) (d2 := 0) I   (fun v g1 m => ?_)
  show lWP n xs 674 (lLs i) [aI v] g1
  refine l_pop dL_law_674 rfl ?_
  refine l_aload dL_law_675 rfl ?_
  refine l_callV (k := 12) (i := 0) (d := 0 + 6) (S := []) [] dL_law_676 ml_L_76 ok_X12_gains vi_X12_gains rfl rfl (by decide) rfl (Nat.le_of_ble_eq_true rfl) (by decide) ?_
  refine m _ (fun g2 I2 => ?_)
  show lWP n xs 679 (lLs i) [aI v] g2
  refine l_pop dL_law_679 rfl ?_
  exact l_goto 1993 dL_law_680 (by decide) (tail _ I2)
set_option maxRecDepth 100000 in
theorem q_take {n : Nat} {xs : Nat → Int32} {i : Nat} {h : fwH} (I : jI h) (hn : n ≤ 100000) (hi : i + 6 ≤ n) (tail : ∀ h, jI h → lWP n xs 1993 (lLs i) [] h) : lWP n xs 683 (lLs i) [] h := by
  refine l_aload dL_law_683 rfl ?_
  refine l_callV (k := 0) (i := 0) (d := 0 + 3) (S := []) [] dL_law_684 ml_L_77 ok_X11_take vi_X11_take rfl rfl (by decide) rfl (Nat.le_of_ble_eq_true rfl) (by decide) ?_
  refine pr_take (d := 0) (d2 := 0) I   (fun v g1 m => ?_)
  show lWP n xs 687 (lLs i) [aI v] g1
  refine l_pop dL_law_687 rfl ?_
  refine l_aload dL_law_688 rfl ?_
  refine l_callV (k := 12) (i := 0) (d := 0 + 6) (S := []) [] dL_law_689 ml_L_80 ok_X12_take vi_X12_take rfl rfl (by decide) rfl (Nat.le_of_ble_eq_true rfl) (by decide) ?_
  refine m _ (fun g2 I2 => ?_)
  show lWP n xs 692 (lLs i) [aI v] g2
  refine l_pop dL_law_692 rfl ?_
  exact l_goto 1993 dL_law_693 (by decide) (tail _ I2)
set_option maxRecDepth 100000 in
theorem q_heap {n : Nat} {xs : Nat → Int32} {i : Nat} {h : fwH} (I : jI h) (hn : n ≤ 100000) (hi : i + 6 ≤ n) (tail : ∀ h, jI h → lWP n xs 1993 (lLs i) [] h) : lWP n xs 696 (lLs i) [] h := by
  refine l_aload dL_law_696 rfl ?_
  refine l_aload dL_law_697 rfl ?_
  refine l_iload dL_law_698 rfl ?_
  refine l_iconst dL_law_699 ?_
  refine l_iadd dL_law_700 ?_
  refine l_sld (i + 1) dL_law_701 (by omega) (by omega) hn ?_
  refine l_callV (k := 0) (i := 0) (d := 0 + 4) (S := []) [aI (sv xs (i + 1))] dL_law_702 ml_L_81 ok_X11_heap vi_X11_heap rfl rfl (by decide) rfl (Nat.le_of_ble_eq_true rfl) (by decide) ?_
  refine pr_heap (d := 0) (d2 := 0) I (sv xs (i + 1)) (sv_rng _ _) (fun v g1 m => ?_)
  show lWP n xs 705 (lLs i) [aI v] g1
  refine l_pop dL_law_705 rfl ?_
  refine l_aload dL_law_706 rfl ?_
  refine l_aload dL_law_707 rfl ?_
  refine l_iload dL_law_708 rfl ?_
  refine l_iconst dL_law_709 ?_
  refine l_iadd dL_law_710 ?_
  refine l_sld (i + 1) dL_law_711 (by omega) (by omega) hn ?_
  refine l_callV (k := 12) (i := 0) (d := 0 + 6) (S := []) [aI (sv xs (i + 1))] dL_law_712 ml_L_84 ok_X12_heap vi_X12_heap rfl rfl (by decide) rfl (Nat.le_of_ble_eq_true rfl) (by decide) ?_
  refine m _ (fun g2 I2 => ?_)
  show lWP n xs 715 (lLs i) [aI v] g2
  refine l_pop dL_law_715 rfl ?_
  exact l_goto 1993 dL_law_716 (by decide) (tail _ I2)
set_option maxRecDepth 100000 in
theorem q_slides {n : Nat} {xs : Nat → Int32} {i : Nat} {h : fwH} (I : jI h) (hn : n ≤ 100000) (hi : i + 6 ≤ n) (tail : ∀ h, jI h → lWP n xs 1993 (lLs i) [] h) : lWP n xs 719 (lLs i) [] h := by
  refine l_aload dL_law_719 rfl ?_
  refine l_aload dL_law_720 rfl ?_
  refine l_iload dL_law_721 rfl ?_
  refine l_iconst dL_law_722 ?_
  refine l_iadd dL_law_723 ?_
  refine l_sld (i + 1) dL_law_724 (by omega) (by omega) hn ?_
  refine l_callV (k := 0) (i := 0) (d := 0 + 4) (S := []) [aI (sv xs (i + 1))] dL_law_725 ml_L_85 ok_X11_slides vi_X11_slides rfl rfl (by decide) rfl (Nat.le_of_ble_eq_true rfl) (by decide) ?_
  refine pr_slides (d := 0) (d2 := 0) I (sv xs (i + 1)) (sv_rng _ _) (fun v g1 m => ?_)
  show lWP n xs 728 (lLs i) [aI v] g1
  refine l_pop dL_law_728 rfl ?_
  refine l_aload dL_law_729 rfl ?_
  refine l_aload dL_law_730 rfl ?_
  refine l_iload dL_law_731 rfl ?_
  refine l_iconst dL_law_732 ?_
  refine l_iadd dL_law_733 ?_
  refine l_sld (i + 1) dL_law_734 (by omega) (by omega) hn ?_
  refine l_callV (k := 12) (i := 0) (d := 0 + 6) (S := []) [aI (sv xs (i + 1))] dL_law_735 ml_L_88 ok_X12_slides vi_X12_slides rfl rfl (by decide) rfl (Nat.le_of_ble_eq_true rfl) (by decide) ?_
  refine m _ (fun g2 I2 => ?_)
  show lWP n xs 738 (lLs i) [aI v] g2
  refine l_pop dL_law_738 rfl ?_
  exact l_goto 1993 dL_law_739 (by decide) (tail _ I2)
set_option maxRecDepth 100000 in
theorem q_undo {n : Nat} {xs : Nat → Int32} {i : Nat} {h : fwH} (I : jI h) (hn : n ≤ 100000) (hi : i + 6 ≤ n) (tail : ∀ h, jI h → lWP n xs 1993 (lLs i) [] h) : lWP n xs 742 (lLs i) [] h := by
  refine l_aload dL_law_742 rfl ?_
  refine l_callV (k := 0) (i := 0) (d := 0 + 3) (S := []) [] dL_law_743 ml_L_89 ok_X11_undo vi_X11_undo rfl rfl (by decide) rfl (Nat.le_of_ble_eq_true rfl) (by decide) ?_
  refine pr_undo (d := 0) (d2 := 0) I   (fun v g1 m => ?_)
  show lWP n xs 746 (lLs i) [aI v] g1
  refine l_pop dL_law_746 rfl ?_
  refine l_aload dL_law_747 rfl ?_
  refine l_callV (k := 12) (i := 0) (d := 0 + 1) (S := []) [] dL_law_748 ml_L_92 ok_X12_undo vi_X12_undo rfl rfl (by decide) rfl (Nat.le_of_ble_eq_true rfl) (by decide) ?_
  refine m _ (fun g2 I2 => ?_)
  show lWP n xs 751 (lLs i) [aI v] g2
  refine l_pop dL_law_751 rfl ?_
  exact l_goto 1993 dL_law_752 (by decide) (tail _ I2)
set_option maxRecDepth 100000 in
theorem q_anew {n : Nat} {xs : Nat → Int32} {i : Nat} {h : fwH} (I : jI h) (hn : n ≤ 100000) (hi : i + 6 ≤ n) (tail : ∀ h, jI h → lWP n xs 1993 (lLs i) [] h) : lWP n xs 755 (lLs i) [] h := by
  refine l_aload dL_law_755 rfl ?_
  refine l_callV (k := 0) (i := 0) (d := 0 + 3) (S := []) [] dL_law_756 ml_L_93 ok_X11_anew vi_X11_anew rfl rfl (by decide) rfl (Nat.le_of_ble_eq_true rfl) (by decide) ?_
  refine pr_anew (d := 0) (d2 := 0) I   (fun v g1 m => ?_)
  show lWP n xs 759 (lLs i) [aI v] g1
  refine l_pop dL_law_759 rfl ?_
  refine l_aload dL_law_760 rfl ?_
  refine l_callV (k := 12) (i := 0) (d := 0 + 1) (S := []) [] dL_law_761 ml_L_96 ok_X12_anew vi_X12_anew rfl rfl (by decide) rfl (Nat.le_of_ble_eq_true rfl) (by decide) ?_
  refine m _ (fun g2 I2 => ?_)
  show lWP n xs 764 (lLs i) [aI v] g2
  refine l_pop dL_law_764 rfl ?_
  exact l_goto 1993 dL_law_765 (by decide) (tail _ I2)
set_option maxRecDepth 100000 in
theorem q_willing {n : Nat} {xs : Nat → Int32} {i : Nat} {h : fwH} (I : jI h) (hn : n ≤ 100000) (hi : i + 6 ≤ n) (tail : ∀ h, jI h → lWP n xs 1993 (lLs i) [] h) : lWP n xs 768 (lLs i) [] h := by
  refine l_aload dL_law_768 rfl ?_
  refine l_callV (k := 0) (i := 0) (d := 0 + 4) (S := []) [] dL_law_769 ml_L_97 ok_X11_willing vi_X11_willing rfl rfl (by decide) rfl (Nat.le_of_ble_eq_true rfl) (by decide) ?_
  refine pr_willing (d := 0) (d2 := 0) I   (fun v g1 m => ?_)
  show lWP n xs 772 (lLs i) [aI v] g1
  refine l_pop dL_law_772 rfl ?_
  refine l_aload dL_law_773 rfl ?_
  refine l_callV (k := 12) (i := 0) (d := 0 + 6) (S := []) [] dL_law_774 ml_L_100 ok_X12_willing vi_X12_willing rfl rfl (by decide) rfl (Nat.le_of_ble_eq_true rfl) (by decide) ?_
  refine m _ (fun g2 I2 => ?_)
  show lWP n xs 777 (lLs i) [aI v] g2
  refine l_pop dL_law_777 rfl ?_
  exact l_goto 1993 dL_law_778 (by decide) (tail _ I2)
set_option maxRecDepth 100000 in
theorem q_signers {n : Nat} {xs : Nat → Int32} {i : Nat} {h : fwH} (I : jI h) (hn : n ≤ 100000) (hi : i + 6 ≤ n) (tail : ∀ h, jI h → lWP n xs 1993 (lLs i) [] h) : lWP n xs 781 (lLs i) [] h := by
  refine l_aload dL_law_781 rfl ?_
  refine l_aload dL_law_782 rfl ?_
  refine l_iload dL_law_783 rfl ?_
  refine l_iconst dL_law_784 ?_
  refine l_iadd dL_law_785 ?_
  refine l_sld (i + 1) dL_law_786 (by omega) (by omega) hn ?_
  refine l_callV (k := 0) (i := 0) (d := 0 + 5) (S := []) [aI (sv xs (i + 1))] dL_law_787 ml_L_101 ok_X11_signers vi_X11_signers rfl rfl (by decide) rfl (Nat.le_of_ble_eq_true rfl) (by decide) ?_
  refine pr_signers (d := 0) (d2 := 0) I (sv xs (i + 1)) (sv_rng _ _) (fun v g1 m => ?_)
  show lWP n xs 790 (lLs i) [aI v] g1
  refine l_pop dL_law_790 rfl ?_
  refine l_aload dL_law_791 rfl ?_
  refine l_aload dL_law_792 rfl ?_
  refine l_iload dL_law_793 rfl ?_
  refine l_iconst dL_law_794 ?_
  refine l_iadd dL_law_795 ?_
  refine l_sld (i + 1) dL_law_796 (by omega) (by omega) hn ?_
  refine l_callV (k := 12) (i := 0) (d := 0 + 6) (S := []) [aI (sv xs (i + 1))] dL_law_797 ml_L_104 ok_X12_signers vi_X12_signers rfl rfl (by decide) rfl (Nat.le_of_ble_eq_true rfl) (by decide) ?_
  refine m _ (fun g2 I2 => ?_)
  show lWP n xs 800 (lLs i) [aI v] g2
  refine l_pop dL_law_800 rfl ?_
  exact l_goto 1993 dL_law_801 (by decide) (tail _ I2)
set_option maxRecDepth 100000 in
theorem q_names {n : Nat} {xs : Nat → Int32} {i : Nat} {h : fwH} (I : jI h) (hn : n ≤ 100000) (hi : i + 6 ≤ n) (tail : ∀ h, jI h → lWP n xs 1993 (lLs i) [] h) : lWP n xs 804 (lLs i) [] h := by
  refine l_aload dL_law_804 rfl ?_
  refine l_aload dL_law_805 rfl ?_
  refine l_iload dL_law_806 rfl ?_
  refine l_iconst dL_law_807 ?_
  refine l_iadd dL_law_808 ?_
  refine l_sld (i + 1) dL_law_809 (by omega) (by omega) hn ?_
  refine l_callV (k := 0) (i := 0) (d := 0 + 5) (S := []) [aI (sv xs (i + 1))] dL_law_810 ml_L_105 ok_X11_names vi_X11_names rfl rfl (by decide) rfl (Nat.le_of_ble_eq_true rfl) (by decide) ?_
  refine pr_names (d := 0) (d2 := 0) I (sv xs (i + 1)) (sv_rng _ _) (fun v g1 m => ?_)
  show lWP n xs 813 (lLs i) [aI v] g1
  refine l_pop dL_law_813 rfl ?_
  refine l_aload dL_law_814 rfl ?_
  refine l_aload dL_law_815 rfl ?_
  refine l_iload dL_law_816 rfl ?_
  refine l_iconst dL_law_817 ?_
  refine l_iadd dL_law_818 ?_
  refine l_sld (i + 1) dL_law_819 (by omega) (by omega) hn ?_
  refine l_callV (k := 12) (i := 0) (d := 0 + 6) (S := []) [aI (sv xs (i + 1))] dL_law_820 ml_L_108 ok_X12_names vi_X12_names rfl rfl (by decide) rfl (Nat.le_of_ble_eq_true rfl) (by decide) ?_
  refine m _ (fun g2 I2 => ?_)
  show lWP n xs 823 (lLs i) [aI v] g2
  refine l_pop dL_law_823 rfl ?_
  exact l_goto 1993 dL_law_824 (by decide) (tail _ I2)
set_option maxRecDepth 100000 in
theorem q_first {n : Nat} {xs : Nat → Int32} {i : Nat} {h : fwH} (I : jI h) (hn : n ≤ 100000) (hi : i + 6 ≤ n) (tail : ∀ h, jI h → lWP n xs 1993 (lLs i) [] h) : lWP n xs 827 (lLs i) [] h := by
  refine l_aload dL_law_827 rfl ?_
  refine l_callV (k := 0) (i := 0) (d := 0 + 5) (S := []) [] dL_law_828 ml_L_109 ok_X11_first vi_X11_first rfl rfl (by decide) rfl (Nat.le_of_ble_eq_true rfl) (by decide) ?_
  refine pr_first (d := 0) (d2 := 0) I   (fun v g1 m => ?_)
  show lWP n xs 831 (lLs i) [aI v] g1
  refine l_pop dL_law_831 rfl ?_
  refine l_aload dL_law_832 rfl ?_
  refine l_callV (k := 12) (i := 0) (d := 0 + 7) (S := []) [] dL_law_833 ml_L_112 ok_X12_first vi_X12_first rfl rfl (by decide) rfl (Nat.le_of_ble_eq_true rfl) (by decide) ?_
  refine m _ (fun g2 I2 => ?_)
  show lWP n xs 836 (lLs i) [aI v] g2
  refine l_pop dL_law_836 rfl ?_
  exact l_goto 1993 dL_law_837 (by decide) (tail _ I2)
set_option maxRecDepth 100000 in
theorem q_firsts {n : Nat} {xs : Nat → Int32} {i : Nat} {h : fwH} (I : jI h) (hn : n ≤ 100000) (hi : i + 6 ≤ n) (tail : ∀ h, jI h → lWP n xs 1993 (lLs i) [] h) : lWP n xs 840 (lLs i) [] h := by
  refine l_aload dL_law_840 rfl ?_
  refine l_callV (k := 0) (i := 0) (d := 0 + 5) (S := []) [] dL_law_841 ml_L_113 ok_X11_firsts vi_X11_firsts rfl rfl (by decide) rfl (Nat.le_of_ble_eq_true rfl) (by decide) ?_
  refine pr_firsts (d := 0) (d2 := 0) I   (fun v g1 m => ?_)
  show lWP n xs 844 (lLs i) [aI v] g1
  refine l_pop dL_law_844 rfl ?_
  refine l_aload dL_law_845 rfl ?_
  refine l_callV (k := 12) (i := 0) (d := 0 + 7) (S := []) [] dL_law_846 ml_L_116 ok_X12_firsts vi_X12_firsts rfl rfl (by decide) rfl (Nat.le_of_ble_eq_true rfl) (by decide) ?_
  refine m _ (fun g2 I2 => ?_)
  show lWP n xs 849 (lLs i) [aI v] g2
  refine l_pop dL_law_849 rfl ?_
  exact l_goto 1993 dL_law_850 (by decide) (tail _ I2)
set_option maxRecDepth 100000 in
theorem q_next {n : Nat} {xs : Nat → Int32} {i : Nat} {h : fwH} (I : jI h) (hn : n ≤ 100000) (hi : i + 6 ≤ n) (tail : ∀ h, jI h → lWP n xs 1993 (lLs i) [] h) : lWP n xs 853 (lLs i) [] h := by
  refine l_aload dL_law_853 rfl ?_
  refine l_aload dL_law_854 rfl ?_
  refine l_iload dL_law_855 rfl ?_
  refine l_iconst dL_law_856 ?_
  refine l_iadd dL_law_857 ?_
  refine l_sld (i + 1) dL_law_858 (by omega) (by omega) hn ?_
  refine l_callV (k := 0) (i := 0) (d := 0 + 5) (S := []) [aI (sv xs (i + 1))] dL_law_859 ml_L_117 ok_X11_next vi_X11_next rfl rfl (by decide) rfl (Nat.le_of_ble_eq_true rfl) (by decide) ?_
  refine pr_next (d := 0) (d2 := 0) I (sv xs (i + 1)) (sv_rng _ _) (fun v g1 m => ?_)
  show lWP n xs 862 (lLs i) [aI v] g1
  refine l_pop dL_law_862 rfl ?_
  refine l_aload dL_law_863 rfl ?_
  refine l_aload dL_law_864 rfl ?_
  refine l_iload dL_law_865 rfl ?_
  refine l_iconst dL_law_866 ?_
  refine l_iadd dL_law_867 ?_
  refine l_sld (i + 1) dL_law_868 (by omega) (by omega) hn ?_
  refine l_callV (k := 12) (i := 0) (d := 0 + 6) (S := []) [aI (sv xs (i + 1))] dL_law_869 ml_L_120 ok_X12_next vi_X12_next rfl rfl (by decide) rfl (Nat.le_of_ble_eq_true rfl) (by decide) ?_
  refine m _ (fun g2 I2 => ?_)
  show lWP n xs 872 (lLs i) [aI v] g2
  refine l_pop dL_law_872 rfl ?_
  exact l_goto 1993 dL_law_873 (by decide) (tail _ I2)
set_option maxRecDepth 100000 in
theorem q_needed {n : Nat} {xs : Nat → Int32} {i : Nat} {h : fwH} (I : jI h) (hn : n ≤ 100000) (hi : i + 6 ≤ n) (tail : ∀ h, jI h → lWP n xs 1993 (lLs i) [] h) : lWP n xs 876 (lLs i) [] h := by
  refine l_aload dL_law_876 rfl ?_
  refine l_callV (k := 0) (i := 0) (d := 0 + 5) (S := []) [] dL_law_877 ml_L_121 ok_X11_needed vi_X11_needed rfl rfl (by decide) rfl (Nat.le_of_ble_eq_true rfl) (by decide) ?_
  refine pr_needed (d := 0) (d2 := 0) I   (fun v g1 m => ?_)
  show lWP n xs 880 (lLs i) [aI v] g1
  refine l_pop dL_law_880 rfl ?_
  refine l_aload dL_law_881 rfl ?_
  refine l_callV (k := 12) (i := 0) (d := 0 + 6) (S := []) [] dL_law_882 ml_L_124 ok_X12_needed vi_X12_needed rfl rfl (by decide) rfl (Nat.le_of_ble_eq_true rfl) (by decide) ?_
  refine m _ (fun g2 I2 => ?_)
  show lWP n xs 885 (lLs i) [aI v] g2
  refine l_pop dL_law_885 rfl ?_
  exact l_goto 1993 dL_law_886 (by decide) (tail _ I2)
set_option maxRecDepth 100000 in
theorem q_play {n : Nat} {xs : Nat → Int32} {i : Nat} {h : fwH} (I : jI h) (hn : n ≤ 100000) (hi : i + 6 ≤ n) (tail : ∀ h, jI h → lWP n xs 1993 (lLs i) [] h) : lWP n xs 889 (lLs i) [] h := by
  refine l_aload dL_law_889 rfl ?_
  refine l_aload dL_law_890 rfl ?_
  refine l_iload dL_law_891 rfl ?_
  refine l_iconst dL_law_892 ?_
  refine l_iadd dL_law_893 ?_
  refine l_sld (i + 1) dL_law_894 (by omega) (by omega) hn ?_
  refine l_aload dL_law_895 rfl ?_
  refine l_iload dL_law_896 rfl ?_
  refine l_iconst dL_law_897 ?_
  refine l_iadd dL_law_898 ?_
  refine l_sld (i + 2) dL_law_899 (by omega) (by omega) hn ?_
  refine l_callV (k := 0) (i := 0) (d := 0 + 30) (S := []) [aI (sv xs (i + 1)), aI (sv xs (i + 2))] dL_law_900 ml_L_125 ok_X11_play vi_X11_play rfl rfl (by decide) rfl (Nat.le_of_ble_eq_true rfl) (by decide) ?_
  refine pr_play (d := 0) (d2 := 0) I (sv xs (i + 1)) (sv xs (i + 2)) (sv_rng _ _) (sv_rng _ _) (fun v g1 m => ?_)
  show lWP n xs 903 (lLs i) [aI v] g1
  refine l_pop dL_law_903 rfl ?_
  refine l_aload dL_law_904 rfl ?_
  refine l_aload dL_law_905 rfl ?_
  refine l_iload dL_law_906 rfl ?_
  refine l_iconst dL_law_907 ?_
  refine l_iadd dL_law_908 ?_
  refine l_sld (i + 1) dL_law_909 (by omega) (by omega) hn ?_
  refine l_aload dL_law_910 rfl ?_
  refine l_iload dL_law_911 rfl ?_
  refine l_iconst dL_law_912 ?_
  refine l_iadd dL_law_913 ?_
  refine l_sld (i + 2) dL_law_914 (by omega) (by omega) hn ?_
  refine l_callV (k := 12) (i := 0) (d := 0 + 7) (S := []) [aI (sv xs (i + 1)), aI (sv xs (i + 2))] dL_law_915 ml_L_128 ok_X12_play vi_X12_play rfl rfl (by decide) rfl (Nat.le_of_ble_eq_true rfl) (by decide) ?_
  refine m _ (fun v2 g2 I2 => ?_)
  show lWP n xs 918 (lLs i) [aI v2] g2
  refine l_pop dL_law_918 rfl ?_
  exact l_goto 1993 dL_law_919 (by decide) (tail _ I2)
set_option maxRecDepth 100000 in
theorem q_moves {n : Nat} {xs : Nat → Int32} {i : Nat} {h : fwH} (I : jI h) (hn : n ≤ 100000) (hi : i + 6 ≤ n) (tail : ∀ h, jI h → lWP n xs 1993 (lLs i) [] h) : lWP n xs 922 (lLs i) [] h := by
  refine l_aload dL_law_922 rfl ?_
  refine l_aload dL_law_923 rfl ?_
  refine l_iload dL_law_924 rfl ?_
  refine l_iconst dL_law_925 ?_
  refine l_iadd dL_law_926 ?_
  refine l_sld (i + 1) dL_law_927 (by omega) (by omega) hn ?_
  refine l_aload dL_law_928 rfl ?_
  refine l_iload dL_law_929 rfl ?_
  refine l_iconst dL_law_930 ?_
  refine l_iadd dL_law_931 ?_
  refine l_sld (i + 2) dL_law_932 (by omega) (by omega) hn ?_
  refine l_callV (k := 0) (i := 0) (d := 0 + 31) (S := []) [aI (sv xs (i + 1)), aI (sv xs (i + 2))] dL_law_933 ml_L_129 ok_X11_moves vi_X11_moves rfl rfl (by decide) rfl (Nat.le_of_ble_eq_true rfl) (by decide) ?_
  refine pr_moves (d := 0) (d2 := 0) I (sv xs (i + 1)) (sv xs (i + 2)) (sv_rng _ _) (sv_rng _ _) (fun v g1 m => ?_)
  show lWP n xs 936 (lLs i) [aI v] g1
  refine l_pop dL_law_936 rfl ?_
  refine l_aload dL_law_937 rfl ?_
  refine l_aload dL_law_938 rfl ?_
  refine l_iload dL_law_939 rfl ?_
  refine l_iconst dL_law_940 ?_
  refine l_iadd dL_law_941 ?_
  refine l_sld (i + 1) dL_law_942 (by omega) (by omega) hn ?_
  refine l_aload dL_law_943 rfl ?_
  refine l_iload dL_law_944 rfl ?_
  refine l_iconst dL_law_945 ?_
  refine l_iadd dL_law_946 ?_
  refine l_sld (i + 2) dL_law_947 (by omega) (by omega) hn ?_
  refine l_callV (k := 12) (i := 0) (d := 0 + 7) (S := []) [aI (sv xs (i + 1)), aI (sv xs (i + 2))] dL_law_948 ml_L_132 ok_X12_moves vi_X12_moves rfl rfl (by decide) rfl (Nat.le_of_ble_eq_true rfl) (by decide) ?_
  refine m _ (fun v2 g2 I2 => ?_)
  show lWP n xs 951 (lLs i) [aI v2] g2
  refine l_pop dL_law_951 rfl ?_
  exact l_goto 1993 dL_law_952 (by decide) (tail _ I2)
set_option maxRecDepth 100000 in
theorem q_round {n : Nat} {xs : Nat → Int32} {i : Nat} {h : fwH} (I : jI h) (hn : n ≤ 100000) (hi : i + 6 ≤ n) (tail : ∀ h, jI h → lWP n xs 1993 (lLs i) [] h) : lWP n xs 955 (lLs i) [] h := by
  refine l_aload dL_law_955 rfl ?_
  refine l_aload dL_law_956 rfl ?_
  refine l_iload dL_law_957 rfl ?_
  refine l_iconst dL_law_958 ?_
  refine l_iadd dL_law_959 ?_
  refine l_sld (i + 1) dL_law_960 (by omega) (by omega) hn ?_
  refine l_aload dL_law_961 rfl ?_
  refine l_iload dL_law_962 rfl ?_
  refine l_iconst dL_law_963 ?_
  refine l_iadd dL_law_964 ?_
  refine l_sld (i + 2) dL_law_965 (by omega) (by omega) hn ?_
  refine l_callV (k := 0) (i := 0) (d := 0 + 6) (S := []) [aI (sv xs (i + 1)), aI (sv xs (i + 2))] dL_law_966 ml_L_133 ok_X11_round vi_X11_round rfl rfl (by decide) rfl (Nat.le_of_ble_eq_true rfl) (by decide) ?_
  refine pr_round (d := 0) (d2 := 0) I (sv xs (i + 1)) (sv xs (i + 2)) (sv_rng _ _) (sv_rng _ _) (fun v g1 m => ?_)
  show lWP n xs 969 (lLs i) [aI v] g1
  refine l_pop dL_law_969 rfl ?_
  refine l_aload dL_law_970 rfl ?_
  refine l_aload dL_law_971 rfl ?_
  refine l_iload dL_law_972 rfl ?_
  refine l_iconst dL_law_973 ?_
  refine l_iadd dL_law_974 ?_
  refine l_sld (i + 1) dL_law_975 (by omega) (by omega) hn ?_
  refine l_aload dL_law_976 rfl ?_
  refine l_iload dL_law_977 rfl ?_
  refine l_iconst dL_law_978 ?_
  refine l_iadd dL_law_979 ?_
  refine l_sld (i + 2) dL_law_980 (by omega) (by omega) hn ?_
  refine l_callV (k := 12) (i := 0) (d := 0 + 8) (S := []) [aI (sv xs (i + 1)), aI (sv xs (i + 2))] dL_law_981 ml_L_136 ok_X12_round vi_X12_round rfl rfl (by decide) rfl (Nat.le_of_ble_eq_true rfl) (by decide) ?_
  refine m _ (fun v2 g2 I2 => ?_)
  show lWP n xs 984 (lLs i) [aI v2] g2
  refine l_pop dL_law_984 rfl ?_
  exact l_goto 1993 dL_law_985 (by decide) (tail _ I2)
set_option maxRecDepth 100000 in
theorem q_goes {n : Nat} {xs : Nat → Int32} {i : Nat} {h : fwH} (I : jI h) (hn : n ≤ 100000) (hi : i + 6 ≤ n) (tail : ∀ h, jI h → lWP n xs 1993 (lLs i) [] h) : lWP n xs 988 (lLs i) [] h := by
  refine l_aload dL_law_988 rfl ?_
  refine l_aload dL_law_989 rfl ?_
  refine l_iload dL_law_990 rfl ?_
  refine l_iconst dL_law_991 ?_
  refine l_iadd dL_law_992 ?_
  refine l_sld (i + 1) dL_law_993 (by omega) (by omega) hn ?_
  refine l_aload dL_law_994 rfl ?_
  refine l_iload dL_law_995 rfl ?_
  refine l_iconst dL_law_996 ?_
  refine l_iadd dL_law_997 ?_
  refine l_sld (i + 2) dL_law_998 (by omega) (by omega) hn ?_
  refine l_aload dL_law_999 rfl ?_
  refine l_iload dL_law_1000 rfl ?_
  refine l_iconst dL_law_1001 ?_
  refine l_iadd dL_law_1002 ?_
  refine l_sld (i + 3) dL_law_1003 (by omega) (by omega) hn ?_
  refine l_callV (k := 0) (i := 0) (d := 0 + 6) (S := []) [aI (sv xs (i + 1)), aI (sv xs (i + 2)), aI (sv xs (i + 3))] dL_law_1004 ml_L_137 ok_X11_goes vi_X11_goes rfl rfl (by decide) rfl (Nat.le_of_ble_eq_true rfl) (by decide) ?_
  refine pr_goes (d := 0) (d2 := 0) I (sv xs (i + 1)) (sv xs (i + 2)) (sv xs (i + 3)) (sv_rng _ _) (sv_rng _ _) (sv_rng _ _) (fun v g1 m => ?_)
  show lWP n xs 1007 (lLs i) [aI v] g1
  refine l_pop dL_law_1007 rfl ?_
  refine l_aload dL_law_1008 rfl ?_
  refine l_aload dL_law_1009 rfl ?_
  refine l_iload dL_law_1010 rfl ?_
  refine l_iconst dL_law_1011 ?_
  refine l_iadd dL_law_1012 ?_
  refine l_sld (i + 1) dL_law_1013 (by omega) (by omega) hn ?_
  refine l_aload dL_law_1014 rfl ?_
  refine l_iload dL_law_1015 rfl ?_
  refine l_iconst dL_law_1016 ?_
  refine l_iadd dL_law_1017 ?_
  refine l_sld (i + 2) dL_law_1018 (by omega) (by omega) hn ?_
  refine l_aload dL_law_1019 rfl ?_
  refine l_iload dL_law_1020 rfl ?_
  refine l_iconst dL_law_1021 ?_
  refine l_iadd dL_law_1022 ?_
  refine l_sld (i + 3) dL_law_1023 (by omega) (by omega) hn ?_
  refine l_callV (k := 12) (i := 0) (d := 0 + 8) (S := []) [aI (sv xs (i + 1)), aI (sv xs (i + 2)), aI (sv xs (i + 3))] dL_law_1024 ml_L_141 ok_X12_goes vi_X12_goes rfl rfl (by decide) rfl (Nat.le_of_ble_eq_true rfl) (by decide) ?_
  refine m _ (fun v2 g2 I2 => ?_)
  show lWP n xs 1027 (lLs i) [aI v2] g2
  refine l_pop dL_law_1027 rfl ?_
  exact l_goto 1993 dL_law_1028 (by decide) (tail _ I2)
set_option maxRecDepth 100000 in
theorem q_two {n : Nat} {xs : Nat → Int32} {i : Nat} {h : fwH} (I : jI h) (hn : n ≤ 100000) (hi : i + 6 ≤ n) (tail : ∀ h, jI h → lWP n xs 1993 (lLs i) [] h) : lWP n xs 1031 (lLs i) [] h := by
  refine l_aload dL_law_1031 rfl ?_
  refine l_aload dL_law_1032 rfl ?_
  refine l_iload dL_law_1033 rfl ?_
  refine l_iconst dL_law_1034 ?_
  refine l_iadd dL_law_1035 ?_
  refine l_sld (i + 1) dL_law_1036 (by omega) (by omega) hn ?_
  refine l_aload dL_law_1037 rfl ?_
  refine l_iload dL_law_1038 rfl ?_
  refine l_iconst dL_law_1039 ?_
  refine l_iadd dL_law_1040 ?_
  refine l_sld (i + 2) dL_law_1041 (by omega) (by omega) hn ?_
  refine l_aload dL_law_1042 rfl ?_
  refine l_iload dL_law_1043 rfl ?_
  refine l_iconst dL_law_1044 ?_
  refine l_iadd dL_law_1045 ?_
  refine l_sld (i + 3) dL_law_1046 (by omega) (by omega) hn ?_
  refine l_callV (k := 0) (i := 0) (d := 0 + 6) (S := []) [aI (sv xs (i + 1)), aI (sv xs (i + 2)), aI (sv xs (i + 3))] dL_law_1047 ml_L_142 ok_X11_two vi_X11_two rfl rfl (by decide) rfl (Nat.le_of_ble_eq_true rfl) (by decide) ?_
  refine pr_two (d := 0) (d2 := 0) I (sv xs (i + 1)) (sv xs (i + 2)) (sv xs (i + 3)) (sv_rng _ _) (sv_rng _ _) (sv_rng _ _) (fun v g1 m => ?_)
  show lWP n xs 1050 (lLs i) [aI v] g1
  refine l_pop dL_law_1050 rfl ?_
  refine l_aload dL_law_1051 rfl ?_
  refine l_aload dL_law_1052 rfl ?_
  refine l_iload dL_law_1053 rfl ?_
  refine l_iconst dL_law_1054 ?_
  refine l_iadd dL_law_1055 ?_
  refine l_sld (i + 1) dL_law_1056 (by omega) (by omega) hn ?_
  refine l_aload dL_law_1057 rfl ?_
  refine l_iload dL_law_1058 rfl ?_
  refine l_iconst dL_law_1059 ?_
  refine l_iadd dL_law_1060 ?_
  refine l_sld (i + 2) dL_law_1061 (by omega) (by omega) hn ?_
  refine l_aload dL_law_1062 rfl ?_
  refine l_iload dL_law_1063 rfl ?_
  refine l_iconst dL_law_1064 ?_
  refine l_iadd dL_law_1065 ?_
  refine l_sld (i + 3) dL_law_1066 (by omega) (by omega) hn ?_
  refine l_callV (k := 12) (i := 0) (d := 0 + 8) (S := []) [aI (sv xs (i + 1)), aI (sv xs (i + 2)), aI (sv xs (i + 3))] dL_law_1067 ml_L_145 ok_X12_two vi_X12_two rfl rfl (by decide) rfl (Nat.le_of_ble_eq_true rfl) (by decide) ?_
  refine m _ (fun v2 g2 I2 => ?_)
  show lWP n xs 1070 (lLs i) [aI v2] g2
  refine l_pop dL_law_1070 rfl ?_
  exact l_goto 1993 dL_law_1071 (by decide) (tail _ I2)
set_option maxRecDepth 100000 in
theorem q_flows {n : Nat} {xs : Nat → Int32} {i : Nat} {h : fwH} (I : jI h) (hn : n ≤ 100000) (hi : i + 6 ≤ n) (tail : ∀ h, jI h → lWP n xs 1993 (lLs i) [] h) : lWP n xs 1074 (lLs i) [] h := by
  refine l_aload dL_law_1074 rfl ?_
  refine l_aload dL_law_1075 rfl ?_
  refine l_iload dL_law_1076 rfl ?_
  refine l_iconst dL_law_1077 ?_
  refine l_iadd dL_law_1078 ?_
  refine l_sld (i + 1) dL_law_1079 (by omega) (by omega) hn ?_
  refine l_callV (k := 0) (i := 0) (d := 0 + 4) (S := []) [aI (sv xs (i + 1))] dL_law_1080 ml_L_146 ok_X11_flows vi_X11_flows rfl rfl (by decide) rfl (Nat.le_of_ble_eq_true rfl) (by decide) ?_
  refine pr_flows (d := 0) (d2 := 0) I (sv xs (i + 1)) (sv_rng _ _) (fun v g1 m => ?_)
  show lWP n xs 1083 (lLs i) [aI v] g1
  refine l_pop dL_law_1083 rfl ?_
  refine l_aload dL_law_1084 rfl ?_
  refine l_aload dL_law_1085 rfl ?_
  refine l_iload dL_law_1086 rfl ?_
  refine l_iconst dL_law_1087 ?_
  refine l_iadd dL_law_1088 ?_
  refine l_sld (i + 1) dL_law_1089 (by omega) (by omega) hn ?_
  refine l_callV (k := 12) (i := 0) (d := 0 + 6) (S := []) [aI (sv xs (i + 1))] dL_law_1090 ml_L_149 ok_X12_flows vi_X12_flows rfl rfl (by decide) rfl (Nat.le_of_ble_eq_true rfl) (by decide) ?_
  refine m _ (fun g2 I2 => ?_)
  show lWP n xs 1093 (lLs i) [aI v] g2
  refine l_pop dL_law_1093 rfl ?_
  exact l_goto 1993 dL_law_1094 (by decide) (tail _ I2)
set_option maxRecDepth 100000 in
theorem q_basin {n : Nat} {xs : Nat → Int32} {i : Nat} {h : fwH} (I : jI h) (hn : n ≤ 100000) (hi : i + 6 ≤ n) (tail : ∀ h, jI h → lWP n xs 1993 (lLs i) [] h) : lWP n xs 1097 (lLs i) [] h := by
  refine l_aload dL_law_1097 rfl ?_
  refine l_aload dL_law_1098 rfl ?_
  refine l_iload dL_law_1099 rfl ?_
  refine l_iconst dL_law_1100 ?_
  refine l_iadd dL_law_1101 ?_
  refine l_sld (i + 1) dL_law_1102 (by omega) (by omega) hn ?_
  refine l_callV (k := 0) (i := 0) (d := 0 + 5) (S := []) [aI (sv xs (i + 1))] dL_law_1103 ml_L_150 ok_X11_basin vi_X11_basin rfl rfl (by decide) rfl (Nat.le_of_ble_eq_true rfl) (by decide) ?_
  refine pr_basin (d := 0) (d2 := 0) I (sv xs (i + 1)) (sv_rng _ _) (fun v g1 m => ?_)
  show lWP n xs 1106 (lLs i) [aI v] g1
  refine l_pop dL_law_1106 rfl ?_
  refine l_aload dL_law_1107 rfl ?_
  refine l_aload dL_law_1108 rfl ?_
  refine l_iload dL_law_1109 rfl ?_
  refine l_iconst dL_law_1110 ?_
  refine l_iadd dL_law_1111 ?_
  refine l_sld (i + 1) dL_law_1112 (by omega) (by omega) hn ?_
  refine l_callV (k := 12) (i := 0) (d := 0 + 6) (S := []) [aI (sv xs (i + 1))] dL_law_1113 ml_L_153 ok_X12_basin vi_X12_basin rfl rfl (by decide) rfl (Nat.le_of_ble_eq_true rfl) (by decide) ?_
  refine m _ (fun g2 I2 => ?_)
  show lWP n xs 1116 (lLs i) [aI v] g2
  refine l_pop dL_law_1116 rfl ?_
  exact l_goto 1993 dL_law_1117 (by decide) (tail _ I2)
set_option maxRecDepth 100000 in
theorem q_cliffs {n : Nat} {xs : Nat → Int32} {i : Nat} {h : fwH} (I : jI h) (hn : n ≤ 100000) (hi : i + 6 ≤ n) (tail : ∀ h, jI h → lWP n xs 1993 (lLs i) [] h) : lWP n xs 1120 (lLs i) [] h := by
  refine l_aload dL_law_1120 rfl ?_
  refine l_callV (k := 0) (i := 0) (d := 0 + 2) (S := []) [] dL_law_1121 ml_L_154 ok_X11_cliffs vi_X11_cliffs rfl rfl (by decide) rfl (Nat.le_of_ble_eq_true rfl) (by decide) ?_
  refine pr_cliffs (d := 0) (d2 := 0) I   (fun v g1 m => ?_)
  show lWP n xs 1124 (lLs i) [aI v] g1
  refine l_pop dL_law_1124 rfl ?_
  refine l_aload dL_law_1125 rfl ?_
  refine l_callV (k := 12) (i := 0) (d := 0 + 6) (S := []) [] dL_law_1126 ml_L_157 ok_X12_cliffs vi_X12_cliffs rfl rfl (by decide) rfl (Nat.le_of_ble_eq_true rfl) (by decide) ?_
  refine m _ (fun g2 I2 => ?_)
  show lWP n xs 1129 (lLs i) [aI v] g2
  refine l_pop dL_law_1129 rfl ?_
  exact l_goto 1993 dL_law_1130 (by decide) (tail _ I2)
set_option maxRecDepth 100000 in
theorem q_springs {n : Nat} {xs : Nat → Int32} {i : Nat} {h : fwH} (I : jI h) (hn : n ≤ 100000) (hi : i + 6 ≤ n) (tail : ∀ h, jI h → lWP n xs 1993 (lLs i) [] h) : lWP n xs 1133 (lLs i) [] h := by
  refine l_aload dL_law_1133 rfl ?_
  refine l_callV (k := 0) (i := 0) (d := 0 + 5) (S := []) [] dL_law_1134 ml_L_158 ok_X11_springs vi_X11_springs rfl rfl (by decide) rfl (Nat.le_of_ble_eq_true rfl) (by decide) ?_
  refine pr_springs (d := 0) (d2 := 0) I   (fun v g1 m => ?_)
  show lWP n xs 1137 (lLs i) [aI v] g1
  refine l_pop dL_law_1137 rfl ?_
  refine l_aload dL_law_1138 rfl ?_
  refine l_callV (k := 12) (i := 0) (d := 0 + 6) (S := []) [] dL_law_1139 ml_L_161 ok_X12_springs vi_X12_springs rfl rfl (by decide) rfl (Nat.le_of_ble_eq_true rfl) (by decide) ?_
  refine m _ (fun g2 I2 => ?_)
  show lWP n xs 1142 (lLs i) [aI v] g2
  refine l_pop dL_law_1142 rfl ?_
  exact l_goto 1993 dL_law_1143 (by decide) (tail _ I2)
set_option maxRecDepth 100000 in
theorem q_sees {n : Nat} {xs : Nat → Int32} {i : Nat} {h : fwH} (I : jI h) (hn : n ≤ 100000) (hi : i + 6 ≤ n) (tail : ∀ h, jI h → lWP n xs 1993 (lLs i) [] h) : lWP n xs 1146 (lLs i) [] h := by
  refine l_aload dL_law_1146 rfl ?_
  refine l_aload dL_law_1147 rfl ?_
  refine l_iload dL_law_1148 rfl ?_
  refine l_iconst dL_law_1149 ?_
  refine l_iadd dL_law_1150 ?_
  refine l_sld (i + 1) dL_law_1151 (by omega) (by omega) hn ?_
  refine l_callV (k := 0) (i := 0) (d := 0 + 3) (S := []) [aI (sv xs (i + 1))] dL_law_1152 ml_L_162 ok_X11_sees vi_X11_sees rfl rfl (by decide) rfl (Nat.le_of_ble_eq_true rfl) (by decide) ?_
  refine pr_sees (d := 0) (d2 := 0) I (sv xs (i + 1)) (sv_rng _ _) (fun v g1 m => ?_)
  show lWP n xs 1155 (lLs i) [aI v] g1
  refine l_pop dL_law_1155 rfl ?_
  refine l_aload dL_law_1156 rfl ?_
  refine l_aload dL_law_1157 rfl ?_
  refine l_iload dL_law_1158 rfl ?_
  refine l_iconst dL_law_1159 ?_
  refine l_iadd dL_law_1160 ?_
  refine l_sld (i + 1) dL_law_1161 (by omega) (by omega) hn ?_
  refine l_callV (k := 12) (i := 0) (d := 0 + 6) (S := []) [aI (sv xs (i + 1))] dL_law_1162 ml_L_165 ok_X12_sees vi_X12_sees rfl rfl (by decide) rfl (Nat.le_of_ble_eq_true rfl) (by decide) ?_
  refine m _ (fun g2 I2 => ?_)
  show lWP n xs 1165 (lLs i) [aI v] g2
  refine l_pop dL_law_1165 rfl ?_
  exact l_goto 1993 dL_law_1166 (by decide) (tail _ I2)
set_option maxRecDepth 100000 in
theorem q_lookout {n : Nat} {xs : Nat → Int32} {i : Nat} {h : fwH} (I : jI h) (hn : n ≤ 100000) (hi : i + 6 ≤ n) (tail : ∀ h, jI h → lWP n xs 1993 (lLs i) [] h) : lWP n xs 1169 (lLs i) [] h := by
  refine l_aload dL_law_1169 rfl ?_
  refine l_callV (k := 0) (i := 0) (d := 0 + 4) (S := []) [] dL_law_1170 ml_L_166 ok_X11_lookout vi_X11_lookout rfl rfl (by decide) rfl (Nat.le_of_ble_eq_true rfl) (by decide) ?_
  refine pr_lookout (d := 0) (d2 := 0) I   (fun v g1 m => ?_)
  show lWP n xs 1173 (lLs i) [aI v] g1
  refine l_pop dL_law_1173 rfl ?_
  refine l_aload dL_law_1174 rfl ?_
  refine l_callV (k := 12) (i := 0) (d := 0 + 6) (S := []) [] dL_law_1175 ml_L_169 ok_X12_lookout vi_X12_lookout rfl rfl (by decide) rfl (Nat.le_of_ble_eq_true rfl) (by decide) ?_
  refine m _ (fun g2 I2 => ?_)
  show lWP n xs 1178 (lLs i) [aI v] g2
  refine l_pop dL_law_1178 rfl ?_
  exact l_goto 1993 dL_law_1179 (by decide) (tail _ I2)
set_option maxRecDepth 100000 in
theorem q_votes {n : Nat} {xs : Nat → Int32} {i : Nat} {h : fwH} (I : jI h) (hn : n ≤ 100000) (hi : i + 6 ≤ n) (tail : ∀ h, jI h → lWP n xs 1993 (lLs i) [] h) : lWP n xs 1182 (lLs i) [] h := by
  refine l_aload dL_law_1182 rfl ?_
  refine l_aload dL_law_1183 rfl ?_
  refine l_iload dL_law_1184 rfl ?_
  refine l_iconst dL_law_1185 ?_
  refine l_iadd dL_law_1186 ?_
  refine l_sld (i + 1) dL_law_1187 (by omega) (by omega) hn ?_
  refine l_aload dL_law_1188 rfl ?_
  refine l_iload dL_law_1189 rfl ?_
  refine l_iconst dL_law_1190 ?_
  refine l_iadd dL_law_1191 ?_
  refine l_sld (i + 2) dL_law_1192 (by omega) (by omega) hn ?_
  refine l_callV (k := 0) (i := 0) (d := 0 + 4) (S := []) [aI (sv xs (i + 1)), aI (sv xs (i + 2))] dL_law_1193 ml_L_170 ok_X11_votes vi_X11_votes rfl rfl (by decide) rfl (Nat.le_of_ble_eq_true rfl) (by decide) ?_
  refine pr_votes (d := 0) (d2 := 0) I (sv xs (i + 1)) (sv xs (i + 2)) (sv_rng _ _) (sv_rng _ _) (fun v g1 m => ?_)
  show lWP n xs 1196 (lLs i) [aI v] g1
  refine l_pop dL_law_1196 rfl ?_
  refine l_aload dL_law_1197 rfl ?_
  refine l_aload dL_law_1198 rfl ?_
  refine l_iload dL_law_1199 rfl ?_
  refine l_iconst dL_law_1200 ?_
  refine l_iadd dL_law_1201 ?_
  refine l_sld (i + 1) dL_law_1202 (by omega) (by omega) hn ?_
  refine l_aload dL_law_1203 rfl ?_
  refine l_iload dL_law_1204 rfl ?_
  refine l_iconst dL_law_1205 ?_
  refine l_iadd dL_law_1206 ?_
  refine l_sld (i + 2) dL_law_1207 (by omega) (by omega) hn ?_
  refine l_callV (k := 12) (i := 0) (d := 0 + 6) (S := []) [aI (sv xs (i + 1)), aI (sv xs (i + 2))] dL_law_1208 ml_L_173 ok_X12_votes vi_X12_votes rfl rfl (by decide) rfl (Nat.le_of_ble_eq_true rfl) (by decide) ?_
  refine m _ (fun g2 I2 => ?_)
  show lWP n xs 1211 (lLs i) [aI v] g2
  refine l_pop dL_law_1211 rfl ?_
  exact l_goto 1993 dL_law_1212 (by decide) (tail _ I2)
set_option maxRecDepth 100000 in
theorem q_elected {n : Nat} {xs : Nat → Int32} {i : Nat} {h : fwH} (I : jI h) (hn : n ≤ 100000) (hi : i + 6 ≤ n) (tail : ∀ h, jI h → lWP n xs 1993 (lLs i) [] h) : lWP n xs 1215 (lLs i) [] h := by
  refine l_aload dL_law_1215 rfl ?_
  refine l_callV (k := 0) (i := 0) (d := 0 + 5) (S := []) [] dL_law_1216 ml_L_174 ok_X11_elected vi_X11_elected rfl rfl (by decide) rfl (Nat.le_of_ble_eq_true rfl) (by decide) ?_
  refine pr_elected (d := 0) (d2 := 0) I   (fun v g1 m => ?_)
  show lWP n xs 1219 (lLs i) [aI v] g1
  refine l_pop dL_law_1219 rfl ?_
  refine l_aload dL_law_1220 rfl ?_
  refine l_callV (k := 12) (i := 0) (d := 0 + 6) (S := []) [] dL_law_1221 ml_L_177 ok_X12_elected vi_X12_elected rfl rfl (by decide) rfl (Nat.le_of_ble_eq_true rfl) (by decide) ?_
  refine m _ (fun v2 g2 I2 => ?_)
  show lWP n xs 1224 (lLs i) [aI v2] g2
  refine l_pop dL_law_1224 rfl ?_
  exact l_goto 1993 dL_law_1225 (by decide) (tail _ I2)
set_option maxRecDepth 100000 in
theorem q_best {n : Nat} {xs : Nat → Int32} {i : Nat} {h : fwH} (I : jI h) (hn : n ≤ 100000) (hi : i + 6 ≤ n) (tail : ∀ h, jI h → lWP n xs 1993 (lLs i) [] h) : lWP n xs 1228 (lLs i) [] h := by
  refine l_aload dL_law_1228 rfl ?_
  refine l_callV (k := 0) (i := 0) (d := 0 + 10) (S := []) [] dL_law_1229 ml_L_178 ok_X11_best vi_X11_best rfl rfl (by decide) rfl (Nat.le_of_ble_eq_true rfl) (by decide) ?_
  refine pr_best (d := 0) (d2 := 0) I   (fun v g1 m => ?_)
  show lWP n xs 1232 (lLs i) [aI v] g1
  refine l_pop dL_law_1232 rfl ?_
  refine l_aload dL_law_1233 rfl ?_
  refine l_callV (k := 12) (i := 0) (d := 0 + 6) (S := []) [] dL_law_1234 ml_L_181 ok_X12_best vi_X12_best rfl rfl (by decide) rfl (Nat.le_of_ble_eq_true rfl) (by decide) ?_
  refine m _ (fun g2 I2 => ?_)
  show lWP n xs 1237 (lLs i) [aI v] g2
  refine l_pop dL_law_1237 rfl ?_
  exact l_goto 1993 dL_law_1238 (by decide) (tail _ I2)
set_option maxRecDepth 100000 in
theorem q_shape {n : Nat} {xs : Nat → Int32} {i : Nat} {h : fwH} (I : jI h) (hn : n ≤ 100000) (hi : i + 6 ≤ n) (tail : ∀ h, jI h → lWP n xs 1993 (lLs i) [] h) : lWP n xs 1241 (lLs i) [] h := by
  refine l_aload dL_law_1241 rfl ?_
  refine l_aload dL_law_1242 rfl ?_
  refine l_iload dL_law_1243 rfl ?_
  refine l_iconst dL_law_1244 ?_
  refine l_iadd dL_law_1245 ?_
  refine l_sld (i + 1) dL_law_1246 (by omega) (by omega) hn ?_
  refine l_callV (k := 0) (i := 0) (d := 0 + 10) (S := []) [aI (sv xs (i + 1))] dL_law_1247 ml_L_182 ok_X11_shape vi_X11_shape rfl rfl (by decide) rfl (Nat.le_of_ble_eq_true rfl) (by decide) ?_
  refine pr_shape (d := 0) (d2 := 0) I (sv xs (i + 1)) (sv_rng _ _) (fun v g1 m => ?_)
  show lWP n xs 1250 (lLs i) [aI v] g1
  refine l_pop dL_law_1250 rfl ?_
  refine l_aload dL_law_1251 rfl ?_
  refine l_aload dL_law_1252 rfl ?_
  refine l_iload dL_law_1253 rfl ?_
  refine l_iconst dL_law_1254 ?_
  refine l_iadd dL_law_1255 ?_
  refine l_sld (i + 1) dL_law_1256 (by omega) (by omega) hn ?_
  refine l_callV (k := 12) (i := 0) (d := 0 + 7) (S := []) [aI (sv xs (i + 1))] dL_law_1257 ml_L_185 ok_X12_shape vi_X12_shape rfl rfl (by decide) rfl (Nat.le_of_ble_eq_true rfl) (by decide) ?_
  refine m _ (fun v2 g2 I2 => ?_)
  show lWP n xs 1260 (lLs i) [aI v2] g2
  refine l_pop dL_law_1260 rfl ?_
  exact l_goto 1993 dL_law_1261 (by decide) (tail _ I2)
set_option maxRecDepth 100000 in
theorem q_shaped {n : Nat} {xs : Nat → Int32} {i : Nat} {h : fwH} (I : jI h) (hn : n ≤ 100000) (hi : i + 6 ≤ n) (tail : ∀ h, jI h → lWP n xs 1993 (lLs i) [] h) : lWP n xs 1264 (lLs i) [] h := by
  refine l_aload dL_law_1264 rfl ?_
  refine l_aload dL_law_1265 rfl ?_
  refine l_iload dL_law_1266 rfl ?_
  refine l_iconst dL_law_1267 ?_
  refine l_iadd dL_law_1268 ?_
  refine l_sld (i + 1) dL_law_1269 (by omega) (by omega) hn ?_
  refine l_aload dL_law_1270 rfl ?_
  refine l_iload dL_law_1271 rfl ?_
  refine l_iconst dL_law_1272 ?_
  refine l_iadd dL_law_1273 ?_
  refine l_sld (i + 2) dL_law_1274 (by omega) (by omega) hn ?_
  refine l_callV (k := 0) (i := 0) (d := 0 + 10) (S := []) [aI (sv xs (i + 1)), aI (sv xs (i + 2))] dL_law_1275 ml_L_186 ok_X11_shaped vi_X11_shaped rfl rfl (by decide) rfl (Nat.le_of_ble_eq_true rfl) (by decide) ?_
  refine pr_shaped (d := 0) (d2 := 0) I (sv xs (i + 1)) (sv xs (i + 2)) (sv_rng _ _) (sv_rng _ _) (fun v g1 m => ?_)
  show lWP n xs 1278 (lLs i) [aI v] g1
  refine l_pop dL_law_1278 rfl ?_
  refine l_aload dL_law_1279 rfl ?_
  refine l_aload dL_law_1280 rfl ?_
  refine l_iload dL_law_1281 rfl ?_
  refine l_iconst dL_law_1282 ?_
  refine l_iadd dL_law_1283 ?_
  refine l_sld (i + 1) dL_law_1284 (by omega) (by omega) hn ?_
  refine l_aload dL_law_1285 rfl ?_
  refine l_iload dL_law_1286 rfl ?_
  refine l_iconst dL_law_1287 ?_
  refine l_iadd dL_law_1288 ?_
  refine l_sld (i + 2) dL_law_1289 (by omega) (by omega) hn ?_
  refine l_callV (k := 12) (i := 0) (d := 0 + 7) (S := []) [aI (sv xs (i + 1)), aI (sv xs (i + 2))] dL_law_1290 ml_L_189 ok_X12_shaped vi_X12_shaped rfl rfl (by decide) rfl (Nat.le_of_ble_eq_true rfl) (by decide) ?_
  refine m _ (fun v2 g2 I2 => ?_)
  show lWP n xs 1293 (lLs i) [aI v2] g2
  refine l_pop dL_law_1293 rfl ?_
  exact l_goto 1993 dL_law_1294 (by decide) (tail _ I2)
set_option maxRecDepth 100000 in
theorem q_spoil {n : Nat} {xs : Nat → Int32} {i : Nat} {h : fwH} (I : jI h) (hn : n ≤ 100000) (hi : i + 6 ≤ n) (tail : ∀ h, jI h → lWP n xs 1993 (lLs i) [] h) : lWP n xs 1297 (lLs i) [] h := by
  refine l_aload dL_law_1297 rfl ?_
  refine l_callV (k := 0) (i := 0) (d := 0 + 5) (S := []) [] dL_law_1298 ml_L_190 ok_X11_spoil vi_X11_spoil rfl rfl (by decide) rfl (Nat.le_of_ble_eq_true rfl) (by decide) ?_
  refine pr_spoil (d := 0) (d2 := 0) I   (fun v g1 m => ?_)
  show lWP n xs 1301 (lLs i) [aI v] g1
  refine l_pop dL_law_1301 rfl ?_
  refine l_aload dL_law_1302 rfl ?_
  refine l_callV (k := 12) (i := 0) (d := 0 + 6) (S := []) [] dL_law_1303 ml_L_193 ok_X12_spoil vi_X12_spoil rfl rfl (by decide) rfl (Nat.le_of_ble_eq_true rfl) (by decide) ?_
  refine m _ (fun g2 I2 => ?_)
  show lWP n xs 1306 (lLs i) [aI v] g2
  refine l_pop dL_law_1306 rfl ?_
  exact l_goto 1993 dL_law_1307 (by decide) (tail _ I2)
set_option maxRecDepth 100000 in
theorem q_course {n : Nat} {xs : Nat → Int32} {i : Nat} {h : fwH} (I : jI h) (hn : n ≤ 100000) (hi : i + 6 ≤ n) (tail : ∀ h, jI h → lWP n xs 1993 (lLs i) [] h) : lWP n xs 1310 (lLs i) [] h := by
  refine l_aload dL_law_1310 rfl ?_
  refine l_aload dL_law_1311 rfl ?_
  refine l_iload dL_law_1312 rfl ?_
  refine l_iconst dL_law_1313 ?_
  refine l_iadd dL_law_1314 ?_
  refine l_sld (i + 1) dL_law_1315 (by omega) (by omega) hn ?_
  refine l_callV (k := 0) (i := 0) (d := 0 + 6) (S := []) [aI (sv xs (i + 1))] dL_law_1316 ml_L_194 ok_X11_course vi_X11_course rfl rfl (by decide) rfl (Nat.le_of_ble_eq_true rfl) (by decide) ?_
  refine pr_course (d := 0) (d2 := 0) I (sv xs (i + 1)) (sv_rng _ _) (fun v g1 m => ?_)
  show lWP n xs 1319 (lLs i) [aI v] g1
  refine l_pop dL_law_1319 rfl ?_
  refine l_aload dL_law_1320 rfl ?_
  refine l_aload dL_law_1321 rfl ?_
  refine l_iload dL_law_1322 rfl ?_
  refine l_iconst dL_law_1323 ?_
  refine l_iadd dL_law_1324 ?_
  refine l_sld (i + 1) dL_law_1325 (by omega) (by omega) hn ?_
  refine l_callV (k := 12) (i := 0) (d := 0 + 7) (S := []) [aI (sv xs (i + 1))] dL_law_1326 ml_L_197 ok_X12_course vi_X12_course rfl rfl (by decide) rfl (Nat.le_of_ble_eq_true rfl) (by decide) ?_
  refine m _ (fun g2 I2 => ?_)
  show lWP n xs 1329 (lLs i) [aI v] g2
  refine l_pop dL_law_1329 rfl ?_
  exact l_goto 1993 dL_law_1330 (by decide) (tail _ I2)
set_option maxRecDepth 100000 in
theorem q_ends {n : Nat} {xs : Nat → Int32} {i : Nat} {h : fwH} (I : jI h) (hn : n ≤ 100000) (hi : i + 6 ≤ n) (tail : ∀ h, jI h → lWP n xs 1993 (lLs i) [] h) : lWP n xs 1333 (lLs i) [] h := by
  refine l_aload dL_law_1333 rfl ?_
  refine l_aload dL_law_1334 rfl ?_
  refine l_iload dL_law_1335 rfl ?_
  refine l_iconst dL_law_1336 ?_
  refine l_iadd dL_law_1337 ?_
  refine l_sld (i + 1) dL_law_1338 (by omega) (by omega) hn ?_
  refine l_callV (k := 0) (i := 0) (d := 0 + 6) (S := []) [aI (sv xs (i + 1))] dL_law_1339 ml_L_198 ok_X11_ends vi_X11_ends rfl rfl (by decide) rfl (Nat.le_of_ble_eq_true rfl) (by decide) ?_
  refine pr_ends (d := 0) (d2 := 0) I (sv xs (i + 1)) (sv_rng _ _) (fun v g1 m => ?_)
  show lWP n xs 1342 (lLs i) [aI v] g1
  refine l_pop dL_law_1342 rfl ?_
  refine l_aload dL_law_1343 rfl ?_
  refine l_aload dL_law_1344 rfl ?_
  refine l_iload dL_law_1345 rfl ?_
  refine l_iconst dL_law_1346 ?_
  refine l_iadd dL_law_1347 ?_
  refine l_sld (i + 1) dL_law_1348 (by omega) (by omega) hn ?_
  refine l_callV (k := 12) (i := 0) (d := 0 + 7) (S := []) [aI (sv xs (i + 1))] dL_law_1349 ml_L_201 ok_X12_ends vi_X12_ends rfl rfl (by decide) rfl (Nat.le_of_ble_eq_true rfl) (by decide) ?_
  refine m _ (fun g2 I2 => ?_)
  show lWP n xs 1352 (lLs i) [aI v] g2
  refine l_pop dL_law_1352 rfl ?_
  exact l_goto 1993 dL_law_1353 (by decide) (tail _ I2)
set_option maxRecDepth 100000 in
theorem q_left {n : Nat} {xs : Nat → Int32} {i : Nat} {h : fwH} (I : jI h) (hn : n ≤ 100000) (hi : i + 6 ≤ n) (tail : ∀ h, jI h → lWP n xs 1993 (lLs i) [] h) : lWP n xs 1356 (lLs i) [] h := by
  refine l_aload dL_law_1356 rfl ?_
  refine l_aload dL_law_1357 rfl ?_
  refine l_iload dL_law_1358 rfl ?_
  refine l_iconst dL_law_1359 ?_
  refine l_iadd dL_law_1360 ?_
  refine l_sld (i + 1) dL_law_1361 (by omega) (by omega) hn ?_
  refine l_aload dL_law_1362 rfl ?_
  refine l_iload dL_law_1363 rfl ?_
  refine l_iconst dL_law_1364 ?_
  refine l_iadd dL_law_1365 ?_
  refine l_sld (i + 2) dL_law_1366 (by omega) (by omega) hn ?_
  refine l_callV (k := 0) (i := 0) (d := 0 + 6) (S := []) [aI (sv xs (i + 1)), aI (sv xs (i + 2))] dL_law_1367 ml_L_202 ok_X11_left vi_X11_left rfl rfl (by decide) rfl (Nat.le_of_ble_eq_true rfl) (by decide) ?_
  refine pr_left (d := 0) (d2 := 0) I (sv xs (i + 1)) (sv xs (i + 2)) (sv_rng _ _) (sv_rng _ _) (fun v g1 m => ?_)
  show lWP n xs 1370 (lLs i) [aI v] g1
  refine l_pop dL_law_1370 rfl ?_
  refine l_aload dL_law_1371 rfl ?_
  refine l_aload dL_law_1372 rfl ?_
  refine l_iload dL_law_1373 rfl ?_
  refine l_iconst dL_law_1374 ?_
  refine l_iadd dL_law_1375 ?_
  refine l_sld (i + 1) dL_law_1376 (by omega) (by omega) hn ?_
  refine l_aload dL_law_1377 rfl ?_
  refine l_iload dL_law_1378 rfl ?_
  refine l_iconst dL_law_1379 ?_
  refine l_iadd dL_law_1380 ?_
  refine l_sld (i + 2) dL_law_1381 (by omega) (by omega) hn ?_
  refine l_callV (k := 12) (i := 0) (d := 0 + 7) (S := []) [aI (sv xs (i + 1)), aI (sv xs (i + 2))] dL_law_1382 ml_L_205 ok_X12_left vi_X12_left rfl rfl (by decide) rfl (Nat.le_of_ble_eq_true rfl) (by decide) ?_
  refine m _ (fun g2 I2 => ?_)
  show lWP n xs 1385 (lLs i) [aI v] g2
  refine l_pop dL_law_1385 rfl ?_
  exact l_goto 1993 dL_law_1386 (by decide) (tail _ I2)
set_option maxRecDepth 100000 in
theorem q_law {n : Nat} {xs : Nat → Int32} {i : Nat} {h : fwH} (I : jI h) (hn : n ≤ 100000) (hi : i + 6 ≤ n) (tail : ∀ h, jI h → lWP n xs 1993 (lLs i) [] h) : lWP n xs 1389 (lLs i) [] h := by
  refine l_aload dL_law_1389 rfl ?_
  refine l_aload dL_law_1390 rfl ?_
  refine l_iload dL_law_1391 rfl ?_
  refine l_iconst dL_law_1392 ?_
  refine l_iadd dL_law_1393 ?_
  refine l_sld (i + 1) dL_law_1394 (by omega) (by omega) hn ?_
  refine l_callV (k := 0) (i := 0) (d := 0 + 6) (S := []) [aI (sv xs (i + 1))] dL_law_1395 ml_L_206 ok_X11_law vi_X11_law rfl rfl (by decide) rfl (Nat.le_of_ble_eq_true rfl) (by decide) ?_
  refine pr_law (d := 0) (d2 := 0) I (sv xs (i + 1)) (sv_rng _ _) (fun v g1 m => ?_)
  show lWP n xs 1398 (lLs i) [aI v] g1
  refine l_pop dL_law_1398 rfl ?_
  refine l_aload dL_law_1399 rfl ?_
  refine l_aload dL_law_1400 rfl ?_
  refine l_iload dL_law_1401 rfl ?_
  refine l_iconst dL_law_1402 ?_
  refine l_iadd dL_law_1403 ?_
  refine l_sld (i + 1) dL_law_1404 (by omega) (by omega) hn ?_
  refine l_callV (k := 12) (i := 0) (d := 0 + 7) (S := []) [aI (sv xs (i + 1))] dL_law_1405 ml_L_209 ok_X12_law vi_X12_law rfl rfl (by decide) rfl (Nat.le_of_ble_eq_true rfl) (by decide) ?_
  refine m _ (fun g2 I2 => ?_)
  show lWP n xs 1408 (lLs i) [aI v] g2
  refine l_pop dL_law_1408 rfl ?_
  exact l_goto 1993 dL_law_1409 (by decide) (tail _ I2)
set_option maxRecDepth 100000 in
theorem q_raisers {n : Nat} {xs : Nat → Int32} {i : Nat} {h : fwH} (I : jI h) (hn : n ≤ 100000) (hi : i + 6 ≤ n) (tail : ∀ h, jI h → lWP n xs 1993 (lLs i) [] h) : lWP n xs 1412 (lLs i) [] h := by
  refine l_aload dL_law_1412 rfl ?_
  refine l_callV (k := 0) (i := 0) (d := 0 + 4) (S := []) [] dL_law_1413 ml_L_210 ok_X11_raisers vi_X11_raisers rfl rfl (by decide) rfl (Nat.le_of_ble_eq_true rfl) (by decide) ?_
  refine pr_raisers (d := 0) (d2 := 0) I   (fun v g1 m => ?_)
  show lWP n xs 1416 (lLs i) [aI v] g1
  refine l_pop dL_law_1416 rfl ?_
  refine l_aload dL_law_1417 rfl ?_
  refine l_callV (k := 12) (i := 0) (d := 0 + 6) (S := []) [] dL_law_1418 ml_L_213 ok_X12_raisers vi_X12_raisers rfl rfl (by decide) rfl (Nat.le_of_ble_eq_true rfl) (by decide) ?_
  refine m _ (fun g2 I2 => ?_)
  show lWP n xs 1421 (lLs i) [aI v] g2
  refine l_pop dL_law_1421 rfl ?_
  exact l_goto 1993 dL_law_1422 (by decide) (tail _ I2)
set_option maxRecDepth 100000 in
theorem q_old {n : Nat} {xs : Nat → Int32} {i : Nat} {h : fwH} (I : jI h) (hn : n ≤ 100000) (hi : i + 6 ≤ n) (tail : ∀ h, jI h → lWP n xs 1993 (lLs i) [] h) : lWP n xs 1425 (lLs i) [] h := by
  refine l_aload dL_law_1425 rfl ?_
  refine l_aload dL_law_1426 rfl ?_
  refine l_iload dL_law_1427 rfl ?_
  refine l_iconst dL_law_1428 ?_
  refine l_iadd dL_law_1429 ?_
  refine l_sld (i + 1) dL_law_1430 (by omega) (by omega) hn ?_
  refine l_callV (k := 0) (i := 0) (d := 0 + 5) (S := []) [aI (sv xs (i + 1))] dL_law_1431 ml_L_214 ok_X11_old vi_X11_old rfl rfl (by decide) rfl (Nat.le_of_ble_eq_true rfl) (by decide) ?_
  refine pr_old (d := 0) (d2 := 0) I (sv xs (i + 1)) (sv_rng _ _) (fun v g1 m => ?_)
  show lWP n xs 1434 (lLs i) [aI v] g1
  refine l_pop dL_law_1434 rfl ?_
  refine l_aload dL_law_1435 rfl ?_
  refine l_aload dL_law_1436 rfl ?_
  refine l_iload dL_law_1437 rfl ?_
  refine l_iconst dL_law_1438 ?_
  refine l_iadd dL_law_1439 ?_
  refine l_sld (i + 1) dL_law_1440 (by omega) (by omega) hn ?_
  refine l_callV (k := 12) (i := 0) (d := 0 + 7) (S := []) [aI (sv xs (i + 1))] dL_law_1441 ml_L_217 ok_X12_old vi_X12_old rfl rfl (by decide) rfl (Nat.le_of_ble_eq_true rfl) (by decide) ?_
  refine m _ (fun v2 g2 I2 => ?_)
  show lWP n xs 1444 (lLs i) [aI v2] g2
  refine l_pop dL_law_1444 rfl ?_
  exact l_goto 1993 dL_law_1445 (by decide) (tail _ I2)
set_option maxRecDepth 100000 in
theorem q_ask {n : Nat} {xs : Nat → Int32} {i : Nat} {h : fwH} (I : jI h) (hn : n ≤ 100000) (hi : i + 6 ≤ n) (tail : ∀ h, jI h → lWP n xs 1993 (lLs i) [] h) : lWP n xs 1448 (lLs i) [] h := by
  refine l_aload dL_law_1448 rfl ?_
  refine l_aload dL_law_1449 rfl ?_
  refine l_iload dL_law_1450 rfl ?_
  refine l_iconst dL_law_1451 ?_
  refine l_iadd dL_law_1452 ?_
  refine l_sld (i + 1) dL_law_1453 (by omega) (by omega) hn ?_
  refine l_aload dL_law_1454 rfl ?_
  refine l_iload dL_law_1455 rfl ?_
  refine l_iconst dL_law_1456 ?_
  refine l_iadd dL_law_1457 ?_
  refine l_sld (i + 2) dL_law_1458 (by omega) (by omega) hn ?_
  refine l_callV (k := 0) (i := 0) (d := 0 + 5) (S := []) [aI (sv xs (i + 1)), aI (sv xs (i + 2))] dL_law_1459 ml_L_218 ok_X11_ask vi_X11_ask rfl rfl (by decide) rfl (Nat.le_of_ble_eq_true rfl) (by decide) ?_
  refine pr_ask (d := 0) (d2 := 0) I (sv xs (i + 1)) (sv xs (i + 2)) (sv_rng _ _) (sv_rng _ _) (fun v g1 m => ?_)
  show lWP n xs 1462 (lLs i) [aI v] g1
  refine l_pop dL_law_1462 rfl ?_
  refine l_aload dL_law_1463 rfl ?_
  refine l_aload dL_law_1464 rfl ?_
  refine l_iload dL_law_1465 rfl ?_
  refine l_iconst dL_law_1466 ?_
  refine l_iadd dL_law_1467 ?_
  refine l_sld (i + 1) dL_law_1468 (by omega) (by omega) hn ?_
  refine l_aload dL_law_1469 rfl ?_
  refine l_iload dL_law_1470 rfl ?_
  refine l_iconst dL_law_1471 ?_
  refine l_iadd dL_law_1472 ?_
  refine l_sld (i + 2) dL_law_1473 (by omega) (by omega) hn ?_
  refine l_callV (k := 12) (i := 0) (d := 0 + 7) (S := []) [aI (sv xs (i + 1)), aI (sv xs (i + 2))] dL_law_1474 ml_L_221 ok_X12_ask vi_X12_ask rfl rfl (by decide) rfl (Nat.le_of_ble_eq_true rfl) (by decide) ?_
  refine m _ (fun v2 g2 I2 => ?_)
  show lWP n xs 1477 (lLs i) [aI v2] g2
  refine l_pop dL_law_1477 rfl ?_
  exact l_goto 1993 dL_law_1478 (by decide) (tail _ I2)
set_option maxRecDepth 100000 in
theorem q_leaves {n : Nat} {xs : Nat → Int32} {i : Nat} {h : fwH} (I : jI h) (hn : n ≤ 100000) (hi : i + 6 ≤ n) (tail : ∀ h, jI h → lWP n xs 1993 (lLs i) [] h) : lWP n xs 1481 (lLs i) [] h := by
  refine l_aload dL_law_1481 rfl ?_
  refine l_aload dL_law_1482 rfl ?_
  refine l_iload dL_law_1483 rfl ?_
  refine l_iconst dL_law_1484 ?_
  refine l_iadd dL_law_1485 ?_
  refine l_sld (i + 1) dL_law_1486 (by omega) (by omega) hn ?_
  refine l_aload dL_law_1487 rfl ?_
  refine l_iload dL_law_1488 rfl ?_
  refine l_iconst dL_law_1489 ?_
  refine l_iadd dL_law_1490 ?_
  refine l_sld (i + 2) dL_law_1491 (by omega) (by omega) hn ?_
  refine l_callV (k := 0) (i := 0) (d := 0 + 5) (S := []) [aI (sv xs (i + 1)), aI (sv xs (i + 2))] dL_law_1492 ml_L_222 ok_X11_leaves vi_X11_leaves rfl rfl (by decide) rfl (Nat.le_of_ble_eq_true rfl) (by decide) ?_
  refine pr_leaves (d := 0) (d2 := 0) I (sv xs (i + 1)) (sv xs (i + 2)) (sv_rng _ _) (sv_rng _ _) (fun v g1 m => ?_)
  show lWP n xs 1495 (lLs i) [aI v] g1
  refine l_pop dL_law_1495 rfl ?_
  refine l_aload dL_law_1496 rfl ?_
  refine l_aload dL_law_1497 rfl ?_
  refine l_iload dL_law_1498 rfl ?_
  refine l_iconst dL_law_1499 ?_
  refine l_iadd dL_law_1500 ?_
  refine l_sld (i + 1) dL_law_1501 (by omega) (by omega) hn ?_
  refine l_aload dL_law_1502 rfl ?_
  refine l_iload dL_law_1503 rfl ?_
  refine l_iconst dL_law_1504 ?_
  refine l_iadd dL_law_1505 ?_
  refine l_sld (i + 2) dL_law_1506 (by omega) (by omega) hn ?_
  refine l_callV (k := 12) (i := 0) (d := 0 + 7) (S := []) [aI (sv xs (i + 1)), aI (sv xs (i + 2))] dL_law_1507 ml_L_225 ok_X12_leaves vi_X12_leaves rfl rfl (by decide) rfl (Nat.le_of_ble_eq_true rfl) (by decide) ?_
  refine m _ (fun v2 g2 I2 => ?_)
  show lWP n xs 1510 (lLs i) [aI v2] g2
  refine l_pop dL_law_1510 rfl ?_
  exact l_goto 1993 dL_law_1511 (by decide) (tail _ I2)
set_option maxRecDepth 100000 in
theorem q_doubts {n : Nat} {xs : Nat → Int32} {i : Nat} {h : fwH} (I : jI h) (hn : n ≤ 100000) (hi : i + 6 ≤ n) (tail : ∀ h, jI h → lWP n xs 1993 (lLs i) [] h) : lWP n xs 1514 (lLs i) [] h := by
  refine l_aload dL_law_1514 rfl ?_
  refine l_aload dL_law_1515 rfl ?_
  refine l_iload dL_law_1516 rfl ?_
  refine l_iconst dL_law_1517 ?_
  refine l_iadd dL_law_1518 ?_
  refine l_sld (i + 1) dL_law_1519 (by omega) (by omega) hn ?_
  refine l_callV (k := 0) (i := 0) (d := 0 + 5) (S := []) [aI (sv xs (i + 1))] dL_law_1520 ml_L_226 ok_X11_doubts vi_X11_doubts rfl rfl (by decide) rfl (Nat.le_of_ble_eq_true rfl) (by decide) ?_
  refine pr_doubts (d := 0) (d2 := 0) I (sv xs (i + 1)) (sv_rng _ _) (fun v g1 m => ?_)
  show lWP n xs 1523 (lLs i) [aI v] g1
  refine l_pop dL_law_1523 rfl ?_
  refine l_aload dL_law_1524 rfl ?_
  refine l_aload dL_law_1525 rfl ?_
  refine l_iload dL_law_1526 rfl ?_
  refine l_iconst dL_law_1527 ?_
  refine l_iadd dL_law_1528 ?_
  refine l_sld (i + 1) dL_law_1529 (by omega) (by omega) hn ?_
  refine l_callV (k := 12) (i := 0) (d := 0 + 7) (S := []) [aI (sv xs (i + 1))] dL_law_1530 ml_L_229 ok_X12_doubts vi_X12_doubts rfl rfl (by decide) rfl (Nat.le_of_ble_eq_true rfl) (by decide) ?_
  refine m _ (fun v2 g2 I2 => ?_)
  show lWP n xs 1533 (lLs i) [aI v2] g2
  refine l_pop dL_law_1533 rfl ?_
  exact l_goto 1993 dL_law_1534 (by decide) (tail _ I2)
set_option maxRecDepth 100000 in
theorem q_stands {n : Nat} {xs : Nat → Int32} {i : Nat} {h : fwH} (I : jI h) (hn : n ≤ 100000) (hi : i + 6 ≤ n) (tail : ∀ h, jI h → lWP n xs 1993 (lLs i) [] h) : lWP n xs 1537 (lLs i) [] h := by
  refine l_aload dL_law_1537 rfl ?_
  refine l_aload dL_law_1538 rfl ?_
  refine l_iload dL_law_1539 rfl ?_
  refine l_iconst dL_law_1540 ?_
  refine l_iadd dL_law_1541 ?_
  refine l_sld (i + 1) dL_law_1542 (by omega) (by omega) hn ?_
  refine l_callV (k := 0) (i := 0) (d := 0 + 4) (S := []) [aI (sv xs (i + 1))] dL_law_1543 ml_L_230 ok_X11_stands vi_X11_stands rfl rfl (by decide) rfl (Nat.le_of_ble_eq_true rfl) (by decide) ?_
  refine pr_stands (d := 0) (d2 := 0) I (sv xs (i + 1)) (sv_rng _ _) (fun v g1 m => ?_)
  show lWP n xs 1546 (lLs i) [aI v] g1
  refine l_pop dL_law_1546 rfl ?_
  refine l_aload dL_law_1547 rfl ?_
  refine l_aload dL_law_1548 rfl ?_
  refine l_iload dL_law_1549 rfl ?_
  refine l_iconst dL_law_1550 ?_
  refine l_iadd dL_law_1551 ?_
  refine l_sld (i + 1) dL_law_1552 (by omega) (by omega) hn ?_
  refine l_callV (k := 12) (i := 0) (d := 0 + 3) (S := []) [aI (sv xs (i + 1))] dL_law_1553 ml_L_233 ok_X12_stands vi_X12_stands rfl rfl (by decide) rfl (Nat.le_of_ble_eq_true rfl) (by decide) ?_
  refine m _ (fun g2 I2 => ?_)
  show lWP n xs 1556 (lLs i) [aI v] g2
  refine l_pop dL_law_1556 rfl ?_
  exact l_goto 1993 dL_law_1557 (by decide) (tail _ I2)
set_option maxRecDepth 100000 in
theorem q_struck {n : Nat} {xs : Nat → Int32} {i : Nat} {h : fwH} (I : jI h) (hn : n ≤ 100000) (hi : i + 6 ≤ n) (tail : ∀ h, jI h → lWP n xs 1993 (lLs i) [] h) : lWP n xs 1560 (lLs i) [] h := by
  refine l_aload dL_law_1560 rfl ?_
  refine l_aload dL_law_1561 rfl ?_
  refine l_iload dL_law_1562 rfl ?_
  refine l_iconst dL_law_1563 ?_
  refine l_iadd dL_law_1564 ?_
  refine l_sld (i + 1) dL_law_1565 (by omega) (by omega) hn ?_
  refine l_aload dL_law_1566 rfl ?_
  refine l_iload dL_law_1567 rfl ?_
  refine l_iconst dL_law_1568 ?_
  refine l_iadd dL_law_1569 ?_
  refine l_sld (i + 2) dL_law_1570 (by omega) (by omega) hn ?_
  refine l_callV (k := 0) (i := 0) (d := 0 + 4) (S := []) [aI (sv xs (i + 1)), aI (sv xs (i + 2))] dL_law_1571 ml_L_234 ok_X11_struck vi_X11_struck rfl rfl (by decide) rfl (Nat.le_of_ble_eq_true rfl) (by decide) ?_
  refine pr_struck (d := 0) (d2 := 0) I (sv xs (i + 1)) (sv xs (i + 2)) (sv_rng _ _) (sv_rng _ _) (fun v g1 m => ?_)
  show lWP n xs 1574 (lLs i) [aI v] g1
  refine l_pop dL_law_1574 rfl ?_
  refine l_aload dL_law_1575 rfl ?_
  refine l_aload dL_law_1576 rfl ?_
  refine l_iload dL_law_1577 rfl ?_
  refine l_iconst dL_law_1578 ?_
  refine l_iadd dL_law_1579 ?_
  refine l_sld (i + 1) dL_law_1580 (by omega) (by omega) hn ?_
  refine l_aload dL_law_1581 rfl ?_
  refine l_iload dL_law_1582 rfl ?_
  refine l_iconst dL_law_1583 ?_
  refine l_iadd dL_law_1584 ?_
  refine l_sld (i + 2) dL_law_1585 (by omega) (by omega) hn ?_
  refine l_callV (k := 12) (i := 0) (d := 0 + 3) (S := []) [aI (sv xs (i + 1)), aI (sv xs (i + 2))] dL_law_1586 ml_L_237 ok_X12_struck vi_X12_struck rfl rfl (by decide) rfl (Nat.le_of_ble_eq_true rfl) (by decide) ?_
  refine m _ (fun v2 g2 I2 => ?_)
  show lWP n xs 1589 (lLs i) [aI v2] g2
  refine l_pop dL_law_1589 rfl ?_
  exact l_goto 1993 dL_law_1590 (by decide) (tail _ I2)
set_option maxRecDepth 100000 in
theorem q_drawn {n : Nat} {xs : Nat → Int32} {i : Nat} {h : fwH} (I : jI h) (hn : n ≤ 100000) (hi : i + 6 ≤ n) (tail : ∀ h, jI h → lWP n xs 1993 (lLs i) [] h) : lWP n xs 1593 (lLs i) [] h := by
  refine l_aload dL_law_1593 rfl ?_
  refine l_aload dL_law_1594 rfl ?_
  refine l_iload dL_law_1595 rfl ?_
  refine l_iconst dL_law_1596 ?_
  refine l_iadd dL_law_1597 ?_
  refine l_sld (i + 1) dL_law_1598 (by omega) (by omega) hn ?_
  refine l_aload dL_law_1599 rfl ?_
  refine l_iload dL_law_1600 rfl ?_
  refine l_iconst dL_law_1601 ?_
  refine l_iadd dL_law_1602 ?_
  refine l_sld (i + 2) dL_law_1603 (by omega) (by omega) hn ?_
  refine l_aload dL_law_1604 rfl ?_
  refine l_iload dL_law_1605 rfl ?_
  refine l_iconst dL_law_1606 ?_
  refine l_iadd dL_law_1607 ?_
  refine l_sld (i + 3) dL_law_1608 (by omega) (by omega) hn ?_
  refine l_callV (k := 0) (i := 0) (d := 0 + 5) (S := []) [aI (sv xs (i + 1)), aI (sv xs (i + 2)), aI (sv xs (i + 3))] dL_law_1609 ml_L_238 ok_X11_drawn vi_X11_drawn rfl rfl (by decide) rfl (Nat.le_of_ble_eq_true rfl) (by decide) ?_
  refine pr_drawn (d := 0) (d2 := 0) I (sv xs (i + 1)) (sv xs (i + 2)) (sv xs (i + 3)) (sv_rng _ _) (sv_rng _ _) (sv_rng _ _) (fun v g1 m => ?_)
  show lWP n xs 1612 (lLs i) [aI v] g1
  refine l_pop dL_law_1612 rfl ?_
  refine l_aload dL_law_1613 rfl ?_
  refine l_aload dL_law_1614 rfl ?_
  refine l_iload dL_law_1615 rfl ?_
  refine l_iconst dL_law_1616 ?_
  refine l_iadd dL_law_1617 ?_
  refine l_sld (i + 1) dL_law_1618 (by omega) (by omega) hn ?_
  refine l_aload dL_law_1619 rfl ?_
  refine l_iload dL_law_1620 rfl ?_
  refine l_iconst dL_law_1621 ?_
  refine l_iadd dL_law_1622 ?_
  refine l_sld (i + 2) dL_law_1623 (by omega) (by omega) hn ?_
  refine l_aload dL_law_1624 rfl ?_
  refine l_iload dL_law_1625 rfl ?_
  refine l_iconst dL_law_1626 ?_
  refine l_iadd dL_law_1627 ?_
  refine l_sld (i + 3) dL_law_1628 (by omega) (by omega) hn ?_
  refine l_callV (k := 12) (i := 0) (d := 0 + 7) (S := []) [aI (sv xs (i + 1)), aI (sv xs (i + 2)), aI (sv xs (i + 3))] dL_law_1629 ml_L_241 ok_X12_drawn vi_X12_drawn rfl rfl (by decide) rfl (Nat.le_of_ble_eq_true rfl) (by decide) ?_
  refine m _ (fun g2 I2 => ?_)
  show lWP n xs 1632 (lLs i) [aI v] g2
  refine l_pop dL_law_1632 rfl ?_
  exact l_goto 1993 dL_law_1633 (by decide) (tail _ I2)
set_option maxRecDepth 100000 in
theorem q_luck {n : Nat} {xs : Nat → Int32} {i : Nat} {h : fwH} (I : jI h) (hn : n ≤ 100000) (hi : i + 6 ≤ n) (tail : ∀ h, jI h → lWP n xs 1993 (lLs i) [] h) : lWP n xs 1636 (lLs i) [] h := by
  refine l_aload dL_law_1636 rfl ?_
  refine l_aload dL_law_1637 rfl ?_
  refine l_iload dL_law_1638 rfl ?_
  refine l_iconst dL_law_1639 ?_
  refine l_iadd dL_law_1640 ?_
  refine l_sld (i + 1) dL_law_1641 (by omega) (by omega) hn ?_
  refine l_aload dL_law_1642 rfl ?_
  refine l_iload dL_law_1643 rfl ?_
  refine l_iconst dL_law_1644 ?_
  refine l_iadd dL_law_1645 ?_
  refine l_sld (i + 2) dL_law_1646 (by omega) (by omega) hn ?_
  refine l_aload dL_law_1647 rfl ?_
  refine l_iload dL_law_1648 rfl ?_
  refine l_iconst dL_law_1649 ?_
  refine l_iadd dL_law_1650 ?_
  refine l_sld (i + 3) dL_law_1651 (by omega) (by omega) hn ?_
  refine l_callV (k := 0) (i := 0) (d := 0 + 5) (S := []) [aI (sv xs (i + 1)), aI (sv xs (i + 2)), aI (sv xs (i + 3))] dL_law_1652 ml_L_242 ok_X11_luck vi_X11_luck rfl rfl (by decide) rfl (Nat.le_of_ble_eq_true rfl) (by decide) ?_
  refine pr_luck (d := 0) (d2 := 0) I (sv xs (i + 1)) (sv xs (i + 2)) (sv xs (i + 3)) (sv_rng _ _) (sv_rng _ _) (sv_rng _ _) (fun v g1 m => ?_)
  show lWP n xs 1655 (lLs i) [aI v] g1
  refine l_pop dL_law_1655 rfl ?_
  refine l_aload dL_law_1656 rfl ?_
  refine l_aload dL_law_1657 rfl ?_
  refine l_iload dL_law_1658 rfl ?_
  refine l_iconst dL_law_1659 ?_
  refine l_iadd dL_law_1660 ?_
  refine l_sld (i + 1) dL_law_1661 (by omega) (by omega) hn ?_
  refine l_aload dL_law_1662 rfl ?_
  refine l_iload dL_law_1663 rfl ?_
  refine l_iconst dL_law_1664 ?_
  refine l_iadd dL_law_1665 ?_
  refine l_sld (i + 2) dL_law_1666 (by omega) (by omega) hn ?_
  refine l_aload dL_law_1667 rfl ?_
  refine l_iload dL_law_1668 rfl ?_
  refine l_iconst dL_law_1669 ?_
  refine l_iadd dL_law_1670 ?_
  refine l_sld (i + 3) dL_law_1671 (by omega) (by omega) hn ?_
  refine l_callV (k := 12) (i := 0) (d := 0 + 7) (S := []) [aI (sv xs (i + 1)), aI (sv xs (i + 2)), aI (sv xs (i + 3))] dL_law_1672 ml_L_245 ok_X12_luck vi_X12_luck rfl rfl (by decide) rfl (Nat.le_of_ble_eq_true rfl) (by decide) ?_
  refine m _ (fun g2 I2 => ?_)
  show lWP n xs 1675 (lLs i) [aI v] g2
  refine l_pop dL_law_1675 rfl ?_
  exact l_goto 1993 dL_law_1676 (by decide) (tail _ I2)
set_option maxRecDepth 100000 in
theorem q_tell {n : Nat} {xs : Nat → Int32} {i : Nat} {h : fwH} (I : jI h) (hn : n ≤ 100000) (hi : i + 6 ≤ n) (tail : ∀ h, jI h → lWP n xs 1993 (lLs i) [] h) : lWP n xs 1679 (lLs i) [] h := by
  refine l_aload dL_law_1679 rfl ?_
  refine l_aload dL_law_1680 rfl ?_
  refine l_iload dL_law_1681 rfl ?_
  refine l_iconst dL_law_1682 ?_
  refine l_iadd dL_law_1683 ?_
  refine l_sld (i + 1) dL_law_1684 (by omega) (by omega) hn ?_
  refine l_callV (k := 0) (i := 0) (d := 0 + 2) (S := []) [aI (sv xs (i + 1))] dL_law_1685 ml_L_246 ok_X11_tell vi_X11_tell rfl rfl (by decide) rfl (Nat.le_of_ble_eq_true rfl) (by decide) ?_
  refine pr_tell (d := 0) (d2 := 0) I (sv xs (i + 1)) (sv_rng _ _) (fun v g1 m => ?_)
  show lWP n xs 1688 (lLs i) [aI v] g1
  refine l_pop dL_law_1688 rfl ?_
  refine l_aload dL_law_1689 rfl ?_
  refine l_aload dL_law_1690 rfl ?_
  refine l_iload dL_law_1691 rfl ?_
  refine l_iconst dL_law_1692 ?_
  refine l_iadd dL_law_1693 ?_
  refine l_sld (i + 1) dL_law_1694 (by omega) (by omega) hn ?_
  refine l_callV (k := 12) (i := 0) (d := 0 + 2) (S := []) [aI (sv xs (i + 1))] dL_law_1695 ml_L_249 ok_X12_tell vi_X12_tell rfl rfl (by decide) rfl (Nat.le_of_ble_eq_true rfl) (by decide) ?_
  refine m _ (fun g2 I2 => ?_)
  show lWP n xs 1698 (lLs i) [aI v] g2
  refine l_pop dL_law_1698 rfl ?_
  exact l_goto 1993 dL_law_1699 (by decide) (tail _ I2)
set_option maxRecDepth 100000 in
theorem q_likes {n : Nat} {xs : Nat → Int32} {i : Nat} {h : fwH} (I : jI h) (hn : n ≤ 100000) (hi : i + 6 ≤ n) (tail : ∀ h, jI h → lWP n xs 1993 (lLs i) [] h) : lWP n xs 1702 (lLs i) [] h := by
  refine l_aload dL_law_1702 rfl ?_
  refine l_aload dL_law_1703 rfl ?_
  refine l_iload dL_law_1704 rfl ?_
  refine l_iconst dL_law_1705 ?_
  refine l_iadd dL_law_1706 ?_
  refine l_sld (i + 1) dL_law_1707 (by omega) (by omega) hn ?_
  refine l_aload dL_law_1708 rfl ?_
  refine l_iload dL_law_1709 rfl ?_
  refine l_iconst dL_law_1710 ?_
  refine l_iadd dL_law_1711 ?_
  refine l_sld (i + 2) dL_law_1712 (by omega) (by omega) hn ?_
  refine l_aload dL_law_1713 rfl ?_
  refine l_iload dL_law_1714 rfl ?_
  refine l_iconst dL_law_1715 ?_
  refine l_iadd dL_law_1716 ?_
  refine l_sld (i + 3) dL_law_1717 (by omega) (by omega) hn ?_
  refine l_callV (k := 0) (i := 0) (d := 0 + 1) (S := []) [aI (sv xs (i + 1)), aI (sv xs (i + 2)), aI (sv xs (i + 3))] dL_law_1718 ml_L_250 ok_X11_likes vi_X11_likes rfl rfl (by decide) rfl (Nat.le_of_ble_eq_true rfl) (by decide) ?_
  refine pr_likes (d := 0) (d2 := 0) I (sv xs (i + 1)) (sv xs (i + 2)) (sv xs (i + 3)) (sv_rng _ _) (sv_rng _ _) (sv_rng _ _) (fun v g1 m => ?_)
  show lWP n xs 1721 (lLs i) [aI v] g1
  refine l_pop dL_law_1721 rfl ?_
  refine l_aload dL_law_1722 rfl ?_
  refine l_aload dL_law_1723 rfl ?_
  refine l_iload dL_law_1724 rfl ?_
  refine l_iconst dL_law_1725 ?_
  refine l_iadd dL_law_1726 ?_
  refine l_sld (i + 1) dL_law_1727 (by omega) (by omega) hn ?_
  refine l_aload dL_law_1728 rfl ?_
  refine l_iload dL_law_1729 rfl ?_
  refine l_iconst dL_law_1730 ?_
  refine l_iadd dL_law_1731 ?_
  refine l_sld (i + 2) dL_law_1732 (by omega) (by omega) hn ?_
  refine l_aload dL_law_1733 rfl ?_
  refine l_iload dL_law_1734 rfl ?_
  refine l_iconst dL_law_1735 ?_
  refine l_iadd dL_law_1736 ?_
  refine l_sld (i + 3) dL_law_1737 (by omega) (by omega) hn ?_
  refine l_callV (k := 12) (i := 0) (d := 0 + 2) (S := []) [aI (sv xs (i + 1)), aI (sv xs (i + 2)), aI (sv xs (i + 3))] dL_law_1738 ml_L_253 ok_X12_likes vi_X12_likes rfl rfl (by decide) rfl (Nat.le_of_ble_eq_true rfl) (by decide) ?_
  refine m _ (fun g2 I2 => ?_)
  show lWP n xs 1741 (lLs i) [aI v] g2
  refine l_pop dL_law_1741 rfl ?_
  exact l_goto 1993 dL_law_1742 (by decide) (tail _ I2)
set_option maxRecDepth 100000 in
theorem q_count {n : Nat} {xs : Nat → Int32} {i : Nat} {h : fwH} (I : jI h) (hn : n ≤ 100000) (hi : i + 6 ≤ n) (tail : ∀ h, jI h → lWP n xs 1993 (lLs i) [] h) : lWP n xs 1745 (lLs i) [] h := by
  refine l_aload dL_law_1745 rfl ?_
  refine l_aload dL_law_1746 rfl ?_
  refine l_iload dL_law_1747 rfl ?_
  refine l_iconst dL_law_1748 ?_
  refine l_iadd dL_law_1749 ?_
  refine l_sld (i + 1) dL_law_1750 (by omega) (by omega) hn ?_
  refine l_callV (k := 0) (i := 0) (d := 0 + 3) (S := []) [aI (sv xs (i + 1))] dL_law_1751 ml_L_254 ok_X11_count vi_X11_count rfl rfl (by decide) rfl (Nat.le_of_ble_eq_true rfl) (by decide) ?_
  refine pr_count (d := 0) (d2 := 0) I (sv xs (i + 1)) (sv_rng _ _) (fun v g1 m => ?_)
  show lWP n xs 1754 (lLs i) [aI v] g1
  refine l_pop dL_law_1754 rfl ?_
  refine l_aload dL_law_1755 rfl ?_
  refine l_aload dL_law_1756 rfl ?_
  refine l_iload dL_law_1757 rfl ?_
  refine l_iconst dL_law_1758 ?_
  refine l_iadd dL_law_1759 ?_
  refine l_sld (i + 1) dL_law_1760 (by omega) (by omega) hn ?_
  refine l_callV (k := 12) (i := 0) (d := 0 + 1) (S := []) [aI (sv xs (i + 1))] dL_law_1761 ml_L_257 ok_X12_count vi_X12_count rfl rfl (by decide) rfl (Nat.le_of_ble_eq_true rfl) (by decide) ?_
  refine m _ (fun g2 I2 => ?_)
  show lWP n xs 1764 (lLs i) [aI v] g2
  refine l_pop dL_law_1764 rfl ?_
  exact l_goto 1993 dL_law_1765 (by decide) (tail _ I2)
set_option maxRecDepth 100000 in
theorem q_image {n : Nat} {xs : Nat → Int32} {i : Nat} {h : fwH} (I : jI h) (hn : n ≤ 100000) (hi : i + 6 ≤ n) (tail : ∀ h, jI h → lWP n xs 1993 (lLs i) [] h) : lWP n xs 1768 (lLs i) [] h := by
  refine l_aload dL_law_1768 rfl ?_
  refine l_aload dL_law_1769 rfl ?_
  refine l_iload dL_law_1770 rfl ?_
  refine l_iconst dL_law_1771 ?_
  refine l_iadd dL_law_1772 ?_
  refine l_sld (i + 1) dL_law_1773 (by omega) (by omega) hn ?_
  refine l_callV (k := 0) (i := 0) (d := 0 + 2) (S := []) [aI (sv xs (i + 1))] dL_law_1774 ml_L_258 ok_X11_image vi_X11_image rfl rfl (by decide) rfl (Nat.le_of_ble_eq_true rfl) (by decide) ?_
  refine pr_image (d := 0) (d2 := 0) I (sv xs (i + 1)) (sv_rng _ _) (fun v g1 m => ?_)
  show lWP n xs 1777 (lLs i) [aI v] g1
  refine l_pop dL_law_1777 rfl ?_
  refine l_aload dL_law_1778 rfl ?_
  refine l_aload dL_law_1779 rfl ?_
  refine l_iload dL_law_1780 rfl ?_
  refine l_iconst dL_law_1781 ?_
  refine l_iadd dL_law_1782 ?_
  refine l_sld (i + 1) dL_law_1783 (by omega) (by omega) hn ?_
  refine l_callV (k := 12) (i := 0) (d := 0 + 1) (S := []) [aI (sv xs (i + 1))] dL_law_1784 ml_L_261 ok_X12_image vi_X12_image rfl rfl (by decide) rfl (Nat.le_of_ble_eq_true rfl) (by decide) ?_
  refine m _ (fun g2 I2 => ?_)
  show lWP n xs 1787 (lLs i) [aI v] g2
  refine l_pop dL_law_1787 rfl ?_
  exact l_goto 1993 dL_law_1788 (by decide) (tail _ I2)
set_option maxRecDepth 100000 in
theorem q_back {n : Nat} {xs : Nat → Int32} {i : Nat} {h : fwH} (I : jI h) (hn : n ≤ 100000) (hi : i + 6 ≤ n) (tail : ∀ h, jI h → lWP n xs 1993 (lLs i) [] h) : lWP n xs 1791 (lLs i) [] h := by
  refine l_aload dL_law_1791 rfl ?_
  refine l_aload dL_law_1792 rfl ?_
  refine l_iload dL_law_1793 rfl ?_
  refine l_iconst dL_law_1794 ?_
  refine l_iadd dL_law_1795 ?_
  refine l_sld (i + 1) dL_law_1796 (by omega) (by omega) hn ?_
  refine l_callV (k := 0) (i := 0) (d := 0 + 2) (S := []) [aI (sv xs (i + 1))] dL_law_1797 ml_L_262 ok_X11_back vi_X11_back rfl rfl (by decide) rfl (Nat.le_of_ble_eq_true rfl) (by decide) ?_
  refine pr_back (d := 0) (d2 := 0) I (sv xs (i + 1)) (sv_rng _ _) (fun v g1 m => ?_)
  show lWP n xs 1800 (lLs i) [aI v] g1
  refine l_pop dL_law_1800 rfl ?_
  refine l_aload dL_law_1801 rfl ?_
  refine l_aload dL_law_1802 rfl ?_
  refine l_iload dL_law_1803 rfl ?_
  refine l_iconst dL_law_1804 ?_
  refine l_iadd dL_law_1805 ?_
  refine l_sld (i + 1) dL_law_1806 (by omega) (by omega) hn ?_
  refine l_callV (k := 12) (i := 0) (d := 0 + 1) (S := []) [aI (sv xs (i + 1))] dL_law_1807 ml_L_265 ok_X12_back vi_X12_back rfl rfl (by decide) rfl (Nat.le_of_ble_eq_true rfl) (by decide) ?_
  refine m _ (fun g2 I2 => ?_)
  show lWP n xs 1810 (lLs i) [aI v] g2
  refine l_pop dL_law_1810 rfl ?_
  exact l_goto 1993 dL_law_1811 (by decide) (tail _ I2)
set_option maxRecDepth 100000 in
theorem q_row {n : Nat} {xs : Nat → Int32} {i : Nat} {h : fwH} (I : jI h) (hn : n ≤ 100000) (hi : i + 6 ≤ n) (tail : ∀ h, jI h → lWP n xs 1993 (lLs i) [] h) : lWP n xs 1814 (lLs i) [] h := by
  refine l_aload dL_law_1814 rfl ?_
  refine l_aload dL_law_1815 rfl ?_
  refine l_iload dL_law_1816 rfl ?_
  refine l_iconst dL_law_1817 ?_
  refine l_iadd dL_law_1818 ?_
  refine l_sld (i + 1) dL_law_1819 (by omega) (by omega) hn ?_
  refine l_aload dL_law_1820 rfl ?_
  refine l_iload dL_law_1821 rfl ?_
  refine l_iconst dL_law_1822 ?_
  refine l_iadd dL_law_1823 ?_
  refine l_sld (i + 2) dL_law_1824 (by omega) (by omega) hn ?_
  refine l_aload dL_law_1825 rfl ?_
  refine l_iload dL_law_1826 rfl ?_
  refine l_iconst dL_law_1827 ?_
  refine l_iadd dL_law_1828 ?_
  refine l_sld (i + 3) dL_law_1829 (by omega) (by omega) hn ?_
  refine l_callV (k := 0) (i := 0) (d := 0 + 2) (S := []) [aI (sv xs (i + 1)), aI (sv xs (i + 2)), aI (sv xs (i + 3))] dL_law_1830 ml_L_266 ok_X11_row vi_X11_row rfl rfl (by decide) rfl (Nat.le_of_ble_eq_true rfl) (by decide) ?_
  refine pr_row (d := 0) (d2 := 0) I (sv xs (i + 1)) (sv xs (i + 2)) (sv xs (i + 3)) (sv_rng _ _) (sv_rng _ _) (sv_rng _ _) (fun v g1 m => ?_)
  show lWP n xs 1833 (lLs i) [aI v] g1
  refine l_pop dL_law_1833 rfl ?_
  refine l_aload dL_law_1834 rfl ?_
  refine l_aload dL_law_1835 rfl ?_
  refine l_iload dL_law_1836 rfl ?_
  refine l_iconst dL_law_1837 ?_
  refine l_iadd dL_law_1838 ?_
  refine l_sld (i + 1) dL_law_1839 (by omega) (by omega) hn ?_
  refine l_aload dL_law_1840 rfl ?_
  refine l_iload dL_law_1841 rfl ?_
  refine l_iconst dL_law_1842 ?_
  refine l_iadd dL_law_1843 ?_
  refine l_sld (i + 2) dL_law_1844 (by omega) (by omega) hn ?_
  refine l_aload dL_law_1845 rfl ?_
  refine l_iload dL_law_1846 rfl ?_
  refine l_iconst dL_law_1847 ?_
  refine l_iadd dL_law_1848 ?_
  refine l_sld (i + 3) dL_law_1849 (by omega) (by omega) hn ?_
  refine l_callV (k := 12) (i := 0) (d := 0 + 2) (S := []) [aI (sv xs (i + 1)), aI (sv xs (i + 2)), aI (sv xs (i + 3))] dL_law_1850 ml_L_269 ok_X12_row vi_X12_row rfl rfl (by decide) rfl (Nat.le_of_ble_eq_true rfl) (by decide) ?_
  refine m _ (fun g2 I2 => ?_)
  show lWP n xs 1853 (lLs i) [aI v] g2
  refine l_pop dL_law_1853 rfl ?_
  exact l_goto 1993 dL_law_1854 (by decide) (tail _ I2)
set_option maxRecDepth 100000 in
theorem q_write {n : Nat} {xs : Nat → Int32} {i : Nat} {h : fwH} (I : jI h) (hn : n ≤ 100000) (hi : i + 6 ≤ n) (tail : ∀ h, jI h → lWP n xs 1993 (lLs i) [] h) : lWP n xs 1857 (lLs i) [] h := by
  refine l_aload dL_law_1857 rfl ?_
  refine l_aload dL_law_1858 rfl ?_
  refine l_iload dL_law_1859 rfl ?_
  refine l_iconst dL_law_1860 ?_
  refine l_iadd dL_law_1861 ?_
  refine l_sld (i + 1) dL_law_1862 (by omega) (by omega) hn ?_
  refine l_aload dL_law_1863 rfl ?_
  refine l_iload dL_law_1864 rfl ?_
  refine l_iconst dL_law_1865 ?_
  refine l_iadd dL_law_1866 ?_
  refine l_sld (i + 2) dL_law_1867 (by omega) (by omega) hn ?_
  refine l_aload dL_law_1868 rfl ?_
  refine l_iload dL_law_1869 rfl ?_
  refine l_iconst dL_law_1870 ?_
  refine l_iadd dL_law_1871 ?_
  refine l_sld (i + 3) dL_law_1872 (by omega) (by omega) hn ?_
  refine l_i2l dL_law_1873 (sv_rng _ _) ?_
  refine l_bipush dL_law_1874 rfl ?_
  refine l_lshl dL_law_1876 ?_
  refine l_aload dL_law_1877 rfl ?_
  refine l_iload dL_law_1878 rfl ?_
  refine l_iconst dL_law_1879 ?_
  refine l_iadd dL_law_1880 ?_
  refine l_sld (i + 4) dL_law_1881 (by omega) (by omega) hn ?_
  refine l_i2l dL_law_1882 (sv_rng _ _) ?_
  refine l_ldc2 (z := 4294967295) dL_law_1883 cs_L_270 ?_
  refine l_land dL_law_1886 ?_
  refine l_lor dL_law_1887 ?_
  refine l_callV (k := 0) (i := 0) (d := 0 + 2) (S := []) [aI (sv xs (i + 1)), aI (sv xs (i + 2)), aJ (fwLor (fwLshl (sv xs (i + 3)) 32) (fwLand (sv xs (i + 4)) 4294967295))] dL_law_1888 ml_L_272 ok_X11_write vi_X11_write rfl rfl (by decide) rfl (Nat.le_of_ble_eq_true rfl) (by decide) ?_
  refine pr_write (d := 0) (d2 := 0) I (sv xs (i + 1)) (sv xs (i + 2)) (fwLor (fwLshl (sv xs (i + 3)) 32) (fwLand (sv xs (i + 4)) 4294967295)) (sv_rng _ _) (sv_rng _ _) (lor_rng _ _) (fun v g1 m => ?_)
  show lWP n xs 1891 (lLs i) [aI v] g1
  refine l_pop dL_law_1891 rfl ?_
  refine l_aload dL_law_1892 rfl ?_
  refine l_aload dL_law_1893 rfl ?_
  refine l_iload dL_law_1894 rfl ?_
  refine l_iconst dL_law_1895 ?_
  refine l_iadd dL_law_1896 ?_
  refine l_sld (i + 1) dL_law_1897 (by omega) (by omega) hn ?_
  refine l_aload dL_law_1898 rfl ?_
  refine l_iload dL_law_1899 rfl ?_
  refine l_iconst dL_law_1900 ?_
  refine l_iadd dL_law_1901 ?_
  refine l_sld (i + 2) dL_law_1902 (by omega) (by omega) hn ?_
  refine l_aload dL_law_1903 rfl ?_
  refine l_iload dL_law_1904 rfl ?_
  refine l_iconst dL_law_1905 ?_
  refine l_iadd dL_law_1906 ?_
  refine l_sld (i + 3) dL_law_1907 (by omega) (by omega) hn ?_
  refine l_i2l dL_law_1908 (sv_rng _ _) ?_
  refine l_bipush dL_law_1909 rfl ?_
  refine l_lshl dL_law_1911 ?_
  refine l_aload dL_law_1912 rfl ?_
  refine l_iload dL_law_1913 rfl ?_
  refine l_iconst dL_law_1914 ?_
  refine l_iadd dL_law_1915 ?_
  refine l_sld (i + 4) dL_law_1916 (by omega) (by omega) hn ?_
  refine l_i2l dL_law_1917 (sv_rng _ _) ?_
  refine l_ldc2 (z := 4294967295) dL_law_1918 cs_L_270 ?_
  refine l_land dL_law_1921 ?_
  refine l_lor dL_law_1922 ?_
  refine l_callV (k := 12) (i := 0) (d := 0 + 2) (S := []) [aI (sv xs (i + 1)), aI (sv xs (i + 2)), aJ (fwLor (fwLshl (sv xs (i + 3)) 32) (fwLand (sv xs (i + 4)) 4294967295))] dL_law_1923 ml_L_276 ok_X12_write vi_X12_write rfl rfl (by decide) rfl (Nat.le_of_ble_eq_true rfl) (by decide) ?_
  refine m _ (fun g2 I2 => ?_)
  show lWP n xs 1926 (lLs i) [aI v] g2
  refine l_pop dL_law_1926 rfl ?_
  exact l_goto 1993 dL_law_1927 (by decide) (tail _ I2)
set_option maxRecDepth 100000 in
theorem q_paste {n : Nat} {xs : Nat → Int32} {i : Nat} {h : fwH} (I : jI h) (hn : n ≤ 100000) (hi : i + 6 ≤ n) (tail : ∀ h, jI h → lWP n xs 1993 (lLs i) [] h) : lWP n xs 1930 (lLs i) [] h := by
  refine l_aload dL_law_1930 rfl ?_
  refine l_aload dL_law_1931 rfl ?_
  refine l_iload dL_law_1932 rfl ?_
  refine l_iconst dL_law_1933 ?_
  refine l_iadd dL_law_1934 ?_
  refine l_sld (i + 1) dL_law_1935 (by omega) (by omega) hn ?_
  refine l_aload dL_law_1936 rfl ?_
  refine l_iload dL_law_1937 rfl ?_
  refine l_iconst dL_law_1938 ?_
  refine l_iadd dL_law_1939 ?_
  refine l_sld (i + 2) dL_law_1940 (by omega) (by omega) hn ?_
  refine l_aload dL_law_1941 rfl ?_
  refine l_iload dL_law_1942 rfl ?_
  refine l_iconst dL_law_1943 ?_
  refine l_iadd dL_law_1944 ?_
  refine l_sld (i + 3) dL_law_1945 (by omega) (by omega) hn ?_
  refine l_aload dL_law_1946 rfl ?_
  refine l_iload dL_law_1947 rfl ?_
  refine l_iconst dL_law_1948 ?_
  refine l_iadd dL_law_1949 ?_
  refine l_sld (i + 4) dL_law_1950 (by omega) (by omega) hn ?_
  refine l_aload dL_law_1951 rfl ?_
  refine l_iload dL_law_1952 rfl ?_
  refine l_iconst dL_law_1953 ?_
  refine l_iadd dL_law_1954 ?_
  refine l_sld (i + 5) dL_law_1955 (by omega) (by omega) hn ?_
  refine l_callV (k := 0) (i := 0) (d := 0 + 3) (S := []) [aI (sv xs (i + 1)), aI (sv xs (i + 2)), aI (sv xs (i + 3)), aI (sv xs (i + 4)), aI (sv xs (i + 5))] dL_law_1956 ml_L_277 ok_X11_paste vi_X11_paste rfl rfl (by decide) rfl (Nat.le_of_ble_eq_true rfl) (by decide) ?_
  refine pr_paste (d := 0) (d2 := 0) I (sv xs (i + 1)) (sv xs (i + 2)) (sv xs (i + 3)) (sv xs (i + 4)) (sv xs (i + 5)) (sv_rng _ _) (sv_rng _ _) (sv_rng _ _) (sv_rng _ _) (sv_rng _ _) (fun v g1 m => ?_)
  show lWP n xs 1959 (lLs i) [aI v] g1
  refine l_aload dL_law_1959 rfl ?_
  refine l_aload dL_law_1960 rfl ?_
  refine l_iload dL_law_1961 rfl ?_
  refine l_iconst dL_law_1962 ?_
  refine l_iadd dL_law_1963 ?_
  refine l_sld (i + 1) dL_law_1964 (by omega) (by omega) hn ?_
  refine l_aload dL_law_1965 rfl ?_
  refine l_iload dL_law_1966 rfl ?_
  refine l_iconst dL_law_1967 ?_
  refine l_iadd dL_law_1968 ?_
  refine l_sld (i + 2) dL_law_1969 (by omega) (by omega) hn ?_
  refine l_aload dL_law_1970 rfl ?_
  refine l_iload dL_law_1971 rfl ?_
  refine l_iconst dL_law_1972 ?_
  refine l_iadd dL_law_1973 ?_
  refine l_sld (i + 3) dL_law_1974 (by omega) (by omega) hn ?_
  refine l_aload dL_law_1975 rfl ?_
  refine l_iload dL_law_1976 rfl ?_
  refine l_iconst dL_law_1977 ?_
  refine l_iadd dL_law_1978 ?_
  refine l_sld (i + 4) dL_law_1979 (by omega) (by omega) hn ?_
  refine l_aload dL_law_1980 rfl ?_
  refine l_iload dL_law_1981 rfl ?_
  refine l_iconst dL_law_1982 ?_
  refine l_iadd dL_law_1983 ?_
  refine l_sld (i + 5) dL_law_1984 (by omega) (by omega) hn ?_
  refine l_callV (k := 12) (i := 0) (d := 0 + 2) (S := [aI v]) [aI (sv xs (i + 1)), aI (sv xs (i + 2)), aI (sv xs (i + 3)), aI (sv xs (i + 4)), aI (sv xs (i + 5))] dL_law_1985 ml_L_280 ok_X12_paste vi_X12_paste rfl rfl (by decide) rfl (Nat.le_of_ble_eq_true rfl) (by decide) ?_
  refine m _ (fun g2 I2 => ?_)
  show lWP n xs 1988 (lLs i) [aI v, aI v] g2
  exact l_eqs 1993 dL_law_1988 (by decide) rfl (tail _ I2)

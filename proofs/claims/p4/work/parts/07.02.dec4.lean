theorem bL_law_0 : bL cL_law 0 [187, 0, 7, 89, 183, 0, 9, 76, 187, 0, 10, 89, 183, 0, 12, 77, 3, 62, 29, 42, 190, 16, 6, 100] := bL_of (by decide +kernel)
def dL_law_0 := dk187 (k := 0) (x := 7) bL_law_0 rfl rfl
def dL_law_3 := dk89 (k := 3) bL_law_0 rfl
def dL_law_4 := dk183 (k := 4) (x := 9) bL_law_0 rfl rfl
def dL_law_7 := dk76 (k := 7) bL_law_0 rfl
def dL_law_8 := dk187 (k := 8) (x := 10) bL_law_0 rfl rfl
def dL_law_11 := dk89 (k := 11) bL_law_0 rfl
def dL_law_12 := dk183 (k := 12) (x := 12) bL_law_0 rfl rfl
def dL_law_15 := dk77 (k := 15) bL_law_0 rfl
def dL_law_16 := dk3 (k := 16) bL_law_0 rfl
def dL_law_17 := dk62 (k := 17) bL_law_0 rfl
def dL_law_18 := dk29 (k := 18) bL_law_0 rfl
def dL_law_19 := dk42 (k := 19) bL_law_0 rfl
def dL_law_20 := dk190 (k := 20) bL_law_0 rfl
def dL_law_21 := dk16 (k := 21) (x := 6) bL_law_0 rfl (by decide)
def dL_law_23 := dk100 (k := 23) bL_law_0 rfl
theorem bL_law_24 : bL cL_law 24 [163, 7, 183, 42, 29, 46, 16, 127, 126] := bL_of (by decide +kernel)
def dL_law_24 := dk163 (k := 0) (x := 1975) bL_law_24 rfl (by decide)
def dL_law_27 := dk42 (k := 3) bL_law_24 rfl
def dL_law_28 := dk29 (k := 4) bL_law_24 rfl
def dL_law_29 := dk46 (k := 5) bL_law_24 rfl
def dL_law_30 := dk16 (k := 6) (x := 127) bL_law_24 rfl (by decide)
def dL_law_32 := dk126 (k := 8) bL_law_24 rfl
theorem dL_law_33 : decode cL_law 33 = .ok (.tableswitch 1960 0 64 #[275, 338, 361, 374, 397, 430, 453, 486, 509, 532, 545, 558, 581, 614, 637, 650, 663, 686, 709, 722, 735, 748, 771, 794, 807, 820, 843, 856, 889, 922, 955, 998, 1041, 1064, 1087, 1100, 1113, 1136, 1149, 1182, 1195, 1208, 1231, 1264, 1277, 1300, 1323, 1356, 1379, 1392, 1415, 1448, 1481, 1504, 1527, 1560, 1603, 1646, 1669, 1712, 1735, 1758, 1781, 1824, 1897], 275) := by decide +kernel
theorem bL_law_308 : bL cL_law 308 [43, 42, 29, 4, 96, 46, 42, 29, 5, 96, 46, 42, 29, 6, 96, 46, 42, 29, 7, 96, 46, 42, 29, 8] := bL_of (by decide +kernel)
def dL_law_308 := dk43 (k := 0) bL_law_308 rfl
def dL_law_309 := dk42 (k := 1) bL_law_308 rfl
def dL_law_310 := dk29 (k := 2) bL_law_308 rfl
def dL_law_311 := dk4 (k := 3) bL_law_308 rfl
def dL_law_312 := dk96 (k := 4) bL_law_308 rfl
def dL_law_313 := dk46 (k := 5) bL_law_308 rfl
def dL_law_314 := dk42 (k := 6) bL_law_308 rfl
def dL_law_315 := dk29 (k := 7) bL_law_308 rfl
def dL_law_316 := dk5 (k := 8) bL_law_308 rfl
def dL_law_317 := dk96 (k := 9) bL_law_308 rfl
def dL_law_318 := dk46 (k := 10) bL_law_308 rfl
def dL_law_319 := dk42 (k := 11) bL_law_308 rfl
def dL_law_320 := dk29 (k := 12) bL_law_308 rfl
def dL_law_321 := dk6 (k := 13) bL_law_308 rfl
def dL_law_322 := dk96 (k := 14) bL_law_308 rfl
def dL_law_323 := dk46 (k := 15) bL_law_308 rfl
def dL_law_324 := dk42 (k := 16) bL_law_308 rfl
def dL_law_325 := dk29 (k := 17) bL_law_308 rfl
def dL_law_326 := dk7 (k := 18) bL_law_308 rfl
def dL_law_327 := dk96 (k := 19) bL_law_308 rfl
def dL_law_328 := dk46 (k := 20) bL_law_308 rfl
def dL_law_329 := dk42 (k := 21) bL_law_308 rfl
def dL_law_330 := dk29 (k := 22) bL_law_308 rfl
def dL_law_331 := dk8 (k := 23) bL_law_308 rfl
theorem bL_law_332 : bL cL_law 332 [96, 46, 182, 0, 13, 87, 44, 42, 29, 4, 96, 46, 42, 29, 5, 96, 46, 42, 29, 6, 96, 46, 42, 29] := bL_of (by decide +kernel)
def dL_law_332 := dk96 (k := 0) bL_law_332 rfl
def dL_law_333 := dk46 (k := 1) bL_law_332 rfl
def dL_law_334 := dk182 (k := 2) (x := 13) bL_law_332 rfl rfl
def dL_law_337 := dk87 (k := 5) bL_law_332 rfl
def dL_law_338 := dk44 (k := 6) bL_law_332 rfl
def dL_law_339 := dk42 (k := 7) bL_law_332 rfl
def dL_law_340 := dk29 (k := 8) bL_law_332 rfl
def dL_law_341 := dk4 (k := 9) bL_law_332 rfl
def dL_law_342 := dk96 (k := 10) bL_law_332 rfl
def dL_law_343 := dk46 (k := 11) bL_law_332 rfl
def dL_law_344 := dk42 (k := 12) bL_law_332 rfl
def dL_law_345 := dk29 (k := 13) bL_law_332 rfl
def dL_law_346 := dk5 (k := 14) bL_law_332 rfl
def dL_law_347 := dk96 (k := 15) bL_law_332 rfl
def dL_law_348 := dk46 (k := 16) bL_law_332 rfl
def dL_law_349 := dk42 (k := 17) bL_law_332 rfl
def dL_law_350 := dk29 (k := 18) bL_law_332 rfl
def dL_law_351 := dk6 (k := 19) bL_law_332 rfl
def dL_law_352 := dk96 (k := 20) bL_law_332 rfl
def dL_law_353 := dk46 (k := 21) bL_law_332 rfl
def dL_law_354 := dk42 (k := 22) bL_law_332 rfl
def dL_law_355 := dk29 (k := 23) bL_law_332 rfl
theorem bL_law_356 : bL cL_law 356 [7, 96, 46, 42, 29, 8, 96, 46, 182, 0, 17, 87, 167, 6, 89, 43, 42, 29, 4, 96, 46, 182, 0, 18] := bL_of (by decide +kernel)
def dL_law_356 := dk7 (k := 0) bL_law_356 rfl
def dL_law_357 := dk96 (k := 1) bL_law_356 rfl
def dL_law_358 := dk46 (k := 2) bL_law_356 rfl
def dL_law_359 := dk42 (k := 3) bL_law_356 rfl
def dL_law_360 := dk29 (k := 4) bL_law_356 rfl
def dL_law_361 := dk8 (k := 5) bL_law_356 rfl
def dL_law_362 := dk96 (k := 6) bL_law_356 rfl
def dL_law_363 := dk46 (k := 7) bL_law_356 rfl
def dL_law_364 := dk182 (k := 8) (x := 17) bL_law_356 rfl rfl
def dL_law_367 := dk87 (k := 11) bL_law_356 rfl
def dL_law_368 := dk167 (k := 12) (x := 1625) bL_law_356 rfl (by decide)
def dL_law_371 := dk43 (k := 15) bL_law_356 rfl
def dL_law_372 := dk42 (k := 16) bL_law_356 rfl
def dL_law_373 := dk29 (k := 17) bL_law_356 rfl
def dL_law_374 := dk4 (k := 18) bL_law_356 rfl
def dL_law_375 := dk96 (k := 19) bL_law_356 rfl
def dL_law_376 := dk46 (k := 20) bL_law_356 rfl
def dL_law_377 := dk182 (k := 21) (x := 18) bL_law_356 rfl rfl
theorem bL_law_380 : bL cL_law 380 [87, 44, 42, 29, 4, 96, 46, 182, 0, 22, 87, 167, 6, 66, 43, 182, 0, 23, 44, 182, 0, 27, 159, 6, 55] := bL_of (by decide +kernel)
def dL_law_380 := dk87 (k := 0) bL_law_380 rfl
def dL_law_381 := dk44 (k := 1) bL_law_380 rfl
def dL_law_382 := dk42 (k := 2) bL_law_380 rfl
def dL_law_383 := dk29 (k := 3) bL_law_380 rfl
def dL_law_384 := dk4 (k := 4) bL_law_380 rfl
def dL_law_385 := dk96 (k := 5) bL_law_380 rfl
def dL_law_386 := dk46 (k := 6) bL_law_380 rfl
def dL_law_387 := dk182 (k := 7) (x := 22) bL_law_380 rfl rfl
def dL_law_390 := dk87 (k := 10) bL_law_380 rfl
def dL_law_391 := dk167 (k := 11) (x := 1602) bL_law_380 rfl (by decide)
def dL_law_394 := dk43 (k := 14) bL_law_380 rfl
def dL_law_395 := dk182 (k := 15) (x := 23) bL_law_380 rfl rfl
def dL_law_398 := dk44 (k := 18) bL_law_380 rfl
def dL_law_399 := dk182 (k := 19) (x := 27) bL_law_380 rfl rfl
def dL_law_402 := dk159 (k := 22) (x := 1591) bL_law_380 rfl (by decide)
theorem bL_law_405 : bL cL_law 405 [3, 172, 43, 42, 29, 4, 96, 46, 182, 0, 28, 87, 44, 42, 29, 4, 96, 46, 182, 0, 31, 87, 167, 6, 30] := bL_of (by decide +kernel)
def dL_law_405 := dk3 (k := 0) bL_law_405 rfl
def dL_law_406 := dk172 (k := 1) bL_law_405 rfl
def dL_law_407 := dk43 (k := 2) bL_law_405 rfl
def dL_law_408 := dk42 (k := 3) bL_law_405 rfl
def dL_law_409 := dk29 (k := 4) bL_law_405 rfl
def dL_law_410 := dk4 (k := 5) bL_law_405 rfl
def dL_law_411 := dk96 (k := 6) bL_law_405 rfl
def dL_law_412 := dk46 (k := 7) bL_law_405 rfl
def dL_law_413 := dk182 (k := 8) (x := 28) bL_law_405 rfl rfl
def dL_law_416 := dk87 (k := 11) bL_law_405 rfl
def dL_law_417 := dk44 (k := 12) bL_law_405 rfl
def dL_law_418 := dk42 (k := 13) bL_law_405 rfl
def dL_law_419 := dk29 (k := 14) bL_law_405 rfl
def dL_law_420 := dk4 (k := 15) bL_law_405 rfl
def dL_law_421 := dk96 (k := 16) bL_law_405 rfl
def dL_law_422 := dk46 (k := 17) bL_law_405 rfl
def dL_law_423 := dk182 (k := 18) (x := 31) bL_law_405 rfl rfl
def dL_law_426 := dk87 (k := 21) bL_law_405 rfl
def dL_law_427 := dk167 (k := 22) (x := 1566) bL_law_405 rfl (by decide)
theorem bL_law_430 : bL cL_law 430 [43, 42, 29, 4, 96, 46, 42, 29, 5, 96, 46, 182, 0, 32, 87, 44, 42, 29, 4, 96, 46, 42, 29, 5] := bL_of (by decide +kernel)
def dL_law_430 := dk43 (k := 0) bL_law_430 rfl
def dL_law_431 := dk42 (k := 1) bL_law_430 rfl
def dL_law_432 := dk29 (k := 2) bL_law_430 rfl
def dL_law_433 := dk4 (k := 3) bL_law_430 rfl
def dL_law_434 := dk96 (k := 4) bL_law_430 rfl
def dL_law_435 := dk46 (k := 5) bL_law_430 rfl
def dL_law_436 := dk42 (k := 6) bL_law_430 rfl
def dL_law_437 := dk29 (k := 7) bL_law_430 rfl
def dL_law_438 := dk5 (k := 8) bL_law_430 rfl
def dL_law_439 := dk96 (k := 9) bL_law_430 rfl
def dL_law_440 := dk46 (k := 10) bL_law_430 rfl
def dL_law_441 := dk182 (k := 11) (x := 32) bL_law_430 rfl rfl
def dL_law_444 := dk87 (k := 14) bL_law_430 rfl
def dL_law_445 := dk44 (k := 15) bL_law_430 rfl
def dL_law_446 := dk42 (k := 16) bL_law_430 rfl
def dL_law_447 := dk29 (k := 17) bL_law_430 rfl
def dL_law_448 := dk4 (k := 18) bL_law_430 rfl
def dL_law_449 := dk96 (k := 19) bL_law_430 rfl
def dL_law_450 := dk46 (k := 20) bL_law_430 rfl
def dL_law_451 := dk42 (k := 21) bL_law_430 rfl
def dL_law_452 := dk29 (k := 22) bL_law_430 rfl
def dL_law_453 := dk5 (k := 23) bL_law_430 rfl
theorem bL_law_454 : bL cL_law 454 [96, 46, 182, 0, 36, 87, 167, 5, 253, 43, 42, 29, 4, 96, 46, 182, 0, 37, 87, 44, 42, 29, 4, 96] := bL_of (by decide +kernel)
def dL_law_454 := dk96 (k := 0) bL_law_454 rfl
def dL_law_455 := dk46 (k := 1) bL_law_454 rfl
def dL_law_456 := dk182 (k := 2) (x := 36) bL_law_454 rfl rfl
def dL_law_459 := dk87 (k := 5) bL_law_454 rfl
def dL_law_460 := dk167 (k := 6) (x := 1533) bL_law_454 rfl (by decide)
def dL_law_463 := dk43 (k := 9) bL_law_454 rfl
def dL_law_464 := dk42 (k := 10) bL_law_454 rfl
def dL_law_465 := dk29 (k := 11) bL_law_454 rfl
def dL_law_466 := dk4 (k := 12) bL_law_454 rfl
def dL_law_467 := dk96 (k := 13) bL_law_454 rfl
def dL_law_468 := dk46 (k := 14) bL_law_454 rfl
def dL_law_469 := dk182 (k := 15) (x := 37) bL_law_454 rfl rfl
def dL_law_472 := dk87 (k := 18) bL_law_454 rfl
def dL_law_473 := dk44 (k := 19) bL_law_454 rfl
def dL_law_474 := dk42 (k := 20) bL_law_454 rfl
def dL_law_475 := dk29 (k := 21) bL_law_454 rfl
def dL_law_476 := dk4 (k := 22) bL_law_454 rfl
def dL_law_477 := dk96 (k := 23) bL_law_454 rfl
theorem bL_law_478 : bL cL_law 478 [46, 182, 0, 40, 87, 167, 5, 230, 43, 42, 29, 4, 96, 46, 42, 29, 5, 96, 46, 182, 0, 41, 87, 44] := bL_of (by decide +kernel)
def dL_law_478 := dk46 (k := 0) bL_law_478 rfl
def dL_law_479 := dk182 (k := 1) (x := 40) bL_law_478 rfl rfl
def dL_law_482 := dk87 (k := 4) bL_law_478 rfl
def dL_law_483 := dk167 (k := 5) (x := 1510) bL_law_478 rfl (by decide)
def dL_law_486 := dk43 (k := 8) bL_law_478 rfl
def dL_law_487 := dk42 (k := 9) bL_law_478 rfl
def dL_law_488 := dk29 (k := 10) bL_law_478 rfl
def dL_law_489 := dk4 (k := 11) bL_law_478 rfl
def dL_law_490 := dk96 (k := 12) bL_law_478 rfl
def dL_law_491 := dk46 (k := 13) bL_law_478 rfl
def dL_law_492 := dk42 (k := 14) bL_law_478 rfl
def dL_law_493 := dk29 (k := 15) bL_law_478 rfl
def dL_law_494 := dk5 (k := 16) bL_law_478 rfl
def dL_law_495 := dk96 (k := 17) bL_law_478 rfl
def dL_law_496 := dk46 (k := 18) bL_law_478 rfl
def dL_law_497 := dk182 (k := 19) (x := 41) bL_law_478 rfl rfl
def dL_law_500 := dk87 (k := 22) bL_law_478 rfl
def dL_law_501 := dk44 (k := 23) bL_law_478 rfl
theorem bL_law_502 : bL cL_law 502 [42, 29, 4, 96, 46, 42, 29, 5, 96, 46, 182, 0, 44, 87, 167, 5, 197, 43, 42, 29, 4, 96, 46, 182, 0, 45] := bL_of (by decide +kernel)
def dL_law_502 := dk42 (k := 0) bL_law_502 rfl
def dL_law_503 := dk29 (k := 1) bL_law_502 rfl
def dL_law_504 := dk4 (k := 2) bL_law_502 rfl
def dL_law_505 := dk96 (k := 3) bL_law_502 rfl
def dL_law_506 := dk46 (k := 4) bL_law_502 rfl
def dL_law_507 := dk42 (k := 5) bL_law_502 rfl
def dL_law_508 := dk29 (k := 6) bL_law_502 rfl
def dL_law_509 := dk5 (k := 7) bL_law_502 rfl
def dL_law_510 := dk96 (k := 8) bL_law_502 rfl
def dL_law_511 := dk46 (k := 9) bL_law_502 rfl
def dL_law_512 := dk182 (k := 10) (x := 44) bL_law_502 rfl rfl
def dL_law_515 := dk87 (k := 13) bL_law_502 rfl
def dL_law_516 := dk167 (k := 14) (x := 1477) bL_law_502 rfl (by decide)
def dL_law_519 := dk43 (k := 17) bL_law_502 rfl
def dL_law_520 := dk42 (k := 18) bL_law_502 rfl
def dL_law_521 := dk29 (k := 19) bL_law_502 rfl
def dL_law_522 := dk4 (k := 20) bL_law_502 rfl
def dL_law_523 := dk96 (k := 21) bL_law_502 rfl
def dL_law_524 := dk46 (k := 22) bL_law_502 rfl
def dL_law_525 := dk182 (k := 23) (x := 45) bL_law_502 rfl rfl
theorem bL_law_528 : bL cL_law 528 [87, 44, 42, 29, 4, 96, 46, 182, 0, 48, 87, 167, 5, 174, 43, 42, 29, 4, 96, 46, 182, 0, 49, 87] := bL_of (by decide +kernel)
def dL_law_528 := dk87 (k := 0) bL_law_528 rfl
def dL_law_529 := dk44 (k := 1) bL_law_528 rfl
def dL_law_530 := dk42 (k := 2) bL_law_528 rfl
def dL_law_531 := dk29 (k := 3) bL_law_528 rfl
def dL_law_532 := dk4 (k := 4) bL_law_528 rfl
def dL_law_533 := dk96 (k := 5) bL_law_528 rfl
def dL_law_534 := dk46 (k := 6) bL_law_528 rfl
def dL_law_535 := dk182 (k := 7) (x := 48) bL_law_528 rfl rfl
def dL_law_538 := dk87 (k := 10) bL_law_528 rfl
def dL_law_539 := dk167 (k := 11) (x := 1454) bL_law_528 rfl (by decide)
def dL_law_542 := dk43 (k := 14) bL_law_528 rfl
def dL_law_543 := dk42 (k := 15) bL_law_528 rfl
def dL_law_544 := dk29 (k := 16) bL_law_528 rfl
def dL_law_545 := dk4 (k := 17) bL_law_528 rfl
def dL_law_546 := dk96 (k := 18) bL_law_528 rfl
def dL_law_547 := dk46 (k := 19) bL_law_528 rfl
def dL_law_548 := dk182 (k := 20) (x := 49) bL_law_528 rfl rfl
def dL_law_551 := dk87 (k := 23) bL_law_528 rfl
theorem bL_law_552 : bL cL_law 552 [44, 42, 29, 4, 96, 46, 182, 0, 52, 87, 167, 5, 151, 43, 182, 0, 53, 87, 44, 182, 0, 56, 87, 167, 5, 138] := bL_of (by decide +kernel)
def dL_law_552 := dk44 (k := 0) bL_law_552 rfl
def dL_law_553 := dk42 (k := 1) bL_law_552 rfl
def dL_law_554 := dk29 (k := 2) bL_law_552 rfl
def dL_law_555 := dk4 (k := 3) bL_law_552 rfl
def dL_law_556 := dk96 (k := 4) bL_law_552 rfl
def dL_law_557 := dk46 (k := 5) bL_law_552 rfl
def dL_law_558 := dk182 (k := 6) (x := 52) bL_law_552 rfl rfl
def dL_law_561 := dk87 (k := 9) bL_law_552 rfl
def dL_law_562 := dk167 (k := 10) (x := 1431) bL_law_552 rfl (by decide)
def dL_law_565 := dk43 (k := 13) bL_law_552 rfl
def dL_law_566 := dk182 (k := 14) (x := 53) bL_law_552 rfl rfl
def dL_law_569 := dk87 (k := 17) bL_law_552 rfl
def dL_law_570 := dk44 (k := 18) bL_law_552 rfl
def dL_law_571 := dk182 (k := 19) (x := 56) bL_law_552 rfl rfl
def dL_law_574 := dk87 (k := 22) bL_law_552 rfl
def dL_law_575 := dk167 (k := 23) (x := 1418) bL_law_552 rfl (by decide)
theorem bL_law_578 : bL cL_law 578 [43, 182, 0, 57, 87, 44, 182, 0, 60, 87, 167, 5, 125, 43, 42, 29, 4, 96, 46, 182, 0, 61, 87, 44] := bL_of (by decide +kernel)
def dL_law_578 := dk43 (k := 0) bL_law_578 rfl
def dL_law_579 := dk182 (k := 1) (x := 57) bL_law_578 rfl rfl
def dL_law_582 := dk87 (k := 4) bL_law_578 rfl
def dL_law_583 := dk44 (k := 5) bL_law_578 rfl
def dL_law_584 := dk182 (k := 6) (x := 60) bL_law_578 rfl rfl
def dL_law_587 := dk87 (k := 9) bL_law_578 rfl
def dL_law_588 := dk167 (k := 10) (x := 1405) bL_law_578 rfl (by decide)
def dL_law_591 := dk43 (k := 13) bL_law_578 rfl
def dL_law_592 := dk42 (k := 14) bL_law_578 rfl
def dL_law_593 := dk29 (k := 15) bL_law_578 rfl
def dL_law_594 := dk4 (k := 16) bL_law_578 rfl
def dL_law_595 := dk96 (k := 17) bL_law_578 rfl
def dL_law_596 := dk46 (k := 18) bL_law_578 rfl
def dL_law_597 := dk182 (k := 19) (x := 61) bL_law_578 rfl rfl
def dL_law_600 := dk87 (k := 22) bL_law_578 rfl
def dL_law_601 := dk44 (k := 23) bL_law_578 rfl
theorem bL_law_602 : bL cL_law 602 [42, 29, 4, 96, 46, 182, 0, 64, 87, 167, 5, 102, 43, 42, 29, 4, 96, 46, 42, 29, 5, 96, 46, 182, 0, 65] := bL_of (by decide +kernel)
def dL_law_602 := dk42 (k := 0) bL_law_602 rfl
def dL_law_603 := dk29 (k := 1) bL_law_602 rfl
def dL_law_604 := dk4 (k := 2) bL_law_602 rfl
def dL_law_605 := dk96 (k := 3) bL_law_602 rfl
def dL_law_606 := dk46 (k := 4) bL_law_602 rfl
def dL_law_607 := dk182 (k := 5) (x := 64) bL_law_602 rfl rfl
def dL_law_610 := dk87 (k := 8) bL_law_602 rfl
def dL_law_611 := dk167 (k := 9) (x := 1382) bL_law_602 rfl (by decide)
def dL_law_614 := dk43 (k := 12) bL_law_602 rfl
def dL_law_615 := dk42 (k := 13) bL_law_602 rfl
def dL_law_616 := dk29 (k := 14) bL_law_602 rfl
def dL_law_617 := dk4 (k := 15) bL_law_602 rfl
def dL_law_618 := dk96 (k := 16) bL_law_602 rfl
def dL_law_619 := dk46 (k := 17) bL_law_602 rfl
def dL_law_620 := dk42 (k := 18) bL_law_602 rfl
def dL_law_621 := dk29 (k := 19) bL_law_602 rfl
def dL_law_622 := dk5 (k := 20) bL_law_602 rfl
def dL_law_623 := dk96 (k := 21) bL_law_602 rfl
def dL_law_624 := dk46 (k := 22) bL_law_602 rfl
def dL_law_625 := dk182 (k := 23) (x := 65) bL_law_602 rfl rfl
theorem bL_law_628 : bL cL_law 628 [87, 44, 42, 29, 4, 96, 46, 42, 29, 5, 96, 46, 182, 0, 68, 87, 167, 5, 69, 43, 42, 29, 4, 96] := bL_of (by decide +kernel)
def dL_law_628 := dk87 (k := 0) bL_law_628 rfl
def dL_law_629 := dk44 (k := 1) bL_law_628 rfl
def dL_law_630 := dk42 (k := 2) bL_law_628 rfl
def dL_law_631 := dk29 (k := 3) bL_law_628 rfl
def dL_law_632 := dk4 (k := 4) bL_law_628 rfl
def dL_law_633 := dk96 (k := 5) bL_law_628 rfl
def dL_law_634 := dk46 (k := 6) bL_law_628 rfl
def dL_law_635 := dk42 (k := 7) bL_law_628 rfl
def dL_law_636 := dk29 (k := 8) bL_law_628 rfl
def dL_law_637 := dk5 (k := 9) bL_law_628 rfl
def dL_law_638 := dk96 (k := 10) bL_law_628 rfl
def dL_law_639 := dk46 (k := 11) bL_law_628 rfl
def dL_law_640 := dk182 (k := 12) (x := 68) bL_law_628 rfl rfl
def dL_law_643 := dk87 (k := 15) bL_law_628 rfl
def dL_law_644 := dk167 (k := 16) (x := 1349) bL_law_628 rfl (by decide)
def dL_law_647 := dk43 (k := 19) bL_law_628 rfl
def dL_law_648 := dk42 (k := 20) bL_law_628 rfl
def dL_law_649 := dk29 (k := 21) bL_law_628 rfl
def dL_law_650 := dk4 (k := 22) bL_law_628 rfl
def dL_law_651 := dk96 (k := 23) bL_law_628 rfl
theorem bL_law_652 : bL cL_law 652 [46, 182, 0, 69, 87, 44, 42, 29, 4, 96, 46, 182, 0, 72, 87, 167, 5, 46, 43, 182, 0, 73, 87, 44] := bL_of (by decide +kernel)
def dL_law_652 := dk46 (k := 0) bL_law_652 rfl
def dL_law_653 := dk182 (k := 1) (x := 69) bL_law_652 rfl rfl
def dL_law_656 := dk87 (k := 4) bL_law_652 rfl
def dL_law_657 := dk44 (k := 5) bL_law_652 rfl
def dL_law_658 := dk42 (k := 6) bL_law_652 rfl
def dL_law_659 := dk29 (k := 7) bL_law_652 rfl
def dL_law_660 := dk4 (k := 8) bL_law_652 rfl
def dL_law_661 := dk96 (k := 9) bL_law_652 rfl
def dL_law_662 := dk46 (k := 10) bL_law_652 rfl
def dL_law_663 := dk182 (k := 11) (x := 72) bL_law_652 rfl rfl
def dL_law_666 := dk87 (k := 14) bL_law_652 rfl
def dL_law_667 := dk167 (k := 15) (x := 1326) bL_law_652 rfl (by decide)
def dL_law_670 := dk43 (k := 18) bL_law_652 rfl
def dL_law_671 := dk182 (k := 19) (x := 73) bL_law_652 rfl rfl
def dL_law_674 := dk87 (k := 22) bL_law_652 rfl
def dL_law_675 := dk44 (k := 23) bL_law_652 rfl
theorem bL_law_676 : bL cL_law 676 [182, 0, 76, 87, 167, 5, 33, 43, 182, 0, 77, 87, 44, 182, 0, 80, 87, 167, 5, 20, 43, 42, 29, 4] := bL_of (by decide +kernel)
def dL_law_676 := dk182 (k := 0) (x := 76) bL_law_676 rfl rfl
def dL_law_679 := dk87 (k := 3) bL_law_676 rfl
def dL_law_680 := dk167 (k := 4) (x := 1313) bL_law_676 rfl (by decide)
def dL_law_683 := dk43 (k := 7) bL_law_676 rfl
def dL_law_684 := dk182 (k := 8) (x := 77) bL_law_676 rfl rfl
def dL_law_687 := dk87 (k := 11) bL_law_676 rfl
def dL_law_688 := dk44 (k := 12) bL_law_676 rfl
def dL_law_689 := dk182 (k := 13) (x := 80) bL_law_676 rfl rfl
def dL_law_692 := dk87 (k := 16) bL_law_676 rfl
def dL_law_693 := dk167 (k := 17) (x := 1300) bL_law_676 rfl (by decide)
def dL_law_696 := dk43 (k := 20) bL_law_676 rfl
def dL_law_697 := dk42 (k := 21) bL_law_676 rfl
def dL_law_698 := dk29 (k := 22) bL_law_676 rfl
def dL_law_699 := dk4 (k := 23) bL_law_676 rfl
theorem bL_law_700 : bL cL_law 700 [96, 46, 182, 0, 81, 87, 44, 42, 29, 4, 96, 46, 182, 0, 84, 87, 167, 4, 253, 43, 42, 29, 4, 96] := bL_of (by decide +kernel)
def dL_law_700 := dk96 (k := 0) bL_law_700 rfl
def dL_law_701 := dk46 (k := 1) bL_law_700 rfl
def dL_law_702 := dk182 (k := 2) (x := 81) bL_law_700 rfl rfl
def dL_law_705 := dk87 (k := 5) bL_law_700 rfl
def dL_law_706 := dk44 (k := 6) bL_law_700 rfl
def dL_law_707 := dk42 (k := 7) bL_law_700 rfl
def dL_law_708 := dk29 (k := 8) bL_law_700 rfl
def dL_law_709 := dk4 (k := 9) bL_law_700 rfl
def dL_law_710 := dk96 (k := 10) bL_law_700 rfl
def dL_law_711 := dk46 (k := 11) bL_law_700 rfl
def dL_law_712 := dk182 (k := 12) (x := 84) bL_law_700 rfl rfl
def dL_law_715 := dk87 (k := 15) bL_law_700 rfl
def dL_law_716 := dk167 (k := 16) (x := 1277) bL_law_700 rfl (by decide)
def dL_law_719 := dk43 (k := 19) bL_law_700 rfl
def dL_law_720 := dk42 (k := 20) bL_law_700 rfl
def dL_law_721 := dk29 (k := 21) bL_law_700 rfl
def dL_law_722 := dk4 (k := 22) bL_law_700 rfl
def dL_law_723 := dk96 (k := 23) bL_law_700 rfl
theorem bL_law_724 : bL cL_law 724 [46, 182, 0, 85, 87, 44, 42, 29, 4, 96, 46, 182, 0, 88, 87, 167, 4, 230, 43, 182, 0, 89, 87, 44] := bL_of (by decide +kernel)
def dL_law_724 := dk46 (k := 0) bL_law_724 rfl
def dL_law_725 := dk182 (k := 1) (x := 85) bL_law_724 rfl rfl
def dL_law_728 := dk87 (k := 4) bL_law_724 rfl
def dL_law_729 := dk44 (k := 5) bL_law_724 rfl
def dL_law_730 := dk42 (k := 6) bL_law_724 rfl
def dL_law_731 := dk29 (k := 7) bL_law_724 rfl
def dL_law_732 := dk4 (k := 8) bL_law_724 rfl
def dL_law_733 := dk96 (k := 9) bL_law_724 rfl
def dL_law_734 := dk46 (k := 10) bL_law_724 rfl
def dL_law_735 := dk182 (k := 11) (x := 88) bL_law_724 rfl rfl
def dL_law_738 := dk87 (k := 14) bL_law_724 rfl
def dL_law_739 := dk167 (k := 15) (x := 1254) bL_law_724 rfl (by decide)
def dL_law_742 := dk43 (k := 18) bL_law_724 rfl
def dL_law_743 := dk182 (k := 19) (x := 89) bL_law_724 rfl rfl
def dL_law_746 := dk87 (k := 22) bL_law_724 rfl
def dL_law_747 := dk44 (k := 23) bL_law_724 rfl
theorem bL_law_748 : bL cL_law 748 [182, 0, 92, 87, 167, 4, 217, 43, 182, 0, 93, 87, 44, 182, 0, 96, 87, 167, 4, 204, 43, 182, 0, 97] := bL_of (by decide +kernel)
def dL_law_748 := dk182 (k := 0) (x := 92) bL_law_748 rfl rfl
def dL_law_751 := dk87 (k := 3) bL_law_748 rfl
def dL_law_752 := dk167 (k := 4) (x := 1241) bL_law_748 rfl (by decide)
def dL_law_755 := dk43 (k := 7) bL_law_748 rfl
def dL_law_756 := dk182 (k := 8) (x := 93) bL_law_748 rfl rfl
def dL_law_759 := dk87 (k := 11) bL_law_748 rfl
def dL_law_760 := dk44 (k := 12) bL_law_748 rfl
def dL_law_761 := dk182 (k := 13) (x := 96) bL_law_748 rfl rfl
def dL_law_764 := dk87 (k := 16) bL_law_748 rfl
def dL_law_765 := dk167 (k := 17) (x := 1228) bL_law_748 rfl (by decide)
def dL_law_768 := dk43 (k := 20) bL_law_748 rfl
def dL_law_769 := dk182 (k := 21) (x := 97) bL_law_748 rfl rfl
theorem bL_law_772 : bL cL_law 772 [87, 44, 182, 0, 100, 87, 167, 4, 191, 43, 42, 29, 4, 96, 46, 182, 0, 101, 87, 44, 42, 29, 4, 96] := bL_of (by decide +kernel)
def dL_law_772 := dk87 (k := 0) bL_law_772 rfl
def dL_law_773 := dk44 (k := 1) bL_law_772 rfl
def dL_law_774 := dk182 (k := 2) (x := 100) bL_law_772 rfl rfl
def dL_law_777 := dk87 (k := 5) bL_law_772 rfl
def dL_law_778 := dk167 (k := 6) (x := 1215) bL_law_772 rfl (by decide)
def dL_law_781 := dk43 (k := 9) bL_law_772 rfl
def dL_law_782 := dk42 (k := 10) bL_law_772 rfl
def dL_law_783 := dk29 (k := 11) bL_law_772 rfl
def dL_law_784 := dk4 (k := 12) bL_law_772 rfl
def dL_law_785 := dk96 (k := 13) bL_law_772 rfl
def dL_law_786 := dk46 (k := 14) bL_law_772 rfl
def dL_law_787 := dk182 (k := 15) (x := 101) bL_law_772 rfl rfl
def dL_law_790 := dk87 (k := 18) bL_law_772 rfl
def dL_law_791 := dk44 (k := 19) bL_law_772 rfl
def dL_law_792 := dk42 (k := 20) bL_law_772 rfl
def dL_law_793 := dk29 (k := 21) bL_law_772 rfl
def dL_law_794 := dk4 (k := 22) bL_law_772 rfl
def dL_law_795 := dk96 (k := 23) bL_law_772 rfl
theorem bL_law_796 : bL cL_law 796 [46, 182, 0, 104, 87, 167, 4, 168, 43, 42, 29, 4, 96, 46, 182, 0, 105, 87, 44, 42, 29, 4, 96, 46] := bL_of (by decide +kernel)
def dL_law_796 := dk46 (k := 0) bL_law_796 rfl
def dL_law_797 := dk182 (k := 1) (x := 104) bL_law_796 rfl rfl
def dL_law_800 := dk87 (k := 4) bL_law_796 rfl
def dL_law_801 := dk167 (k := 5) (x := 1192) bL_law_796 rfl (by decide)
def dL_law_804 := dk43 (k := 8) bL_law_796 rfl
def dL_law_805 := dk42 (k := 9) bL_law_796 rfl
def dL_law_806 := dk29 (k := 10) bL_law_796 rfl
def dL_law_807 := dk4 (k := 11) bL_law_796 rfl
def dL_law_808 := dk96 (k := 12) bL_law_796 rfl
def dL_law_809 := dk46 (k := 13) bL_law_796 rfl
def dL_law_810 := dk182 (k := 14) (x := 105) bL_law_796 rfl rfl
def dL_law_813 := dk87 (k := 17) bL_law_796 rfl
def dL_law_814 := dk44 (k := 18) bL_law_796 rfl
def dL_law_815 := dk42 (k := 19) bL_law_796 rfl
def dL_law_816 := dk29 (k := 20) bL_law_796 rfl
def dL_law_817 := dk4 (k := 21) bL_law_796 rfl
def dL_law_818 := dk96 (k := 22) bL_law_796 rfl
def dL_law_819 := dk46 (k := 23) bL_law_796 rfl
theorem bL_law_820 : bL cL_law 820 [182, 0, 108, 87, 167, 4, 145, 43, 182, 0, 109, 87, 44, 182, 0, 112, 87, 167, 4, 132, 43, 182, 0, 113] := bL_of (by decide +kernel)
def dL_law_820 := dk182 (k := 0) (x := 108) bL_law_820 rfl rfl
def dL_law_823 := dk87 (k := 3) bL_law_820 rfl
def dL_law_824 := dk167 (k := 4) (x := 1169) bL_law_820 rfl (by decide)
def dL_law_827 := dk43 (k := 7) bL_law_820 rfl
def dL_law_828 := dk182 (k := 8) (x := 109) bL_law_820 rfl rfl
def dL_law_831 := dk87 (k := 11) bL_law_820 rfl
def dL_law_832 := dk44 (k := 12) bL_law_820 rfl
def dL_law_833 := dk182 (k := 13) (x := 112) bL_law_820 rfl rfl
def dL_law_836 := dk87 (k := 16) bL_law_820 rfl
def dL_law_837 := dk167 (k := 17) (x := 1156) bL_law_820 rfl (by decide)
def dL_law_840 := dk43 (k := 20) bL_law_820 rfl
def dL_law_841 := dk182 (k := 21) (x := 113) bL_law_820 rfl rfl
theorem bL_law_844 : bL cL_law 844 [87, 44, 182, 0, 116, 87, 167, 4, 119, 43, 42, 29, 4, 96, 46, 182, 0, 117, 87, 44, 42, 29, 4, 96] := bL_of (by decide +kernel)
def dL_law_844 := dk87 (k := 0) bL_law_844 rfl
def dL_law_845 := dk44 (k := 1) bL_law_844 rfl
def dL_law_846 := dk182 (k := 2) (x := 116) bL_law_844 rfl rfl
def dL_law_849 := dk87 (k := 5) bL_law_844 rfl
def dL_law_850 := dk167 (k := 6) (x := 1143) bL_law_844 rfl (by decide)
def dL_law_853 := dk43 (k := 9) bL_law_844 rfl
def dL_law_854 := dk42 (k := 10) bL_law_844 rfl
def dL_law_855 := dk29 (k := 11) bL_law_844 rfl
def dL_law_856 := dk4 (k := 12) bL_law_844 rfl
def dL_law_857 := dk96 (k := 13) bL_law_844 rfl
def dL_law_858 := dk46 (k := 14) bL_law_844 rfl
def dL_law_859 := dk182 (k := 15) (x := 117) bL_law_844 rfl rfl
def dL_law_862 := dk87 (k := 18) bL_law_844 rfl
def dL_law_863 := dk44 (k := 19) bL_law_844 rfl
def dL_law_864 := dk42 (k := 20) bL_law_844 rfl
def dL_law_865 := dk29 (k := 21) bL_law_844 rfl
def dL_law_866 := dk4 (k := 22) bL_law_844 rfl
def dL_law_867 := dk96 (k := 23) bL_law_844 rfl
theorem bL_law_868 : bL cL_law 868 [46, 182, 0, 120, 87, 167, 4, 96, 43, 182, 0, 121, 87, 44, 182, 0, 124, 87, 167, 4, 83, 43, 42, 29] := bL_of (by decide +kernel)
def dL_law_868 := dk46 (k := 0) bL_law_868 rfl
def dL_law_869 := dk182 (k := 1) (x := 120) bL_law_868 rfl rfl
def dL_law_872 := dk87 (k := 4) bL_law_868 rfl
def dL_law_873 := dk167 (k := 5) (x := 1120) bL_law_868 rfl (by decide)
def dL_law_876 := dk43 (k := 8) bL_law_868 rfl
def dL_law_877 := dk182 (k := 9) (x := 121) bL_law_868 rfl rfl
def dL_law_880 := dk87 (k := 12) bL_law_868 rfl
def dL_law_881 := dk44 (k := 13) bL_law_868 rfl
def dL_law_882 := dk182 (k := 14) (x := 124) bL_law_868 rfl rfl
def dL_law_885 := dk87 (k := 17) bL_law_868 rfl
def dL_law_886 := dk167 (k := 18) (x := 1107) bL_law_868 rfl (by decide)
def dL_law_889 := dk43 (k := 21) bL_law_868 rfl
def dL_law_890 := dk42 (k := 22) bL_law_868 rfl
def dL_law_891 := dk29 (k := 23) bL_law_868 rfl
theorem bL_law_892 : bL cL_law 892 [4, 96, 46, 42, 29, 5, 96, 46, 182, 0, 125, 87, 44, 42, 29, 4, 96, 46, 42, 29, 5, 96, 46, 182, 0, 128] := bL_of (by decide +kernel)
def dL_law_892 := dk4 (k := 0) bL_law_892 rfl
def dL_law_893 := dk96 (k := 1) bL_law_892 rfl
def dL_law_894 := dk46 (k := 2) bL_law_892 rfl
def dL_law_895 := dk42 (k := 3) bL_law_892 rfl
def dL_law_896 := dk29 (k := 4) bL_law_892 rfl
def dL_law_897 := dk5 (k := 5) bL_law_892 rfl
def dL_law_898 := dk96 (k := 6) bL_law_892 rfl
def dL_law_899 := dk46 (k := 7) bL_law_892 rfl
def dL_law_900 := dk182 (k := 8) (x := 125) bL_law_892 rfl rfl
def dL_law_903 := dk87 (k := 11) bL_law_892 rfl
def dL_law_904 := dk44 (k := 12) bL_law_892 rfl
def dL_law_905 := dk42 (k := 13) bL_law_892 rfl
def dL_law_906 := dk29 (k := 14) bL_law_892 rfl
def dL_law_907 := dk4 (k := 15) bL_law_892 rfl
def dL_law_908 := dk96 (k := 16) bL_law_892 rfl
def dL_law_909 := dk46 (k := 17) bL_law_892 rfl
def dL_law_910 := dk42 (k := 18) bL_law_892 rfl
def dL_law_911 := dk29 (k := 19) bL_law_892 rfl
def dL_law_912 := dk5 (k := 20) bL_law_892 rfl
def dL_law_913 := dk96 (k := 21) bL_law_892 rfl
def dL_law_914 := dk46 (k := 22) bL_law_892 rfl
def dL_law_915 := dk182 (k := 23) (x := 128) bL_law_892 rfl rfl
theorem bL_law_918 : bL cL_law 918 [87, 167, 4, 50, 43, 42, 29, 4, 96, 46, 42, 29, 5, 96, 46, 182, 0, 129, 87, 44, 42, 29, 4, 96] := bL_of (by decide +kernel)
def dL_law_918 := dk87 (k := 0) bL_law_918 rfl
def dL_law_919 := dk167 (k := 1) (x := 1074) bL_law_918 rfl (by decide)
def dL_law_922 := dk43 (k := 4) bL_law_918 rfl
def dL_law_923 := dk42 (k := 5) bL_law_918 rfl
def dL_law_924 := dk29 (k := 6) bL_law_918 rfl
def dL_law_925 := dk4 (k := 7) bL_law_918 rfl
def dL_law_926 := dk96 (k := 8) bL_law_918 rfl
def dL_law_927 := dk46 (k := 9) bL_law_918 rfl
def dL_law_928 := dk42 (k := 10) bL_law_918 rfl
def dL_law_929 := dk29 (k := 11) bL_law_918 rfl
def dL_law_930 := dk5 (k := 12) bL_law_918 rfl
def dL_law_931 := dk96 (k := 13) bL_law_918 rfl
def dL_law_932 := dk46 (k := 14) bL_law_918 rfl
def dL_law_933 := dk182 (k := 15) (x := 129) bL_law_918 rfl rfl
def dL_law_936 := dk87 (k := 18) bL_law_918 rfl
def dL_law_937 := dk44 (k := 19) bL_law_918 rfl
def dL_law_938 := dk42 (k := 20) bL_law_918 rfl
def dL_law_939 := dk29 (k := 21) bL_law_918 rfl
def dL_law_940 := dk4 (k := 22) bL_law_918 rfl
def dL_law_941 := dk96 (k := 23) bL_law_918 rfl
theorem bL_law_942 : bL cL_law 942 [46, 42, 29, 5, 96, 46, 182, 0, 132, 87, 167, 4, 17, 43, 42, 29, 4, 96, 46, 42, 29, 5, 96, 46] := bL_of (by decide +kernel)
def dL_law_942 := dk46 (k := 0) bL_law_942 rfl
def dL_law_943 := dk42 (k := 1) bL_law_942 rfl
def dL_law_944 := dk29 (k := 2) bL_law_942 rfl
def dL_law_945 := dk5 (k := 3) bL_law_942 rfl
def dL_law_946 := dk96 (k := 4) bL_law_942 rfl
def dL_law_947 := dk46 (k := 5) bL_law_942 rfl
def dL_law_948 := dk182 (k := 6) (x := 132) bL_law_942 rfl rfl
def dL_law_951 := dk87 (k := 9) bL_law_942 rfl
def dL_law_952 := dk167 (k := 10) (x := 1041) bL_law_942 rfl (by decide)
def dL_law_955 := dk43 (k := 13) bL_law_942 rfl
def dL_law_956 := dk42 (k := 14) bL_law_942 rfl
def dL_law_957 := dk29 (k := 15) bL_law_942 rfl
def dL_law_958 := dk4 (k := 16) bL_law_942 rfl
def dL_law_959 := dk96 (k := 17) bL_law_942 rfl
def dL_law_960 := dk46 (k := 18) bL_law_942 rfl
def dL_law_961 := dk42 (k := 19) bL_law_942 rfl
def dL_law_962 := dk29 (k := 20) bL_law_942 rfl
def dL_law_963 := dk5 (k := 21) bL_law_942 rfl
def dL_law_964 := dk96 (k := 22) bL_law_942 rfl
def dL_law_965 := dk46 (k := 23) bL_law_942 rfl
theorem bL_law_966 : bL cL_law 966 [182, 0, 133, 87, 44, 42, 29, 4, 96, 46, 42, 29, 5, 96, 46, 182, 0, 136, 87, 167, 3, 240, 43, 42] := bL_of (by decide +kernel)
def dL_law_966 := dk182 (k := 0) (x := 133) bL_law_966 rfl rfl
def dL_law_969 := dk87 (k := 3) bL_law_966 rfl
def dL_law_970 := dk44 (k := 4) bL_law_966 rfl
def dL_law_971 := dk42 (k := 5) bL_law_966 rfl
def dL_law_972 := dk29 (k := 6) bL_law_966 rfl
def dL_law_973 := dk4 (k := 7) bL_law_966 rfl
def dL_law_974 := dk96 (k := 8) bL_law_966 rfl
def dL_law_975 := dk46 (k := 9) bL_law_966 rfl
def dL_law_976 := dk42 (k := 10) bL_law_966 rfl
def dL_law_977 := dk29 (k := 11) bL_law_966 rfl
def dL_law_978 := dk5 (k := 12) bL_law_966 rfl
def dL_law_979 := dk96 (k := 13) bL_law_966 rfl
def dL_law_980 := dk46 (k := 14) bL_law_966 rfl
def dL_law_981 := dk182 (k := 15) (x := 136) bL_law_966 rfl rfl
def dL_law_984 := dk87 (k := 18) bL_law_966 rfl
def dL_law_985 := dk167 (k := 19) (x := 1008) bL_law_966 rfl (by decide)
def dL_law_988 := dk43 (k := 22) bL_law_966 rfl
def dL_law_989 := dk42 (k := 23) bL_law_966 rfl
theorem bL_law_990 : bL cL_law 990 [29, 4, 96, 46, 42, 29, 5, 96, 46, 42, 29, 6, 96, 46, 182, 0, 137, 87, 44, 42, 29, 4, 96, 46] := bL_of (by decide +kernel)
def dL_law_990 := dk29 (k := 0) bL_law_990 rfl
def dL_law_991 := dk4 (k := 1) bL_law_990 rfl
def dL_law_992 := dk96 (k := 2) bL_law_990 rfl
def dL_law_993 := dk46 (k := 3) bL_law_990 rfl
def dL_law_994 := dk42 (k := 4) bL_law_990 rfl
def dL_law_995 := dk29 (k := 5) bL_law_990 rfl
def dL_law_996 := dk5 (k := 6) bL_law_990 rfl
def dL_law_997 := dk96 (k := 7) bL_law_990 rfl
def dL_law_998 := dk46 (k := 8) bL_law_990 rfl
def dL_law_999 := dk42 (k := 9) bL_law_990 rfl
def dL_law_1000 := dk29 (k := 10) bL_law_990 rfl
def dL_law_1001 := dk6 (k := 11) bL_law_990 rfl
def dL_law_1002 := dk96 (k := 12) bL_law_990 rfl
def dL_law_1003 := dk46 (k := 13) bL_law_990 rfl
def dL_law_1004 := dk182 (k := 14) (x := 137) bL_law_990 rfl rfl
def dL_law_1007 := dk87 (k := 17) bL_law_990 rfl
def dL_law_1008 := dk44 (k := 18) bL_law_990 rfl
def dL_law_1009 := dk42 (k := 19) bL_law_990 rfl
def dL_law_1010 := dk29 (k := 20) bL_law_990 rfl
def dL_law_1011 := dk4 (k := 21) bL_law_990 rfl
def dL_law_1012 := dk96 (k := 22) bL_law_990 rfl
def dL_law_1013 := dk46 (k := 23) bL_law_990 rfl
theorem bL_law_1014 : bL cL_law 1014 [42, 29, 5, 96, 46, 42, 29, 6, 96, 46, 182, 0, 141, 87, 167, 3, 197, 43, 42, 29, 4, 96, 46, 42] := bL_of (by decide +kernel)
def dL_law_1014 := dk42 (k := 0) bL_law_1014 rfl
def dL_law_1015 := dk29 (k := 1) bL_law_1014 rfl
def dL_law_1016 := dk5 (k := 2) bL_law_1014 rfl
def dL_law_1017 := dk96 (k := 3) bL_law_1014 rfl
def dL_law_1018 := dk46 (k := 4) bL_law_1014 rfl
def dL_law_1019 := dk42 (k := 5) bL_law_1014 rfl
def dL_law_1020 := dk29 (k := 6) bL_law_1014 rfl
def dL_law_1021 := dk6 (k := 7) bL_law_1014 rfl
def dL_law_1022 := dk96 (k := 8) bL_law_1014 rfl
def dL_law_1023 := dk46 (k := 9) bL_law_1014 rfl
def dL_law_1024 := dk182 (k := 10) (x := 141) bL_law_1014 rfl rfl
def dL_law_1027 := dk87 (k := 13) bL_law_1014 rfl
def dL_law_1028 := dk167 (k := 14) (x := 965) bL_law_1014 rfl (by decide)
def dL_law_1031 := dk43 (k := 17) bL_law_1014 rfl
def dL_law_1032 := dk42 (k := 18) bL_law_1014 rfl
def dL_law_1033 := dk29 (k := 19) bL_law_1014 rfl
def dL_law_1034 := dk4 (k := 20) bL_law_1014 rfl
def dL_law_1035 := dk96 (k := 21) bL_law_1014 rfl
def dL_law_1036 := dk46 (k := 22) bL_law_1014 rfl
def dL_law_1037 := dk42 (k := 23) bL_law_1014 rfl
theorem bL_law_1038 : bL cL_law 1038 [29, 5, 96, 46, 42, 29, 6, 96, 46, 182, 0, 142, 87, 44, 42, 29, 4, 96, 46, 42, 29, 5, 96, 46] := bL_of (by decide +kernel)
def dL_law_1038 := dk29 (k := 0) bL_law_1038 rfl
def dL_law_1039 := dk5 (k := 1) bL_law_1038 rfl
def dL_law_1040 := dk96 (k := 2) bL_law_1038 rfl
def dL_law_1041 := dk46 (k := 3) bL_law_1038 rfl
def dL_law_1042 := dk42 (k := 4) bL_law_1038 rfl
def dL_law_1043 := dk29 (k := 5) bL_law_1038 rfl
def dL_law_1044 := dk6 (k := 6) bL_law_1038 rfl
def dL_law_1045 := dk96 (k := 7) bL_law_1038 rfl
def dL_law_1046 := dk46 (k := 8) bL_law_1038 rfl
def dL_law_1047 := dk182 (k := 9) (x := 142) bL_law_1038 rfl rfl
def dL_law_1050 := dk87 (k := 12) bL_law_1038 rfl
def dL_law_1051 := dk44 (k := 13) bL_law_1038 rfl
def dL_law_1052 := dk42 (k := 14) bL_law_1038 rfl
def dL_law_1053 := dk29 (k := 15) bL_law_1038 rfl
def dL_law_1054 := dk4 (k := 16) bL_law_1038 rfl
def dL_law_1055 := dk96 (k := 17) bL_law_1038 rfl
def dL_law_1056 := dk46 (k := 18) bL_law_1038 rfl
def dL_law_1057 := dk42 (k := 19) bL_law_1038 rfl
def dL_law_1058 := dk29 (k := 20) bL_law_1038 rfl
def dL_law_1059 := dk5 (k := 21) bL_law_1038 rfl
def dL_law_1060 := dk96 (k := 22) bL_law_1038 rfl
def dL_law_1061 := dk46 (k := 23) bL_law_1038 rfl
theorem bL_law_1062 : bL cL_law 1062 [42, 29, 6, 96, 46, 182, 0, 145, 87, 167, 3, 154, 43, 42, 29, 4, 96, 46, 182, 0, 146, 87, 44, 42] := bL_of (by decide +kernel)
def dL_law_1062 := dk42 (k := 0) bL_law_1062 rfl
def dL_law_1063 := dk29 (k := 1) bL_law_1062 rfl
def dL_law_1064 := dk6 (k := 2) bL_law_1062 rfl
def dL_law_1065 := dk96 (k := 3) bL_law_1062 rfl
def dL_law_1066 := dk46 (k := 4) bL_law_1062 rfl
def dL_law_1067 := dk182 (k := 5) (x := 145) bL_law_1062 rfl rfl
def dL_law_1070 := dk87 (k := 8) bL_law_1062 rfl
def dL_law_1071 := dk167 (k := 9) (x := 922) bL_law_1062 rfl (by decide)
def dL_law_1074 := dk43 (k := 12) bL_law_1062 rfl
def dL_law_1075 := dk42 (k := 13) bL_law_1062 rfl
def dL_law_1076 := dk29 (k := 14) bL_law_1062 rfl
def dL_law_1077 := dk4 (k := 15) bL_law_1062 rfl
def dL_law_1078 := dk96 (k := 16) bL_law_1062 rfl
def dL_law_1079 := dk46 (k := 17) bL_law_1062 rfl
def dL_law_1080 := dk182 (k := 18) (x := 146) bL_law_1062 rfl rfl
def dL_law_1083 := dk87 (k := 21) bL_law_1062 rfl
def dL_law_1084 := dk44 (k := 22) bL_law_1062 rfl
def dL_law_1085 := dk42 (k := 23) bL_law_1062 rfl
theorem bL_law_1086 : bL cL_law 1086 [29, 4, 96, 46, 182, 0, 149, 87, 167, 3, 131, 43, 42, 29, 4, 96, 46, 182, 0, 150, 87, 44, 42, 29] := bL_of (by decide +kernel)
def dL_law_1086 := dk29 (k := 0) bL_law_1086 rfl
def dL_law_1087 := dk4 (k := 1) bL_law_1086 rfl
def dL_law_1088 := dk96 (k := 2) bL_law_1086 rfl
def dL_law_1089 := dk46 (k := 3) bL_law_1086 rfl
def dL_law_1090 := dk182 (k := 4) (x := 149) bL_law_1086 rfl rfl
def dL_law_1093 := dk87 (k := 7) bL_law_1086 rfl
def dL_law_1094 := dk167 (k := 8) (x := 899) bL_law_1086 rfl (by decide)
def dL_law_1097 := dk43 (k := 11) bL_law_1086 rfl
def dL_law_1098 := dk42 (k := 12) bL_law_1086 rfl
def dL_law_1099 := dk29 (k := 13) bL_law_1086 rfl
def dL_law_1100 := dk4 (k := 14) bL_law_1086 rfl
def dL_law_1101 := dk96 (k := 15) bL_law_1086 rfl
def dL_law_1102 := dk46 (k := 16) bL_law_1086 rfl
def dL_law_1103 := dk182 (k := 17) (x := 150) bL_law_1086 rfl rfl
def dL_law_1106 := dk87 (k := 20) bL_law_1086 rfl
def dL_law_1107 := dk44 (k := 21) bL_law_1086 rfl
def dL_law_1108 := dk42 (k := 22) bL_law_1086 rfl
def dL_law_1109 := dk29 (k := 23) bL_law_1086 rfl
theorem bL_law_1110 : bL cL_law 1110 [4, 96, 46, 182, 0, 153, 87, 167, 3, 108, 43, 182, 0, 154, 87, 44, 182, 0, 157, 87, 167, 3, 95, 43] := bL_of (by decide +kernel)
def dL_law_1110 := dk4 (k := 0) bL_law_1110 rfl
def dL_law_1111 := dk96 (k := 1) bL_law_1110 rfl
def dL_law_1112 := dk46 (k := 2) bL_law_1110 rfl
def dL_law_1113 := dk182 (k := 3) (x := 153) bL_law_1110 rfl rfl
def dL_law_1116 := dk87 (k := 6) bL_law_1110 rfl
def dL_law_1117 := dk167 (k := 7) (x := 876) bL_law_1110 rfl (by decide)
def dL_law_1120 := dk43 (k := 10) bL_law_1110 rfl
def dL_law_1121 := dk182 (k := 11) (x := 154) bL_law_1110 rfl rfl
def dL_law_1124 := dk87 (k := 14) bL_law_1110 rfl
def dL_law_1125 := dk44 (k := 15) bL_law_1110 rfl
def dL_law_1126 := dk182 (k := 16) (x := 157) bL_law_1110 rfl rfl
def dL_law_1129 := dk87 (k := 19) bL_law_1110 rfl
def dL_law_1130 := dk167 (k := 20) (x := 863) bL_law_1110 rfl (by decide)
def dL_law_1133 := dk43 (k := 23) bL_law_1110 rfl
theorem bL_law_1134 : bL cL_law 1134 [182, 0, 158, 87, 44, 182, 0, 161, 87, 167, 3, 82, 43, 42, 29, 4, 96, 46, 182, 0, 162, 87, 44, 42] := bL_of (by decide +kernel)
def dL_law_1134 := dk182 (k := 0) (x := 158) bL_law_1134 rfl rfl
def dL_law_1137 := dk87 (k := 3) bL_law_1134 rfl
def dL_law_1138 := dk44 (k := 4) bL_law_1134 rfl
def dL_law_1139 := dk182 (k := 5) (x := 161) bL_law_1134 rfl rfl
def dL_law_1142 := dk87 (k := 8) bL_law_1134 rfl
def dL_law_1143 := dk167 (k := 9) (x := 850) bL_law_1134 rfl (by decide)
def dL_law_1146 := dk43 (k := 12) bL_law_1134 rfl
def dL_law_1147 := dk42 (k := 13) bL_law_1134 rfl
def dL_law_1148 := dk29 (k := 14) bL_law_1134 rfl
def dL_law_1149 := dk4 (k := 15) bL_law_1134 rfl
def dL_law_1150 := dk96 (k := 16) bL_law_1134 rfl
def dL_law_1151 := dk46 (k := 17) bL_law_1134 rfl
def dL_law_1152 := dk182 (k := 18) (x := 162) bL_law_1134 rfl rfl
def dL_law_1155 := dk87 (k := 21) bL_law_1134 rfl
def dL_law_1156 := dk44 (k := 22) bL_law_1134 rfl
def dL_law_1157 := dk42 (k := 23) bL_law_1134 rfl
theorem bL_law_1158 : bL cL_law 1158 [29, 4, 96, 46, 182, 0, 165, 87, 167, 3, 59, 43, 182, 0, 166, 87, 44, 182, 0, 169, 87, 167, 3, 46] := bL_of (by decide +kernel)
def dL_law_1158 := dk29 (k := 0) bL_law_1158 rfl
def dL_law_1159 := dk4 (k := 1) bL_law_1158 rfl
def dL_law_1160 := dk96 (k := 2) bL_law_1158 rfl
def dL_law_1161 := dk46 (k := 3) bL_law_1158 rfl
def dL_law_1162 := dk182 (k := 4) (x := 165) bL_law_1158 rfl rfl
def dL_law_1165 := dk87 (k := 7) bL_law_1158 rfl
def dL_law_1166 := dk167 (k := 8) (x := 827) bL_law_1158 rfl (by decide)
def dL_law_1169 := dk43 (k := 11) bL_law_1158 rfl
def dL_law_1170 := dk182 (k := 12) (x := 166) bL_law_1158 rfl rfl
def dL_law_1173 := dk87 (k := 15) bL_law_1158 rfl
def dL_law_1174 := dk44 (k := 16) bL_law_1158 rfl
def dL_law_1175 := dk182 (k := 17) (x := 169) bL_law_1158 rfl rfl
def dL_law_1178 := dk87 (k := 20) bL_law_1158 rfl
def dL_law_1179 := dk167 (k := 21) (x := 814) bL_law_1158 rfl (by decide)
theorem bL_law_1182 : bL cL_law 1182 [43, 42, 29, 4, 96, 46, 42, 29, 5, 96, 46, 182, 0, 170, 87, 44, 42, 29, 4, 96, 46, 42, 29, 5] := bL_of (by decide +kernel)
def dL_law_1182 := dk43 (k := 0) bL_law_1182 rfl
def dL_law_1183 := dk42 (k := 1) bL_law_1182 rfl
def dL_law_1184 := dk29 (k := 2) bL_law_1182 rfl
def dL_law_1185 := dk4 (k := 3) bL_law_1182 rfl
def dL_law_1186 := dk96 (k := 4) bL_law_1182 rfl
def dL_law_1187 := dk46 (k := 5) bL_law_1182 rfl
def dL_law_1188 := dk42 (k := 6) bL_law_1182 rfl
def dL_law_1189 := dk29 (k := 7) bL_law_1182 rfl
def dL_law_1190 := dk5 (k := 8) bL_law_1182 rfl
def dL_law_1191 := dk96 (k := 9) bL_law_1182 rfl
def dL_law_1192 := dk46 (k := 10) bL_law_1182 rfl
def dL_law_1193 := dk182 (k := 11) (x := 170) bL_law_1182 rfl rfl
def dL_law_1196 := dk87 (k := 14) bL_law_1182 rfl
def dL_law_1197 := dk44 (k := 15) bL_law_1182 rfl
def dL_law_1198 := dk42 (k := 16) bL_law_1182 rfl
def dL_law_1199 := dk29 (k := 17) bL_law_1182 rfl
def dL_law_1200 := dk4 (k := 18) bL_law_1182 rfl
def dL_law_1201 := dk96 (k := 19) bL_law_1182 rfl
def dL_law_1202 := dk46 (k := 20) bL_law_1182 rfl
def dL_law_1203 := dk42 (k := 21) bL_law_1182 rfl
def dL_law_1204 := dk29 (k := 22) bL_law_1182 rfl
def dL_law_1205 := dk5 (k := 23) bL_law_1182 rfl
theorem bL_law_1206 : bL cL_law 1206 [96, 46, 182, 0, 173, 87, 167, 3, 13, 43, 182, 0, 174, 87, 44, 182, 0, 177, 87, 167, 3, 0, 43, 182, 0, 178] := bL_of (by decide +kernel)
def dL_law_1206 := dk96 (k := 0) bL_law_1206 rfl
def dL_law_1207 := dk46 (k := 1) bL_law_1206 rfl
def dL_law_1208 := dk182 (k := 2) (x := 173) bL_law_1206 rfl rfl
def dL_law_1211 := dk87 (k := 5) bL_law_1206 rfl
def dL_law_1212 := dk167 (k := 6) (x := 781) bL_law_1206 rfl (by decide)
def dL_law_1215 := dk43 (k := 9) bL_law_1206 rfl
def dL_law_1216 := dk182 (k := 10) (x := 174) bL_law_1206 rfl rfl
def dL_law_1219 := dk87 (k := 13) bL_law_1206 rfl
def dL_law_1220 := dk44 (k := 14) bL_law_1206 rfl
def dL_law_1221 := dk182 (k := 15) (x := 177) bL_law_1206 rfl rfl
def dL_law_1224 := dk87 (k := 18) bL_law_1206 rfl
def dL_law_1225 := dk167 (k := 19) (x := 768) bL_law_1206 rfl (by decide)
def dL_law_1228 := dk43 (k := 22) bL_law_1206 rfl
def dL_law_1229 := dk182 (k := 23) (x := 178) bL_law_1206 rfl rfl
theorem bL_law_1232 : bL cL_law 1232 [87, 44, 182, 0, 181, 87, 167, 2, 243, 43, 42, 29, 4, 96, 46, 182, 0, 182, 87, 44, 42, 29, 4, 96] := bL_of (by decide +kernel)
def dL_law_1232 := dk87 (k := 0) bL_law_1232 rfl
def dL_law_1233 := dk44 (k := 1) bL_law_1232 rfl
def dL_law_1234 := dk182 (k := 2) (x := 181) bL_law_1232 rfl rfl
def dL_law_1237 := dk87 (k := 5) bL_law_1232 rfl
def dL_law_1238 := dk167 (k := 6) (x := 755) bL_law_1232 rfl (by decide)
def dL_law_1241 := dk43 (k := 9) bL_law_1232 rfl
def dL_law_1242 := dk42 (k := 10) bL_law_1232 rfl
def dL_law_1243 := dk29 (k := 11) bL_law_1232 rfl
def dL_law_1244 := dk4 (k := 12) bL_law_1232 rfl
def dL_law_1245 := dk96 (k := 13) bL_law_1232 rfl
def dL_law_1246 := dk46 (k := 14) bL_law_1232 rfl
def dL_law_1247 := dk182 (k := 15) (x := 182) bL_law_1232 rfl rfl
def dL_law_1250 := dk87 (k := 18) bL_law_1232 rfl
def dL_law_1251 := dk44 (k := 19) bL_law_1232 rfl
def dL_law_1252 := dk42 (k := 20) bL_law_1232 rfl
def dL_law_1253 := dk29 (k := 21) bL_law_1232 rfl
def dL_law_1254 := dk4 (k := 22) bL_law_1232 rfl
def dL_law_1255 := dk96 (k := 23) bL_law_1232 rfl
theorem bL_law_1256 : bL cL_law 1256 [46, 182, 0, 185, 87, 167, 2, 220, 43, 42, 29, 4, 96, 46, 42, 29, 5, 96, 46, 182, 0, 186, 87, 44] := bL_of (by decide +kernel)
def dL_law_1256 := dk46 (k := 0) bL_law_1256 rfl
def dL_law_1257 := dk182 (k := 1) (x := 185) bL_law_1256 rfl rfl
def dL_law_1260 := dk87 (k := 4) bL_law_1256 rfl
def dL_law_1261 := dk167 (k := 5) (x := 732) bL_law_1256 rfl (by decide)
def dL_law_1264 := dk43 (k := 8) bL_law_1256 rfl
def dL_law_1265 := dk42 (k := 9) bL_law_1256 rfl
def dL_law_1266 := dk29 (k := 10) bL_law_1256 rfl
def dL_law_1267 := dk4 (k := 11) bL_law_1256 rfl
def dL_law_1268 := dk96 (k := 12) bL_law_1256 rfl
def dL_law_1269 := dk46 (k := 13) bL_law_1256 rfl
def dL_law_1270 := dk42 (k := 14) bL_law_1256 rfl
def dL_law_1271 := dk29 (k := 15) bL_law_1256 rfl
def dL_law_1272 := dk5 (k := 16) bL_law_1256 rfl
def dL_law_1273 := dk96 (k := 17) bL_law_1256 rfl
def dL_law_1274 := dk46 (k := 18) bL_law_1256 rfl
def dL_law_1275 := dk182 (k := 19) (x := 186) bL_law_1256 rfl rfl
def dL_law_1278 := dk87 (k := 22) bL_law_1256 rfl
def dL_law_1279 := dk44 (k := 23) bL_law_1256 rfl
theorem bL_law_1280 : bL cL_law 1280 [42, 29, 4, 96, 46, 42, 29, 5, 96, 46, 182, 0, 189, 87, 167, 2, 187, 43, 182, 0, 190, 87, 44, 182, 0, 193] := bL_of (by decide +kernel)
def dL_law_1280 := dk42 (k := 0) bL_law_1280 rfl
def dL_law_1281 := dk29 (k := 1) bL_law_1280 rfl
def dL_law_1282 := dk4 (k := 2) bL_law_1280 rfl
def dL_law_1283 := dk96 (k := 3) bL_law_1280 rfl
def dL_law_1284 := dk46 (k := 4) bL_law_1280 rfl
def dL_law_1285 := dk42 (k := 5) bL_law_1280 rfl
def dL_law_1286 := dk29 (k := 6) bL_law_1280 rfl
def dL_law_1287 := dk5 (k := 7) bL_law_1280 rfl
def dL_law_1288 := dk96 (k := 8) bL_law_1280 rfl
def dL_law_1289 := dk46 (k := 9) bL_law_1280 rfl
def dL_law_1290 := dk182 (k := 10) (x := 189) bL_law_1280 rfl rfl
def dL_law_1293 := dk87 (k := 13) bL_law_1280 rfl
def dL_law_1294 := dk167 (k := 14) (x := 699) bL_law_1280 rfl (by decide)
def dL_law_1297 := dk43 (k := 17) bL_law_1280 rfl
def dL_law_1298 := dk182 (k := 18) (x := 190) bL_law_1280 rfl rfl
def dL_law_1301 := dk87 (k := 21) bL_law_1280 rfl
def dL_law_1302 := dk44 (k := 22) bL_law_1280 rfl
def dL_law_1303 := dk182 (k := 23) (x := 193) bL_law_1280 rfl rfl
theorem bL_law_1306 : bL cL_law 1306 [87, 167, 2, 174, 43, 42, 29, 4, 96, 46, 182, 0, 194, 87, 44, 42, 29, 4, 96, 46, 182, 0, 197, 87] := bL_of (by decide +kernel)
def dL_law_1306 := dk87 (k := 0) bL_law_1306 rfl
def dL_law_1307 := dk167 (k := 1) (x := 686) bL_law_1306 rfl (by decide)
def dL_law_1310 := dk43 (k := 4) bL_law_1306 rfl
def dL_law_1311 := dk42 (k := 5) bL_law_1306 rfl
def dL_law_1312 := dk29 (k := 6) bL_law_1306 rfl
def dL_law_1313 := dk4 (k := 7) bL_law_1306 rfl
def dL_law_1314 := dk96 (k := 8) bL_law_1306 rfl
def dL_law_1315 := dk46 (k := 9) bL_law_1306 rfl
def dL_law_1316 := dk182 (k := 10) (x := 194) bL_law_1306 rfl rfl
def dL_law_1319 := dk87 (k := 13) bL_law_1306 rfl
def dL_law_1320 := dk44 (k := 14) bL_law_1306 rfl
def dL_law_1321 := dk42 (k := 15) bL_law_1306 rfl
def dL_law_1322 := dk29 (k := 16) bL_law_1306 rfl
def dL_law_1323 := dk4 (k := 17) bL_law_1306 rfl
def dL_law_1324 := dk96 (k := 18) bL_law_1306 rfl
def dL_law_1325 := dk46 (k := 19) bL_law_1306 rfl
def dL_law_1326 := dk182 (k := 20) (x := 197) bL_law_1306 rfl rfl
def dL_law_1329 := dk87 (k := 23) bL_law_1306 rfl
theorem bL_law_1330 : bL cL_law 1330 [167, 2, 151, 43, 42, 29, 4, 96, 46, 182, 0, 198, 87, 44, 42, 29, 4, 96, 46, 182, 0, 201, 87, 167, 2, 128] := bL_of (by decide +kernel)
def dL_law_1330 := dk167 (k := 0) (x := 663) bL_law_1330 rfl (by decide)
def dL_law_1333 := dk43 (k := 3) bL_law_1330 rfl
def dL_law_1334 := dk42 (k := 4) bL_law_1330 rfl
def dL_law_1335 := dk29 (k := 5) bL_law_1330 rfl
def dL_law_1336 := dk4 (k := 6) bL_law_1330 rfl
def dL_law_1337 := dk96 (k := 7) bL_law_1330 rfl
def dL_law_1338 := dk46 (k := 8) bL_law_1330 rfl
def dL_law_1339 := dk182 (k := 9) (x := 198) bL_law_1330 rfl rfl
def dL_law_1342 := dk87 (k := 12) bL_law_1330 rfl
def dL_law_1343 := dk44 (k := 13) bL_law_1330 rfl
def dL_law_1344 := dk42 (k := 14) bL_law_1330 rfl
def dL_law_1345 := dk29 (k := 15) bL_law_1330 rfl
def dL_law_1346 := dk4 (k := 16) bL_law_1330 rfl
def dL_law_1347 := dk96 (k := 17) bL_law_1330 rfl
def dL_law_1348 := dk46 (k := 18) bL_law_1330 rfl
def dL_law_1349 := dk182 (k := 19) (x := 201) bL_law_1330 rfl rfl
def dL_law_1352 := dk87 (k := 22) bL_law_1330 rfl
def dL_law_1353 := dk167 (k := 23) (x := 640) bL_law_1330 rfl (by decide)
theorem bL_law_1356 : bL cL_law 1356 [43, 42, 29, 4, 96, 46, 42, 29, 5, 96, 46, 182, 0, 202, 87, 44, 42, 29, 4, 96, 46, 42, 29, 5] := bL_of (by decide +kernel)
def dL_law_1356 := dk43 (k := 0) bL_law_1356 rfl
def dL_law_1357 := dk42 (k := 1) bL_law_1356 rfl
def dL_law_1358 := dk29 (k := 2) bL_law_1356 rfl
def dL_law_1359 := dk4 (k := 3) bL_law_1356 rfl
def dL_law_1360 := dk96 (k := 4) bL_law_1356 rfl
def dL_law_1361 := dk46 (k := 5) bL_law_1356 rfl
def dL_law_1362 := dk42 (k := 6) bL_law_1356 rfl
def dL_law_1363 := dk29 (k := 7) bL_law_1356 rfl
def dL_law_1364 := dk5 (k := 8) bL_law_1356 rfl
def dL_law_1365 := dk96 (k := 9) bL_law_1356 rfl
def dL_law_1366 := dk46 (k := 10) bL_law_1356 rfl
def dL_law_1367 := dk182 (k := 11) (x := 202) bL_law_1356 rfl rfl
def dL_law_1370 := dk87 (k := 14) bL_law_1356 rfl
def dL_law_1371 := dk44 (k := 15) bL_law_1356 rfl
def dL_law_1372 := dk42 (k := 16) bL_law_1356 rfl
def dL_law_1373 := dk29 (k := 17) bL_law_1356 rfl
def dL_law_1374 := dk4 (k := 18) bL_law_1356 rfl
def dL_law_1375 := dk96 (k := 19) bL_law_1356 rfl
def dL_law_1376 := dk46 (k := 20) bL_law_1356 rfl
def dL_law_1377 := dk42 (k := 21) bL_law_1356 rfl
def dL_law_1378 := dk29 (k := 22) bL_law_1356 rfl
def dL_law_1379 := dk5 (k := 23) bL_law_1356 rfl
theorem bL_law_1380 : bL cL_law 1380 [96, 46, 182, 0, 205, 87, 167, 2, 95, 43, 42, 29, 4, 96, 46, 182, 0, 206, 87, 44, 42, 29, 4, 96] := bL_of (by decide +kernel)
def dL_law_1380 := dk96 (k := 0) bL_law_1380 rfl
def dL_law_1381 := dk46 (k := 1) bL_law_1380 rfl
def dL_law_1382 := dk182 (k := 2) (x := 205) bL_law_1380 rfl rfl
def dL_law_1385 := dk87 (k := 5) bL_law_1380 rfl
def dL_law_1386 := dk167 (k := 6) (x := 607) bL_law_1380 rfl (by decide)
def dL_law_1389 := dk43 (k := 9) bL_law_1380 rfl
def dL_law_1390 := dk42 (k := 10) bL_law_1380 rfl
def dL_law_1391 := dk29 (k := 11) bL_law_1380 rfl
def dL_law_1392 := dk4 (k := 12) bL_law_1380 rfl
def dL_law_1393 := dk96 (k := 13) bL_law_1380 rfl
def dL_law_1394 := dk46 (k := 14) bL_law_1380 rfl
def dL_law_1395 := dk182 (k := 15) (x := 206) bL_law_1380 rfl rfl
def dL_law_1398 := dk87 (k := 18) bL_law_1380 rfl
def dL_law_1399 := dk44 (k := 19) bL_law_1380 rfl
def dL_law_1400 := dk42 (k := 20) bL_law_1380 rfl
def dL_law_1401 := dk29 (k := 21) bL_law_1380 rfl
def dL_law_1402 := dk4 (k := 22) bL_law_1380 rfl
def dL_law_1403 := dk96 (k := 23) bL_law_1380 rfl
theorem bL_law_1404 : bL cL_law 1404 [46, 182, 0, 209, 87, 167, 2, 72, 43, 182, 0, 210, 87, 44, 182, 0, 213, 87, 167, 2, 59, 43, 42, 29] := bL_of (by decide +kernel)
def dL_law_1404 := dk46 (k := 0) bL_law_1404 rfl
def dL_law_1405 := dk182 (k := 1) (x := 209) bL_law_1404 rfl rfl
def dL_law_1408 := dk87 (k := 4) bL_law_1404 rfl
def dL_law_1409 := dk167 (k := 5) (x := 584) bL_law_1404 rfl (by decide)
def dL_law_1412 := dk43 (k := 8) bL_law_1404 rfl
def dL_law_1413 := dk182 (k := 9) (x := 210) bL_law_1404 rfl rfl
def dL_law_1416 := dk87 (k := 12) bL_law_1404 rfl
def dL_law_1417 := dk44 (k := 13) bL_law_1404 rfl
def dL_law_1418 := dk182 (k := 14) (x := 213) bL_law_1404 rfl rfl
def dL_law_1421 := dk87 (k := 17) bL_law_1404 rfl
def dL_law_1422 := dk167 (k := 18) (x := 571) bL_law_1404 rfl (by decide)
def dL_law_1425 := dk43 (k := 21) bL_law_1404 rfl
def dL_law_1426 := dk42 (k := 22) bL_law_1404 rfl
def dL_law_1427 := dk29 (k := 23) bL_law_1404 rfl
theorem bL_law_1428 : bL cL_law 1428 [4, 96, 46, 182, 0, 214, 87, 44, 42, 29, 4, 96, 46, 182, 0, 217, 87, 167, 2, 36, 43, 42, 29, 4] := bL_of (by decide +kernel)
def dL_law_1428 := dk4 (k := 0) bL_law_1428 rfl
def dL_law_1429 := dk96 (k := 1) bL_law_1428 rfl
def dL_law_1430 := dk46 (k := 2) bL_law_1428 rfl
def dL_law_1431 := dk182 (k := 3) (x := 214) bL_law_1428 rfl rfl
def dL_law_1434 := dk87 (k := 6) bL_law_1428 rfl
def dL_law_1435 := dk44 (k := 7) bL_law_1428 rfl
def dL_law_1436 := dk42 (k := 8) bL_law_1428 rfl
def dL_law_1437 := dk29 (k := 9) bL_law_1428 rfl
def dL_law_1438 := dk4 (k := 10) bL_law_1428 rfl
def dL_law_1439 := dk96 (k := 11) bL_law_1428 rfl
def dL_law_1440 := dk46 (k := 12) bL_law_1428 rfl
def dL_law_1441 := dk182 (k := 13) (x := 217) bL_law_1428 rfl rfl
def dL_law_1444 := dk87 (k := 16) bL_law_1428 rfl
def dL_law_1445 := dk167 (k := 17) (x := 548) bL_law_1428 rfl (by decide)
def dL_law_1448 := dk43 (k := 20) bL_law_1428 rfl
def dL_law_1449 := dk42 (k := 21) bL_law_1428 rfl
def dL_law_1450 := dk29 (k := 22) bL_law_1428 rfl
def dL_law_1451 := dk4 (k := 23) bL_law_1428 rfl
theorem bL_law_1452 : bL cL_law 1452 [96, 46, 42, 29, 5, 96, 46, 182, 0, 218, 87, 44, 42, 29, 4, 96, 46, 42, 29, 5, 96, 46, 182, 0, 221] := bL_of (by decide +kernel)
def dL_law_1452 := dk96 (k := 0) bL_law_1452 rfl
def dL_law_1453 := dk46 (k := 1) bL_law_1452 rfl
def dL_law_1454 := dk42 (k := 2) bL_law_1452 rfl
def dL_law_1455 := dk29 (k := 3) bL_law_1452 rfl
def dL_law_1456 := dk5 (k := 4) bL_law_1452 rfl
def dL_law_1457 := dk96 (k := 5) bL_law_1452 rfl
def dL_law_1458 := dk46 (k := 6) bL_law_1452 rfl
def dL_law_1459 := dk182 (k := 7) (x := 218) bL_law_1452 rfl rfl
def dL_law_1462 := dk87 (k := 10) bL_law_1452 rfl
def dL_law_1463 := dk44 (k := 11) bL_law_1452 rfl
def dL_law_1464 := dk42 (k := 12) bL_law_1452 rfl
def dL_law_1465 := dk29 (k := 13) bL_law_1452 rfl
def dL_law_1466 := dk4 (k := 14) bL_law_1452 rfl
def dL_law_1467 := dk96 (k := 15) bL_law_1452 rfl
def dL_law_1468 := dk46 (k := 16) bL_law_1452 rfl
def dL_law_1469 := dk42 (k := 17) bL_law_1452 rfl
def dL_law_1470 := dk29 (k := 18) bL_law_1452 rfl
def dL_law_1471 := dk5 (k := 19) bL_law_1452 rfl
def dL_law_1472 := dk96 (k := 20) bL_law_1452 rfl
def dL_law_1473 := dk46 (k := 21) bL_law_1452 rfl
def dL_law_1474 := dk182 (k := 22) (x := 221) bL_law_1452 rfl rfl
theorem bL_law_1477 : bL cL_law 1477 [87, 167, 2, 3, 43, 42, 29, 4, 96, 46, 42, 29, 5, 96, 46, 182, 0, 222, 87, 44, 42, 29, 4, 96] := bL_of (by decide +kernel)
def dL_law_1477 := dk87 (k := 0) bL_law_1477 rfl
def dL_law_1478 := dk167 (k := 1) (x := 515) bL_law_1477 rfl (by decide)
def dL_law_1481 := dk43 (k := 4) bL_law_1477 rfl
def dL_law_1482 := dk42 (k := 5) bL_law_1477 rfl
def dL_law_1483 := dk29 (k := 6) bL_law_1477 rfl
def dL_law_1484 := dk4 (k := 7) bL_law_1477 rfl
def dL_law_1485 := dk96 (k := 8) bL_law_1477 rfl
def dL_law_1486 := dk46 (k := 9) bL_law_1477 rfl
def dL_law_1487 := dk42 (k := 10) bL_law_1477 rfl
def dL_law_1488 := dk29 (k := 11) bL_law_1477 rfl
def dL_law_1489 := dk5 (k := 12) bL_law_1477 rfl
def dL_law_1490 := dk96 (k := 13) bL_law_1477 rfl
def dL_law_1491 := dk46 (k := 14) bL_law_1477 rfl
def dL_law_1492 := dk182 (k := 15) (x := 222) bL_law_1477 rfl rfl
def dL_law_1495 := dk87 (k := 18) bL_law_1477 rfl
def dL_law_1496 := dk44 (k := 19) bL_law_1477 rfl
def dL_law_1497 := dk42 (k := 20) bL_law_1477 rfl
def dL_law_1498 := dk29 (k := 21) bL_law_1477 rfl
def dL_law_1499 := dk4 (k := 22) bL_law_1477 rfl
def dL_law_1500 := dk96 (k := 23) bL_law_1477 rfl
theorem bL_law_1501 : bL cL_law 1501 [46, 42, 29, 5, 96, 46, 182, 0, 225, 87, 167, 1, 226, 43, 42, 29, 4, 96, 46, 182, 0, 226, 87, 44] := bL_of (by decide +kernel)
def dL_law_1501 := dk46 (k := 0) bL_law_1501 rfl
def dL_law_1502 := dk42 (k := 1) bL_law_1501 rfl
def dL_law_1503 := dk29 (k := 2) bL_law_1501 rfl
def dL_law_1504 := dk5 (k := 3) bL_law_1501 rfl
def dL_law_1505 := dk96 (k := 4) bL_law_1501 rfl
def dL_law_1506 := dk46 (k := 5) bL_law_1501 rfl
def dL_law_1507 := dk182 (k := 6) (x := 225) bL_law_1501 rfl rfl
def dL_law_1510 := dk87 (k := 9) bL_law_1501 rfl
def dL_law_1511 := dk167 (k := 10) (x := 482) bL_law_1501 rfl (by decide)
def dL_law_1514 := dk43 (k := 13) bL_law_1501 rfl
def dL_law_1515 := dk42 (k := 14) bL_law_1501 rfl
def dL_law_1516 := dk29 (k := 15) bL_law_1501 rfl
def dL_law_1517 := dk4 (k := 16) bL_law_1501 rfl
def dL_law_1518 := dk96 (k := 17) bL_law_1501 rfl
def dL_law_1519 := dk46 (k := 18) bL_law_1501 rfl
def dL_law_1520 := dk182 (k := 19) (x := 226) bL_law_1501 rfl rfl
def dL_law_1523 := dk87 (k := 22) bL_law_1501 rfl
def dL_law_1524 := dk44 (k := 23) bL_law_1501 rfl
theorem bL_law_1525 : bL cL_law 1525 [42, 29, 4, 96, 46, 182, 0, 229, 87, 167, 1, 203, 43, 42, 29, 4, 96, 46, 182, 0, 230, 87, 44, 42] := bL_of (by decide +kernel)
def dL_law_1525 := dk42 (k := 0) bL_law_1525 rfl
def dL_law_1526 := dk29 (k := 1) bL_law_1525 rfl
def dL_law_1527 := dk4 (k := 2) bL_law_1525 rfl
def dL_law_1528 := dk96 (k := 3) bL_law_1525 rfl
def dL_law_1529 := dk46 (k := 4) bL_law_1525 rfl
def dL_law_1530 := dk182 (k := 5) (x := 229) bL_law_1525 rfl rfl
def dL_law_1533 := dk87 (k := 8) bL_law_1525 rfl
def dL_law_1534 := dk167 (k := 9) (x := 459) bL_law_1525 rfl (by decide)
def dL_law_1537 := dk43 (k := 12) bL_law_1525 rfl
def dL_law_1538 := dk42 (k := 13) bL_law_1525 rfl
def dL_law_1539 := dk29 (k := 14) bL_law_1525 rfl
def dL_law_1540 := dk4 (k := 15) bL_law_1525 rfl
def dL_law_1541 := dk96 (k := 16) bL_law_1525 rfl
def dL_law_1542 := dk46 (k := 17) bL_law_1525 rfl
def dL_law_1543 := dk182 (k := 18) (x := 230) bL_law_1525 rfl rfl
def dL_law_1546 := dk87 (k := 21) bL_law_1525 rfl
def dL_law_1547 := dk44 (k := 22) bL_law_1525 rfl
def dL_law_1548 := dk42 (k := 23) bL_law_1525 rfl
theorem bL_law_1549 : bL cL_law 1549 [29, 4, 96, 46, 182, 0, 233, 87, 167, 1, 180, 43, 42, 29, 4, 96, 46, 42, 29, 5, 96, 46, 182, 0, 234] := bL_of (by decide +kernel)
def dL_law_1549 := dk29 (k := 0) bL_law_1549 rfl
def dL_law_1550 := dk4 (k := 1) bL_law_1549 rfl
def dL_law_1551 := dk96 (k := 2) bL_law_1549 rfl
def dL_law_1552 := dk46 (k := 3) bL_law_1549 rfl
def dL_law_1553 := dk182 (k := 4) (x := 233) bL_law_1549 rfl rfl
def dL_law_1556 := dk87 (k := 7) bL_law_1549 rfl
def dL_law_1557 := dk167 (k := 8) (x := 436) bL_law_1549 rfl (by decide)
def dL_law_1560 := dk43 (k := 11) bL_law_1549 rfl
def dL_law_1561 := dk42 (k := 12) bL_law_1549 rfl
def dL_law_1562 := dk29 (k := 13) bL_law_1549 rfl
def dL_law_1563 := dk4 (k := 14) bL_law_1549 rfl
def dL_law_1564 := dk96 (k := 15) bL_law_1549 rfl
def dL_law_1565 := dk46 (k := 16) bL_law_1549 rfl
def dL_law_1566 := dk42 (k := 17) bL_law_1549 rfl
def dL_law_1567 := dk29 (k := 18) bL_law_1549 rfl
def dL_law_1568 := dk5 (k := 19) bL_law_1549 rfl
def dL_law_1569 := dk96 (k := 20) bL_law_1549 rfl
def dL_law_1570 := dk46 (k := 21) bL_law_1549 rfl
def dL_law_1571 := dk182 (k := 22) (x := 234) bL_law_1549 rfl rfl
theorem bL_law_1574 : bL cL_law 1574 [87, 44, 42, 29, 4, 96, 46, 42, 29, 5, 96, 46, 182, 0, 237, 87, 167, 1, 147, 43, 42, 29, 4, 96] := bL_of (by decide +kernel)
def dL_law_1574 := dk87 (k := 0) bL_law_1574 rfl
def dL_law_1575 := dk44 (k := 1) bL_law_1574 rfl
def dL_law_1576 := dk42 (k := 2) bL_law_1574 rfl
def dL_law_1577 := dk29 (k := 3) bL_law_1574 rfl
def dL_law_1578 := dk4 (k := 4) bL_law_1574 rfl
def dL_law_1579 := dk96 (k := 5) bL_law_1574 rfl
def dL_law_1580 := dk46 (k := 6) bL_law_1574 rfl
def dL_law_1581 := dk42 (k := 7) bL_law_1574 rfl
def dL_law_1582 := dk29 (k := 8) bL_law_1574 rfl
def dL_law_1583 := dk5 (k := 9) bL_law_1574 rfl
def dL_law_1584 := dk96 (k := 10) bL_law_1574 rfl
def dL_law_1585 := dk46 (k := 11) bL_law_1574 rfl
def dL_law_1586 := dk182 (k := 12) (x := 237) bL_law_1574 rfl rfl
def dL_law_1589 := dk87 (k := 15) bL_law_1574 rfl
def dL_law_1590 := dk167 (k := 16) (x := 403) bL_law_1574 rfl (by decide)
def dL_law_1593 := dk43 (k := 19) bL_law_1574 rfl
def dL_law_1594 := dk42 (k := 20) bL_law_1574 rfl
def dL_law_1595 := dk29 (k := 21) bL_law_1574 rfl
def dL_law_1596 := dk4 (k := 22) bL_law_1574 rfl
def dL_law_1597 := dk96 (k := 23) bL_law_1574 rfl
theorem bL_law_1598 : bL cL_law 1598 [46, 42, 29, 5, 96, 46, 42, 29, 6, 96, 46, 182, 0, 238, 87, 44, 42, 29, 4, 96, 46, 42, 29, 5] := bL_of (by decide +kernel)
def dL_law_1598 := dk46 (k := 0) bL_law_1598 rfl
def dL_law_1599 := dk42 (k := 1) bL_law_1598 rfl
def dL_law_1600 := dk29 (k := 2) bL_law_1598 rfl
def dL_law_1601 := dk5 (k := 3) bL_law_1598 rfl
def dL_law_1602 := dk96 (k := 4) bL_law_1598 rfl
def dL_law_1603 := dk46 (k := 5) bL_law_1598 rfl
def dL_law_1604 := dk42 (k := 6) bL_law_1598 rfl
def dL_law_1605 := dk29 (k := 7) bL_law_1598 rfl
def dL_law_1606 := dk6 (k := 8) bL_law_1598 rfl
def dL_law_1607 := dk96 (k := 9) bL_law_1598 rfl
def dL_law_1608 := dk46 (k := 10) bL_law_1598 rfl
def dL_law_1609 := dk182 (k := 11) (x := 238) bL_law_1598 rfl rfl
def dL_law_1612 := dk87 (k := 14) bL_law_1598 rfl
def dL_law_1613 := dk44 (k := 15) bL_law_1598 rfl
def dL_law_1614 := dk42 (k := 16) bL_law_1598 rfl
def dL_law_1615 := dk29 (k := 17) bL_law_1598 rfl
def dL_law_1616 := dk4 (k := 18) bL_law_1598 rfl
def dL_law_1617 := dk96 (k := 19) bL_law_1598 rfl
def dL_law_1618 := dk46 (k := 20) bL_law_1598 rfl
def dL_law_1619 := dk42 (k := 21) bL_law_1598 rfl
def dL_law_1620 := dk29 (k := 22) bL_law_1598 rfl
def dL_law_1621 := dk5 (k := 23) bL_law_1598 rfl
theorem bL_law_1622 : bL cL_law 1622 [96, 46, 42, 29, 6, 96, 46, 182, 0, 241, 87, 167, 1, 104, 43, 42, 29, 4, 96, 46, 42, 29, 5, 96] := bL_of (by decide +kernel)
def dL_law_1622 := dk96 (k := 0) bL_law_1622 rfl
def dL_law_1623 := dk46 (k := 1) bL_law_1622 rfl
def dL_law_1624 := dk42 (k := 2) bL_law_1622 rfl
def dL_law_1625 := dk29 (k := 3) bL_law_1622 rfl
def dL_law_1626 := dk6 (k := 4) bL_law_1622 rfl
def dL_law_1627 := dk96 (k := 5) bL_law_1622 rfl
def dL_law_1628 := dk46 (k := 6) bL_law_1622 rfl
def dL_law_1629 := dk182 (k := 7) (x := 241) bL_law_1622 rfl rfl
def dL_law_1632 := dk87 (k := 10) bL_law_1622 rfl
def dL_law_1633 := dk167 (k := 11) (x := 360) bL_law_1622 rfl (by decide)
def dL_law_1636 := dk43 (k := 14) bL_law_1622 rfl
def dL_law_1637 := dk42 (k := 15) bL_law_1622 rfl
def dL_law_1638 := dk29 (k := 16) bL_law_1622 rfl
def dL_law_1639 := dk4 (k := 17) bL_law_1622 rfl
def dL_law_1640 := dk96 (k := 18) bL_law_1622 rfl
def dL_law_1641 := dk46 (k := 19) bL_law_1622 rfl
def dL_law_1642 := dk42 (k := 20) bL_law_1622 rfl
def dL_law_1643 := dk29 (k := 21) bL_law_1622 rfl
def dL_law_1644 := dk5 (k := 22) bL_law_1622 rfl
def dL_law_1645 := dk96 (k := 23) bL_law_1622 rfl
theorem bL_law_1646 : bL cL_law 1646 [46, 42, 29, 6, 96, 46, 182, 0, 242, 87, 44, 42, 29, 4, 96, 46, 42, 29, 5, 96, 46, 42, 29, 6] := bL_of (by decide +kernel)
def dL_law_1646 := dk46 (k := 0) bL_law_1646 rfl
def dL_law_1647 := dk42 (k := 1) bL_law_1646 rfl
def dL_law_1648 := dk29 (k := 2) bL_law_1646 rfl
def dL_law_1649 := dk6 (k := 3) bL_law_1646 rfl
def dL_law_1650 := dk96 (k := 4) bL_law_1646 rfl
def dL_law_1651 := dk46 (k := 5) bL_law_1646 rfl
def dL_law_1652 := dk182 (k := 6) (x := 242) bL_law_1646 rfl rfl
def dL_law_1655 := dk87 (k := 9) bL_law_1646 rfl
def dL_law_1656 := dk44 (k := 10) bL_law_1646 rfl
def dL_law_1657 := dk42 (k := 11) bL_law_1646 rfl
def dL_law_1658 := dk29 (k := 12) bL_law_1646 rfl
def dL_law_1659 := dk4 (k := 13) bL_law_1646 rfl
def dL_law_1660 := dk96 (k := 14) bL_law_1646 rfl
def dL_law_1661 := dk46 (k := 15) bL_law_1646 rfl
def dL_law_1662 := dk42 (k := 16) bL_law_1646 rfl
def dL_law_1663 := dk29 (k := 17) bL_law_1646 rfl
def dL_law_1664 := dk5 (k := 18) bL_law_1646 rfl
def dL_law_1665 := dk96 (k := 19) bL_law_1646 rfl
def dL_law_1666 := dk46 (k := 20) bL_law_1646 rfl
def dL_law_1667 := dk42 (k := 21) bL_law_1646 rfl
def dL_law_1668 := dk29 (k := 22) bL_law_1646 rfl
def dL_law_1669 := dk6 (k := 23) bL_law_1646 rfl
theorem bL_law_1670 : bL cL_law 1670 [96, 46, 182, 0, 245, 87, 167, 1, 61, 43, 42, 29, 4, 96, 46, 182, 0, 246, 87, 44, 42, 29, 4, 96] := bL_of (by decide +kernel)
def dL_law_1670 := dk96 (k := 0) bL_law_1670 rfl
def dL_law_1671 := dk46 (k := 1) bL_law_1670 rfl
def dL_law_1672 := dk182 (k := 2) (x := 245) bL_law_1670 rfl rfl
def dL_law_1675 := dk87 (k := 5) bL_law_1670 rfl
def dL_law_1676 := dk167 (k := 6) (x := 317) bL_law_1670 rfl (by decide)
def dL_law_1679 := dk43 (k := 9) bL_law_1670 rfl
def dL_law_1680 := dk42 (k := 10) bL_law_1670 rfl
def dL_law_1681 := dk29 (k := 11) bL_law_1670 rfl
def dL_law_1682 := dk4 (k := 12) bL_law_1670 rfl
def dL_law_1683 := dk96 (k := 13) bL_law_1670 rfl
def dL_law_1684 := dk46 (k := 14) bL_law_1670 rfl
def dL_law_1685 := dk182 (k := 15) (x := 246) bL_law_1670 rfl rfl
def dL_law_1688 := dk87 (k := 18) bL_law_1670 rfl
def dL_law_1689 := dk44 (k := 19) bL_law_1670 rfl
def dL_law_1690 := dk42 (k := 20) bL_law_1670 rfl
def dL_law_1691 := dk29 (k := 21) bL_law_1670 rfl
def dL_law_1692 := dk4 (k := 22) bL_law_1670 rfl
def dL_law_1693 := dk96 (k := 23) bL_law_1670 rfl
theorem bL_law_1694 : bL cL_law 1694 [46, 182, 0, 249, 87, 167, 1, 38, 43, 42, 29, 4, 96, 46, 42, 29, 5, 96, 46, 42, 29, 6, 96, 46] := bL_of (by decide +kernel)
def dL_law_1694 := dk46 (k := 0) bL_law_1694 rfl
def dL_law_1695 := dk182 (k := 1) (x := 249) bL_law_1694 rfl rfl
def dL_law_1698 := dk87 (k := 4) bL_law_1694 rfl
def dL_law_1699 := dk167 (k := 5) (x := 294) bL_law_1694 rfl (by decide)
def dL_law_1702 := dk43 (k := 8) bL_law_1694 rfl
def dL_law_1703 := dk42 (k := 9) bL_law_1694 rfl
def dL_law_1704 := dk29 (k := 10) bL_law_1694 rfl
def dL_law_1705 := dk4 (k := 11) bL_law_1694 rfl
def dL_law_1706 := dk96 (k := 12) bL_law_1694 rfl
def dL_law_1707 := dk46 (k := 13) bL_law_1694 rfl
def dL_law_1708 := dk42 (k := 14) bL_law_1694 rfl
def dL_law_1709 := dk29 (k := 15) bL_law_1694 rfl
def dL_law_1710 := dk5 (k := 16) bL_law_1694 rfl
def dL_law_1711 := dk96 (k := 17) bL_law_1694 rfl
def dL_law_1712 := dk46 (k := 18) bL_law_1694 rfl
def dL_law_1713 := dk42 (k := 19) bL_law_1694 rfl
def dL_law_1714 := dk29 (k := 20) bL_law_1694 rfl
def dL_law_1715 := dk6 (k := 21) bL_law_1694 rfl
def dL_law_1716 := dk96 (k := 22) bL_law_1694 rfl
def dL_law_1717 := dk46 (k := 23) bL_law_1694 rfl
theorem bL_law_1718 : bL cL_law 1718 [182, 0, 250, 87, 44, 42, 29, 4, 96, 46, 42, 29, 5, 96, 46, 42, 29, 6, 96, 46, 182, 0, 253, 87] := bL_of (by decide +kernel)
def dL_law_1718 := dk182 (k := 0) (x := 250) bL_law_1718 rfl rfl
def dL_law_1721 := dk87 (k := 3) bL_law_1718 rfl
def dL_law_1722 := dk44 (k := 4) bL_law_1718 rfl
def dL_law_1723 := dk42 (k := 5) bL_law_1718 rfl
def dL_law_1724 := dk29 (k := 6) bL_law_1718 rfl
def dL_law_1725 := dk4 (k := 7) bL_law_1718 rfl
def dL_law_1726 := dk96 (k := 8) bL_law_1718 rfl
def dL_law_1727 := dk46 (k := 9) bL_law_1718 rfl
def dL_law_1728 := dk42 (k := 10) bL_law_1718 rfl
def dL_law_1729 := dk29 (k := 11) bL_law_1718 rfl
def dL_law_1730 := dk5 (k := 12) bL_law_1718 rfl
def dL_law_1731 := dk96 (k := 13) bL_law_1718 rfl
def dL_law_1732 := dk46 (k := 14) bL_law_1718 rfl
def dL_law_1733 := dk42 (k := 15) bL_law_1718 rfl
def dL_law_1734 := dk29 (k := 16) bL_law_1718 rfl
def dL_law_1735 := dk6 (k := 17) bL_law_1718 rfl
def dL_law_1736 := dk96 (k := 18) bL_law_1718 rfl
def dL_law_1737 := dk46 (k := 19) bL_law_1718 rfl
def dL_law_1738 := dk182 (k := 20) (x := 253) bL_law_1718 rfl rfl
def dL_law_1741 := dk87 (k := 23) bL_law_1718 rfl
theorem bL_law_1742 : bL cL_law 1742 [167, 0, 251, 43, 42, 29, 4, 96, 46, 182, 0, 254, 87, 44, 42, 29, 4, 96, 46, 182, 1, 1, 87, 167, 0, 228] := bL_of (by decide +kernel)
def dL_law_1742 := dk167 (k := 0) (x := 251) bL_law_1742 rfl (by decide)
def dL_law_1745 := dk43 (k := 3) bL_law_1742 rfl
def dL_law_1746 := dk42 (k := 4) bL_law_1742 rfl
def dL_law_1747 := dk29 (k := 5) bL_law_1742 rfl
def dL_law_1748 := dk4 (k := 6) bL_law_1742 rfl
def dL_law_1749 := dk96 (k := 7) bL_law_1742 rfl
def dL_law_1750 := dk46 (k := 8) bL_law_1742 rfl
def dL_law_1751 := dk182 (k := 9) (x := 254) bL_law_1742 rfl rfl
def dL_law_1754 := dk87 (k := 12) bL_law_1742 rfl
def dL_law_1755 := dk44 (k := 13) bL_law_1742 rfl
def dL_law_1756 := dk42 (k := 14) bL_law_1742 rfl
def dL_law_1757 := dk29 (k := 15) bL_law_1742 rfl
def dL_law_1758 := dk4 (k := 16) bL_law_1742 rfl
def dL_law_1759 := dk96 (k := 17) bL_law_1742 rfl
def dL_law_1760 := dk46 (k := 18) bL_law_1742 rfl
def dL_law_1761 := dk182 (k := 19) (x := 257) bL_law_1742 rfl rfl
def dL_law_1764 := dk87 (k := 22) bL_law_1742 rfl
def dL_law_1765 := dk167 (k := 23) (x := 228) bL_law_1742 rfl (by decide)
theorem bL_law_1768 : bL cL_law 1768 [43, 42, 29, 4, 96, 46, 182, 1, 2, 87, 44, 42, 29, 4, 96, 46, 182, 1, 5, 87, 167, 0, 205, 43] := bL_of (by decide +kernel)
def dL_law_1768 := dk43 (k := 0) bL_law_1768 rfl
def dL_law_1769 := dk42 (k := 1) bL_law_1768 rfl
def dL_law_1770 := dk29 (k := 2) bL_law_1768 rfl
def dL_law_1771 := dk4 (k := 3) bL_law_1768 rfl
def dL_law_1772 := dk96 (k := 4) bL_law_1768 rfl
def dL_law_1773 := dk46 (k := 5) bL_law_1768 rfl
def dL_law_1774 := dk182 (k := 6) (x := 258) bL_law_1768 rfl rfl
def dL_law_1777 := dk87 (k := 9) bL_law_1768 rfl
def dL_law_1778 := dk44 (k := 10) bL_law_1768 rfl
def dL_law_1779 := dk42 (k := 11) bL_law_1768 rfl
def dL_law_1780 := dk29 (k := 12) bL_law_1768 rfl
def dL_law_1781 := dk4 (k := 13) bL_law_1768 rfl
def dL_law_1782 := dk96 (k := 14) bL_law_1768 rfl
def dL_law_1783 := dk46 (k := 15) bL_law_1768 rfl
def dL_law_1784 := dk182 (k := 16) (x := 261) bL_law_1768 rfl rfl
def dL_law_1787 := dk87 (k := 19) bL_law_1768 rfl
def dL_law_1788 := dk167 (k := 20) (x := 205) bL_law_1768 rfl (by decide)
def dL_law_1791 := dk43 (k := 23) bL_law_1768 rfl
theorem bL_law_1792 : bL cL_law 1792 [42, 29, 4, 96, 46, 182, 1, 6, 87, 44, 42, 29, 4, 96, 46, 182, 1, 9, 87, 167, 0, 182, 43, 42] := bL_of (by decide +kernel)
def dL_law_1792 := dk42 (k := 0) bL_law_1792 rfl
def dL_law_1793 := dk29 (k := 1) bL_law_1792 rfl
def dL_law_1794 := dk4 (k := 2) bL_law_1792 rfl
def dL_law_1795 := dk96 (k := 3) bL_law_1792 rfl
def dL_law_1796 := dk46 (k := 4) bL_law_1792 rfl
def dL_law_1797 := dk182 (k := 5) (x := 262) bL_law_1792 rfl rfl
def dL_law_1800 := dk87 (k := 8) bL_law_1792 rfl
def dL_law_1801 := dk44 (k := 9) bL_law_1792 rfl
def dL_law_1802 := dk42 (k := 10) bL_law_1792 rfl
def dL_law_1803 := dk29 (k := 11) bL_law_1792 rfl
def dL_law_1804 := dk4 (k := 12) bL_law_1792 rfl
def dL_law_1805 := dk96 (k := 13) bL_law_1792 rfl
def dL_law_1806 := dk46 (k := 14) bL_law_1792 rfl
def dL_law_1807 := dk182 (k := 15) (x := 265) bL_law_1792 rfl rfl
def dL_law_1810 := dk87 (k := 18) bL_law_1792 rfl
def dL_law_1811 := dk167 (k := 19) (x := 182) bL_law_1792 rfl (by decide)
def dL_law_1814 := dk43 (k := 22) bL_law_1792 rfl
def dL_law_1815 := dk42 (k := 23) bL_law_1792 rfl
theorem bL_law_1816 : bL cL_law 1816 [29, 4, 96, 46, 42, 29, 5, 96, 46, 42, 29, 6, 96, 46, 182, 1, 10, 87, 44, 42, 29, 4, 96, 46] := bL_of (by decide +kernel)
def dL_law_1816 := dk29 (k := 0) bL_law_1816 rfl
def dL_law_1817 := dk4 (k := 1) bL_law_1816 rfl
def dL_law_1818 := dk96 (k := 2) bL_law_1816 rfl
def dL_law_1819 := dk46 (k := 3) bL_law_1816 rfl
def dL_law_1820 := dk42 (k := 4) bL_law_1816 rfl
def dL_law_1821 := dk29 (k := 5) bL_law_1816 rfl
def dL_law_1822 := dk5 (k := 6) bL_law_1816 rfl
def dL_law_1823 := dk96 (k := 7) bL_law_1816 rfl
def dL_law_1824 := dk46 (k := 8) bL_law_1816 rfl
def dL_law_1825 := dk42 (k := 9) bL_law_1816 rfl
def dL_law_1826 := dk29 (k := 10) bL_law_1816 rfl
def dL_law_1827 := dk6 (k := 11) bL_law_1816 rfl
def dL_law_1828 := dk96 (k := 12) bL_law_1816 rfl
def dL_law_1829 := dk46 (k := 13) bL_law_1816 rfl
def dL_law_1830 := dk182 (k := 14) (x := 266) bL_law_1816 rfl rfl
def dL_law_1833 := dk87 (k := 17) bL_law_1816 rfl
def dL_law_1834 := dk44 (k := 18) bL_law_1816 rfl
def dL_law_1835 := dk42 (k := 19) bL_law_1816 rfl
def dL_law_1836 := dk29 (k := 20) bL_law_1816 rfl
def dL_law_1837 := dk4 (k := 21) bL_law_1816 rfl
def dL_law_1838 := dk96 (k := 22) bL_law_1816 rfl
def dL_law_1839 := dk46 (k := 23) bL_law_1816 rfl
theorem bL_law_1840 : bL cL_law 1840 [42, 29, 5, 96, 46, 42, 29, 6, 96, 46, 182, 1, 13, 87, 167, 0, 139, 43, 42, 29, 4, 96, 46, 42] := bL_of (by decide +kernel)
def dL_law_1840 := dk42 (k := 0) bL_law_1840 rfl
def dL_law_1841 := dk29 (k := 1) bL_law_1840 rfl
def dL_law_1842 := dk5 (k := 2) bL_law_1840 rfl
def dL_law_1843 := dk96 (k := 3) bL_law_1840 rfl
def dL_law_1844 := dk46 (k := 4) bL_law_1840 rfl
def dL_law_1845 := dk42 (k := 5) bL_law_1840 rfl
def dL_law_1846 := dk29 (k := 6) bL_law_1840 rfl
def dL_law_1847 := dk6 (k := 7) bL_law_1840 rfl
def dL_law_1848 := dk96 (k := 8) bL_law_1840 rfl
def dL_law_1849 := dk46 (k := 9) bL_law_1840 rfl
def dL_law_1850 := dk182 (k := 10) (x := 269) bL_law_1840 rfl rfl
def dL_law_1853 := dk87 (k := 13) bL_law_1840 rfl
def dL_law_1854 := dk167 (k := 14) (x := 139) bL_law_1840 rfl (by decide)
def dL_law_1857 := dk43 (k := 17) bL_law_1840 rfl
def dL_law_1858 := dk42 (k := 18) bL_law_1840 rfl
def dL_law_1859 := dk29 (k := 19) bL_law_1840 rfl
def dL_law_1860 := dk4 (k := 20) bL_law_1840 rfl
def dL_law_1861 := dk96 (k := 21) bL_law_1840 rfl
def dL_law_1862 := dk46 (k := 22) bL_law_1840 rfl
def dL_law_1863 := dk42 (k := 23) bL_law_1840 rfl
theorem bL_law_1864 : bL cL_law 1864 [29, 5, 96, 46, 42, 29, 6, 96, 46, 133, 16, 32, 121, 42, 29, 7, 96, 46, 133, 20, 1, 14, 127, 129] := bL_of (by decide +kernel)
def dL_law_1864 := dk29 (k := 0) bL_law_1864 rfl
def dL_law_1865 := dk5 (k := 1) bL_law_1864 rfl
def dL_law_1866 := dk96 (k := 2) bL_law_1864 rfl
def dL_law_1867 := dk46 (k := 3) bL_law_1864 rfl
def dL_law_1868 := dk42 (k := 4) bL_law_1864 rfl
def dL_law_1869 := dk29 (k := 5) bL_law_1864 rfl
def dL_law_1870 := dk6 (k := 6) bL_law_1864 rfl
def dL_law_1871 := dk96 (k := 7) bL_law_1864 rfl
def dL_law_1872 := dk46 (k := 8) bL_law_1864 rfl
def dL_law_1873 := dk133 (k := 9) bL_law_1864 rfl
def dL_law_1874 := dk16 (k := 10) (x := 32) bL_law_1864 rfl (by decide)
def dL_law_1876 := dk121 (k := 12) bL_law_1864 rfl
def dL_law_1877 := dk42 (k := 13) bL_law_1864 rfl
def dL_law_1878 := dk29 (k := 14) bL_law_1864 rfl
def dL_law_1879 := dk7 (k := 15) bL_law_1864 rfl
def dL_law_1880 := dk96 (k := 16) bL_law_1864 rfl
def dL_law_1881 := dk46 (k := 17) bL_law_1864 rfl
def dL_law_1882 := dk133 (k := 18) bL_law_1864 rfl
def dL_law_1883 := dk20 (k := 19) (x := 270) bL_law_1864 rfl rfl
def dL_law_1886 := dk127 (k := 22) bL_law_1864 rfl
def dL_law_1887 := dk129 (k := 23) bL_law_1864 rfl
theorem bL_law_1888 : bL cL_law 1888 [182, 1, 16, 87, 44, 42, 29, 4, 96, 46, 42, 29, 5, 96, 46, 42, 29, 6, 96, 46, 133, 16, 32, 121] := bL_of (by decide +kernel)
def dL_law_1888 := dk182 (k := 0) (x := 272) bL_law_1888 rfl rfl
def dL_law_1891 := dk87 (k := 3) bL_law_1888 rfl
def dL_law_1892 := dk44 (k := 4) bL_law_1888 rfl
def dL_law_1893 := dk42 (k := 5) bL_law_1888 rfl
def dL_law_1894 := dk29 (k := 6) bL_law_1888 rfl
def dL_law_1895 := dk4 (k := 7) bL_law_1888 rfl
def dL_law_1896 := dk96 (k := 8) bL_law_1888 rfl
def dL_law_1897 := dk46 (k := 9) bL_law_1888 rfl
def dL_law_1898 := dk42 (k := 10) bL_law_1888 rfl
def dL_law_1899 := dk29 (k := 11) bL_law_1888 rfl
def dL_law_1900 := dk5 (k := 12) bL_law_1888 rfl
def dL_law_1901 := dk96 (k := 13) bL_law_1888 rfl
def dL_law_1902 := dk46 (k := 14) bL_law_1888 rfl
def dL_law_1903 := dk42 (k := 15) bL_law_1888 rfl
def dL_law_1904 := dk29 (k := 16) bL_law_1888 rfl
def dL_law_1905 := dk6 (k := 17) bL_law_1888 rfl
def dL_law_1906 := dk96 (k := 18) bL_law_1888 rfl
def dL_law_1907 := dk46 (k := 19) bL_law_1888 rfl
def dL_law_1908 := dk133 (k := 20) bL_law_1888 rfl
def dL_law_1909 := dk16 (k := 21) (x := 32) bL_law_1888 rfl (by decide)
def dL_law_1911 := dk121 (k := 23) bL_law_1888 rfl
theorem bL_law_1912 : bL cL_law 1912 [42, 29, 7, 96, 46, 133, 20, 1, 14, 127, 129, 182, 1, 20, 87, 167, 0, 66, 43, 42, 29, 4, 96, 46] := bL_of (by decide +kernel)
def dL_law_1912 := dk42 (k := 0) bL_law_1912 rfl
def dL_law_1913 := dk29 (k := 1) bL_law_1912 rfl
def dL_law_1914 := dk7 (k := 2) bL_law_1912 rfl
def dL_law_1915 := dk96 (k := 3) bL_law_1912 rfl
def dL_law_1916 := dk46 (k := 4) bL_law_1912 rfl
def dL_law_1917 := dk133 (k := 5) bL_law_1912 rfl
def dL_law_1918 := dk20 (k := 6) (x := 270) bL_law_1912 rfl rfl
def dL_law_1921 := dk127 (k := 9) bL_law_1912 rfl
def dL_law_1922 := dk129 (k := 10) bL_law_1912 rfl
def dL_law_1923 := dk182 (k := 11) (x := 276) bL_law_1912 rfl rfl
def dL_law_1926 := dk87 (k := 14) bL_law_1912 rfl
def dL_law_1927 := dk167 (k := 15) (x := 66) bL_law_1912 rfl (by decide)
def dL_law_1930 := dk43 (k := 18) bL_law_1912 rfl
def dL_law_1931 := dk42 (k := 19) bL_law_1912 rfl
def dL_law_1932 := dk29 (k := 20) bL_law_1912 rfl
def dL_law_1933 := dk4 (k := 21) bL_law_1912 rfl
def dL_law_1934 := dk96 (k := 22) bL_law_1912 rfl
def dL_law_1935 := dk46 (k := 23) bL_law_1912 rfl
theorem bL_law_1936 : bL cL_law 1936 [42, 29, 5, 96, 46, 42, 29, 6, 96, 46, 42, 29, 7, 96, 46, 42, 29, 8, 96, 46, 182, 1, 21, 87] := bL_of (by decide +kernel)
def dL_law_1936 := dk42 (k := 0) bL_law_1936 rfl
def dL_law_1937 := dk29 (k := 1) bL_law_1936 rfl
def dL_law_1938 := dk5 (k := 2) bL_law_1936 rfl
def dL_law_1939 := dk96 (k := 3) bL_law_1936 rfl
def dL_law_1940 := dk46 (k := 4) bL_law_1936 rfl
def dL_law_1941 := dk42 (k := 5) bL_law_1936 rfl
def dL_law_1942 := dk29 (k := 6) bL_law_1936 rfl
def dL_law_1943 := dk6 (k := 7) bL_law_1936 rfl
def dL_law_1944 := dk96 (k := 8) bL_law_1936 rfl
def dL_law_1945 := dk46 (k := 9) bL_law_1936 rfl
def dL_law_1946 := dk42 (k := 10) bL_law_1936 rfl
def dL_law_1947 := dk29 (k := 11) bL_law_1936 rfl
def dL_law_1948 := dk7 (k := 12) bL_law_1936 rfl
def dL_law_1949 := dk96 (k := 13) bL_law_1936 rfl
def dL_law_1950 := dk46 (k := 14) bL_law_1936 rfl
def dL_law_1951 := dk42 (k := 15) bL_law_1936 rfl
def dL_law_1952 := dk29 (k := 16) bL_law_1936 rfl
def dL_law_1953 := dk8 (k := 17) bL_law_1936 rfl
def dL_law_1954 := dk96 (k := 18) bL_law_1936 rfl
def dL_law_1955 := dk46 (k := 19) bL_law_1936 rfl
def dL_law_1956 := dk182 (k := 20) (x := 277) bL_law_1936 rfl rfl
def dL_law_1959 := dk87 (k := 23) bL_law_1936 rfl
theorem bL_law_1960 : bL cL_law 1960 [44, 42, 29, 4, 96, 46, 42, 29, 5, 96, 46, 42, 29, 6, 96, 46, 42, 29, 7, 96, 46, 42, 29, 8] := bL_of (by decide +kernel)
def dL_law_1960 := dk44 (k := 0) bL_law_1960 rfl
def dL_law_1961 := dk42 (k := 1) bL_law_1960 rfl
def dL_law_1962 := dk29 (k := 2) bL_law_1960 rfl
def dL_law_1963 := dk4 (k := 3) bL_law_1960 rfl
def dL_law_1964 := dk96 (k := 4) bL_law_1960 rfl
def dL_law_1965 := dk46 (k := 5) bL_law_1960 rfl
def dL_law_1966 := dk42 (k := 6) bL_law_1960 rfl
def dL_law_1967 := dk29 (k := 7) bL_law_1960 rfl
def dL_law_1968 := dk5 (k := 8) bL_law_1960 rfl
def dL_law_1969 := dk96 (k := 9) bL_law_1960 rfl
def dL_law_1970 := dk46 (k := 10) bL_law_1960 rfl
def dL_law_1971 := dk42 (k := 11) bL_law_1960 rfl
def dL_law_1972 := dk29 (k := 12) bL_law_1960 rfl
def dL_law_1973 := dk6 (k := 13) bL_law_1960 rfl
def dL_law_1974 := dk96 (k := 14) bL_law_1960 rfl
def dL_law_1975 := dk46 (k := 15) bL_law_1960 rfl
def dL_law_1976 := dk42 (k := 16) bL_law_1960 rfl
def dL_law_1977 := dk29 (k := 17) bL_law_1960 rfl
def dL_law_1978 := dk7 (k := 18) bL_law_1960 rfl
def dL_law_1979 := dk96 (k := 19) bL_law_1960 rfl
def dL_law_1980 := dk46 (k := 20) bL_law_1960 rfl
def dL_law_1981 := dk42 (k := 21) bL_law_1960 rfl
def dL_law_1982 := dk29 (k := 22) bL_law_1960 rfl
def dL_law_1983 := dk8 (k := 23) bL_law_1960 rfl
theorem bL_law_1984 : bL cL_law 1984 [96, 46, 182, 1, 24, 87, 167, 0, 3, 132, 3, 6, 167, 248, 70, 4, 172] := bL_of (by decide +kernel)
def dL_law_1984 := dk96 (k := 0) bL_law_1984 rfl
def dL_law_1985 := dk46 (k := 1) bL_law_1984 rfl
def dL_law_1986 := dk182 (k := 2) (x := 280) bL_law_1984 rfl rfl
def dL_law_1989 := dk87 (k := 5) bL_law_1984 rfl
def dL_law_1990 := dk167 (k := 6) (x := 3) bL_law_1984 rfl (by decide)
theorem dL_law_1993 : decode cL_law 1993 = .ok (.iinc 3 6, 3) := dk132 (k := 9) bL_law_1984 rfl rfl (by decide)
def dL_law_1996 := dk167 (k := 12) (x := (-1978)) bL_law_1984 rfl (by decide)
def dL_law_1999 := dk4 (k := 15) bL_law_1984 rfl
def dL_law_2000 := dk172 (k := 16) bL_law_1984 rfl

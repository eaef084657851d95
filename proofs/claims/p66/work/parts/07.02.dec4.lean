theorem bL_law_0 : bL cL_law 0 [187, 0, 7, 89, 183, 0, 9, 76, 187, 0, 10, 89, 183, 0, 12, 77, 3, 62, 29, 42, 190, 16, 6, 100] := bL_of (by decide +kernel)
theorem dL_law_0 : decode cL_law 0 = .ok (.new 7, 3) := dk187 (k := 0) bL_law_0 rfl rfl
theorem dL_law_3 : decode cL_law 3 = .ok (.dup, 1) := dk89 (k := 3) bL_law_0 rfl
theorem dL_law_4 : decode cL_law 4 = .ok (.invokespecial 9, 3) := dk183 (k := 4) bL_law_0 rfl rfl
theorem dL_law_7 : decode cL_law 7 = .ok (.astore_n 1, 1) := dk76 (k := 7) bL_law_0 rfl
theorem dL_law_8 : decode cL_law 8 = .ok (.new 10, 3) := dk187 (k := 8) bL_law_0 rfl rfl
theorem dL_law_11 : decode cL_law 11 = .ok (.dup, 1) := dk89 (k := 11) bL_law_0 rfl
theorem dL_law_12 : decode cL_law 12 = .ok (.invokespecial 12, 3) := dk183 (k := 12) bL_law_0 rfl rfl
theorem dL_law_15 : decode cL_law 15 = .ok (.astore_n 2, 1) := dk77 (k := 15) bL_law_0 rfl
theorem dL_law_16 : decode cL_law 16 = .ok (.iconst 0, 1) := dk3 (k := 16) bL_law_0 rfl
theorem dL_law_17 : decode cL_law 17 = .ok (.istore_n 3, 1) := dk62 (k := 17) bL_law_0 rfl
theorem dL_law_18 : decode cL_law 18 = .ok (.iload_n 3, 1) := dk29 (k := 18) bL_law_0 rfl
theorem dL_law_19 : decode cL_law 19 = .ok (.aload_n 0, 1) := dk42 (k := 19) bL_law_0 rfl
theorem dL_law_20 : decode cL_law 20 = .ok (.arraylength, 1) := dk190 (k := 20) bL_law_0 rfl
theorem dL_law_21 : decode cL_law 21 = .ok (.bipush 6, 2) := dk16 (k := 21) bL_law_0 rfl (by decide)
theorem dL_law_23 : decode cL_law 23 = .ok (.isub, 1) := dk100 (k := 23) bL_law_0 rfl
theorem bL_law_24 : bL cL_law 24 [163, 7, 183, 42, 29, 46, 16, 127, 126] := bL_of (by decide +kernel)
theorem dL_law_24 : decode cL_law 24 = .ok (.if_icmp .gt 1975, 3) := dk163 (k := 0) bL_law_24 rfl (by decide)
theorem dL_law_27 : decode cL_law 27 = .ok (.aload_n 0, 1) := dk42 (k := 3) bL_law_24 rfl
theorem dL_law_28 : decode cL_law 28 = .ok (.iload_n 3, 1) := dk29 (k := 4) bL_law_24 rfl
theorem dL_law_29 : decode cL_law 29 = .ok (.iaload, 1) := dk46 (k := 5) bL_law_24 rfl
theorem dL_law_30 : decode cL_law 30 = .ok (.bipush 127, 2) := dk16 (k := 6) bL_law_24 rfl (by decide)
theorem dL_law_32 : decode cL_law 32 = .ok (.iand, 1) := dk126 (k := 8) bL_law_24 rfl
theorem dL_law_33 : decode cL_law 33 = .ok (.tableswitch 1960 0 64 #[275, 338, 361, 374, 397, 430, 453, 486, 509, 532, 545, 558, 581, 614, 637, 650, 663, 686, 709, 722, 735, 748, 771, 794, 807, 820, 843, 856, 889, 922, 955, 998, 1041, 1064, 1087, 1100, 1113, 1136, 1149, 1182, 1195, 1208, 1231, 1264, 1277, 1300, 1323, 1356, 1379, 1392, 1415, 1448, 1481, 1504, 1527, 1560, 1603, 1646, 1669, 1712, 1735, 1758, 1781, 1824, 1897], 275) := by decide +kernel
theorem bL_law_308 : bL cL_law 308 [43, 42, 29, 4, 96, 46, 42, 29, 5, 96, 46, 42, 29, 6, 96, 46, 42, 29, 7, 96, 46, 42, 29, 8] := bL_of (by decide +kernel)
theorem dL_law_308 : decode cL_law 308 = .ok (.aload_n 1, 1) := dk43 (k := 0) bL_law_308 rfl
theorem dL_law_309 : decode cL_law 309 = .ok (.aload_n 0, 1) := dk42 (k := 1) bL_law_308 rfl
theorem dL_law_310 : decode cL_law 310 = .ok (.iload_n 3, 1) := dk29 (k := 2) bL_law_308 rfl
theorem dL_law_311 : decode cL_law 311 = .ok (.iconst 1, 1) := dk4 (k := 3) bL_law_308 rfl
theorem dL_law_312 : decode cL_law 312 = .ok (.iadd, 1) := dk96 (k := 4) bL_law_308 rfl
theorem dL_law_313 : decode cL_law 313 = .ok (.iaload, 1) := dk46 (k := 5) bL_law_308 rfl
theorem dL_law_314 : decode cL_law 314 = .ok (.aload_n 0, 1) := dk42 (k := 6) bL_law_308 rfl
theorem dL_law_315 : decode cL_law 315 = .ok (.iload_n 3, 1) := dk29 (k := 7) bL_law_308 rfl
theorem dL_law_316 : decode cL_law 316 = .ok (.iconst 2, 1) := dk5 (k := 8) bL_law_308 rfl
theorem dL_law_317 : decode cL_law 317 = .ok (.iadd, 1) := dk96 (k := 9) bL_law_308 rfl
theorem dL_law_318 : decode cL_law 318 = .ok (.iaload, 1) := dk46 (k := 10) bL_law_308 rfl
theorem dL_law_319 : decode cL_law 319 = .ok (.aload_n 0, 1) := dk42 (k := 11) bL_law_308 rfl
theorem dL_law_320 : decode cL_law 320 = .ok (.iload_n 3, 1) := dk29 (k := 12) bL_law_308 rfl
theorem dL_law_321 : decode cL_law 321 = .ok (.iconst 3, 1) := dk6 (k := 13) bL_law_308 rfl
theorem dL_law_322 : decode cL_law 322 = .ok (.iadd, 1) := dk96 (k := 14) bL_law_308 rfl
theorem dL_law_323 : decode cL_law 323 = .ok (.iaload, 1) := dk46 (k := 15) bL_law_308 rfl
theorem dL_law_324 : decode cL_law 324 = .ok (.aload_n 0, 1) := dk42 (k := 16) bL_law_308 rfl
theorem dL_law_325 : decode cL_law 325 = .ok (.iload_n 3, 1) := dk29 (k := 17) bL_law_308 rfl
theorem dL_law_326 : decode cL_law 326 = .ok (.iconst 4, 1) := dk7 (k := 18) bL_law_308 rfl
theorem dL_law_327 : decode cL_law 327 = .ok (.iadd, 1) := dk96 (k := 19) bL_law_308 rfl
theorem dL_law_328 : decode cL_law 328 = .ok (.iaload, 1) := dk46 (k := 20) bL_law_308 rfl
theorem dL_law_329 : decode cL_law 329 = .ok (.aload_n 0, 1) := dk42 (k := 21) bL_law_308 rfl
theorem dL_law_330 : decode cL_law 330 = .ok (.iload_n 3, 1) := dk29 (k := 22) bL_law_308 rfl
theorem dL_law_331 : decode cL_law 331 = .ok (.iconst 5, 1) := dk8 (k := 23) bL_law_308 rfl
theorem bL_law_332 : bL cL_law 332 [96, 46, 182, 0, 13, 87, 44, 42, 29, 4, 96, 46, 42, 29, 5, 96, 46, 42, 29, 6, 96, 46, 42, 29] := bL_of (by decide +kernel)
theorem dL_law_332 : decode cL_law 332 = .ok (.iadd, 1) := dk96 (k := 0) bL_law_332 rfl
theorem dL_law_333 : decode cL_law 333 = .ok (.iaload, 1) := dk46 (k := 1) bL_law_332 rfl
theorem dL_law_334 : decode cL_law 334 = .ok (.invokevirtual 13, 3) := dk182 (k := 2) bL_law_332 rfl rfl
theorem dL_law_337 : decode cL_law 337 = .ok (.pop, 1) := dk87 (k := 5) bL_law_332 rfl
theorem dL_law_338 : decode cL_law 338 = .ok (.aload_n 2, 1) := dk44 (k := 6) bL_law_332 rfl
theorem dL_law_339 : decode cL_law 339 = .ok (.aload_n 0, 1) := dk42 (k := 7) bL_law_332 rfl
theorem dL_law_340 : decode cL_law 340 = .ok (.iload_n 3, 1) := dk29 (k := 8) bL_law_332 rfl
theorem dL_law_341 : decode cL_law 341 = .ok (.iconst 1, 1) := dk4 (k := 9) bL_law_332 rfl
theorem dL_law_342 : decode cL_law 342 = .ok (.iadd, 1) := dk96 (k := 10) bL_law_332 rfl
theorem dL_law_343 : decode cL_law 343 = .ok (.iaload, 1) := dk46 (k := 11) bL_law_332 rfl
theorem dL_law_344 : decode cL_law 344 = .ok (.aload_n 0, 1) := dk42 (k := 12) bL_law_332 rfl
theorem dL_law_345 : decode cL_law 345 = .ok (.iload_n 3, 1) := dk29 (k := 13) bL_law_332 rfl
theorem dL_law_346 : decode cL_law 346 = .ok (.iconst 2, 1) := dk5 (k := 14) bL_law_332 rfl
theorem dL_law_347 : decode cL_law 347 = .ok (.iadd, 1) := dk96 (k := 15) bL_law_332 rfl
theorem dL_law_348 : decode cL_law 348 = .ok (.iaload, 1) := dk46 (k := 16) bL_law_332 rfl
theorem dL_law_349 : decode cL_law 349 = .ok (.aload_n 0, 1) := dk42 (k := 17) bL_law_332 rfl
theorem dL_law_350 : decode cL_law 350 = .ok (.iload_n 3, 1) := dk29 (k := 18) bL_law_332 rfl
theorem dL_law_351 : decode cL_law 351 = .ok (.iconst 3, 1) := dk6 (k := 19) bL_law_332 rfl
theorem dL_law_352 : decode cL_law 352 = .ok (.iadd, 1) := dk96 (k := 20) bL_law_332 rfl
theorem dL_law_353 : decode cL_law 353 = .ok (.iaload, 1) := dk46 (k := 21) bL_law_332 rfl
theorem dL_law_354 : decode cL_law 354 = .ok (.aload_n 0, 1) := dk42 (k := 22) bL_law_332 rfl
theorem dL_law_355 : decode cL_law 355 = .ok (.iload_n 3, 1) := dk29 (k := 23) bL_law_332 rfl
theorem bL_law_356 : bL cL_law 356 [7, 96, 46, 42, 29, 8, 96, 46, 182, 0, 17, 87, 167, 6, 89, 43, 42, 29, 4, 96, 46, 182, 0, 18] := bL_of (by decide +kernel)
theorem dL_law_356 : decode cL_law 356 = .ok (.iconst 4, 1) := dk7 (k := 0) bL_law_356 rfl
theorem dL_law_357 : decode cL_law 357 = .ok (.iadd, 1) := dk96 (k := 1) bL_law_356 rfl
theorem dL_law_358 : decode cL_law 358 = .ok (.iaload, 1) := dk46 (k := 2) bL_law_356 rfl
theorem dL_law_359 : decode cL_law 359 = .ok (.aload_n 0, 1) := dk42 (k := 3) bL_law_356 rfl
theorem dL_law_360 : decode cL_law 360 = .ok (.iload_n 3, 1) := dk29 (k := 4) bL_law_356 rfl
theorem dL_law_361 : decode cL_law 361 = .ok (.iconst 5, 1) := dk8 (k := 5) bL_law_356 rfl
theorem dL_law_362 : decode cL_law 362 = .ok (.iadd, 1) := dk96 (k := 6) bL_law_356 rfl
theorem dL_law_363 : decode cL_law 363 = .ok (.iaload, 1) := dk46 (k := 7) bL_law_356 rfl
theorem dL_law_364 : decode cL_law 364 = .ok (.invokevirtual 17, 3) := dk182 (k := 8) bL_law_356 rfl rfl
theorem dL_law_367 : decode cL_law 367 = .ok (.pop, 1) := dk87 (k := 11) bL_law_356 rfl
theorem dL_law_368 : decode cL_law 368 = .ok (.goto 1625, 3) := dk167 (k := 12) bL_law_356 rfl (by decide)
theorem dL_law_371 : decode cL_law 371 = .ok (.aload_n 1, 1) := dk43 (k := 15) bL_law_356 rfl
theorem dL_law_372 : decode cL_law 372 = .ok (.aload_n 0, 1) := dk42 (k := 16) bL_law_356 rfl
theorem dL_law_373 : decode cL_law 373 = .ok (.iload_n 3, 1) := dk29 (k := 17) bL_law_356 rfl
theorem dL_law_374 : decode cL_law 374 = .ok (.iconst 1, 1) := dk4 (k := 18) bL_law_356 rfl
theorem dL_law_375 : decode cL_law 375 = .ok (.iadd, 1) := dk96 (k := 19) bL_law_356 rfl
theorem dL_law_376 : decode cL_law 376 = .ok (.iaload, 1) := dk46 (k := 20) bL_law_356 rfl
theorem dL_law_377 : decode cL_law 377 = .ok (.invokevirtual 18, 3) := dk182 (k := 21) bL_law_356 rfl rfl
theorem bL_law_380 : bL cL_law 380 [87, 44, 42, 29, 4, 96, 46, 182, 0, 22, 87, 167, 6, 66, 43, 182, 0, 23, 87, 44, 182, 0, 27, 87] := bL_of (by decide +kernel)
theorem dL_law_380 : decode cL_law 380 = .ok (.pop, 1) := dk87 (k := 0) bL_law_380 rfl
theorem dL_law_381 : decode cL_law 381 = .ok (.aload_n 2, 1) := dk44 (k := 1) bL_law_380 rfl
theorem dL_law_382 : decode cL_law 382 = .ok (.aload_n 0, 1) := dk42 (k := 2) bL_law_380 rfl
theorem dL_law_383 : decode cL_law 383 = .ok (.iload_n 3, 1) := dk29 (k := 3) bL_law_380 rfl
theorem dL_law_384 : decode cL_law 384 = .ok (.iconst 1, 1) := dk4 (k := 4) bL_law_380 rfl
theorem dL_law_385 : decode cL_law 385 = .ok (.iadd, 1) := dk96 (k := 5) bL_law_380 rfl
theorem dL_law_386 : decode cL_law 386 = .ok (.iaload, 1) := dk46 (k := 6) bL_law_380 rfl
theorem dL_law_387 : decode cL_law 387 = .ok (.invokevirtual 22, 3) := dk182 (k := 7) bL_law_380 rfl rfl
theorem dL_law_390 : decode cL_law 390 = .ok (.pop, 1) := dk87 (k := 10) bL_law_380 rfl
theorem dL_law_391 : decode cL_law 391 = .ok (.goto 1602, 3) := dk167 (k := 11) bL_law_380 rfl (by decide)
theorem dL_law_394 : decode cL_law 394 = .ok (.aload_n 1, 1) := dk43 (k := 14) bL_law_380 rfl
theorem dL_law_395 : decode cL_law 395 = .ok (.invokevirtual 23, 3) := dk182 (k := 15) bL_law_380 rfl rfl
theorem dL_law_398 : decode cL_law 398 = .ok (.pop, 1) := dk87 (k := 18) bL_law_380 rfl
theorem dL_law_399 : decode cL_law 399 = .ok (.aload_n 2, 1) := dk44 (k := 19) bL_law_380 rfl
theorem dL_law_400 : decode cL_law 400 = .ok (.invokevirtual 27, 3) := dk182 (k := 20) bL_law_380 rfl rfl
theorem dL_law_403 : decode cL_law 403 = .ok (.pop, 1) := dk87 (k := 23) bL_law_380 rfl
theorem bL_law_404 : bL cL_law 404 [167, 6, 53, 43, 42, 29, 4, 96, 46, 182, 0, 28, 87, 44, 42, 29, 4, 96, 46, 182, 0, 31, 87, 167, 6, 30] := bL_of (by decide +kernel)
theorem dL_law_404 : decode cL_law 404 = .ok (.goto 1589, 3) := dk167 (k := 0) bL_law_404 rfl (by decide)
theorem dL_law_407 : decode cL_law 407 = .ok (.aload_n 1, 1) := dk43 (k := 3) bL_law_404 rfl
theorem dL_law_408 : decode cL_law 408 = .ok (.aload_n 0, 1) := dk42 (k := 4) bL_law_404 rfl
theorem dL_law_409 : decode cL_law 409 = .ok (.iload_n 3, 1) := dk29 (k := 5) bL_law_404 rfl
theorem dL_law_410 : decode cL_law 410 = .ok (.iconst 1, 1) := dk4 (k := 6) bL_law_404 rfl
theorem dL_law_411 : decode cL_law 411 = .ok (.iadd, 1) := dk96 (k := 7) bL_law_404 rfl
theorem dL_law_412 : decode cL_law 412 = .ok (.iaload, 1) := dk46 (k := 8) bL_law_404 rfl
theorem dL_law_413 : decode cL_law 413 = .ok (.invokevirtual 28, 3) := dk182 (k := 9) bL_law_404 rfl rfl
theorem dL_law_416 : decode cL_law 416 = .ok (.pop, 1) := dk87 (k := 12) bL_law_404 rfl
theorem dL_law_417 : decode cL_law 417 = .ok (.aload_n 2, 1) := dk44 (k := 13) bL_law_404 rfl
theorem dL_law_418 : decode cL_law 418 = .ok (.aload_n 0, 1) := dk42 (k := 14) bL_law_404 rfl
theorem dL_law_419 : decode cL_law 419 = .ok (.iload_n 3, 1) := dk29 (k := 15) bL_law_404 rfl
theorem dL_law_420 : decode cL_law 420 = .ok (.iconst 1, 1) := dk4 (k := 16) bL_law_404 rfl
theorem dL_law_421 : decode cL_law 421 = .ok (.iadd, 1) := dk96 (k := 17) bL_law_404 rfl
theorem dL_law_422 : decode cL_law 422 = .ok (.iaload, 1) := dk46 (k := 18) bL_law_404 rfl
theorem dL_law_423 : decode cL_law 423 = .ok (.invokevirtual 31, 3) := dk182 (k := 19) bL_law_404 rfl rfl
theorem dL_law_426 : decode cL_law 426 = .ok (.pop, 1) := dk87 (k := 22) bL_law_404 rfl
theorem dL_law_427 : decode cL_law 427 = .ok (.goto 1566, 3) := dk167 (k := 23) bL_law_404 rfl (by decide)
theorem bL_law_430 : bL cL_law 430 [43, 42, 29, 4, 96, 46, 42, 29, 5, 96, 46, 182, 0, 32, 87, 44, 42, 29, 4, 96, 46, 42, 29, 5] := bL_of (by decide +kernel)
theorem dL_law_430 : decode cL_law 430 = .ok (.aload_n 1, 1) := dk43 (k := 0) bL_law_430 rfl
theorem dL_law_431 : decode cL_law 431 = .ok (.aload_n 0, 1) := dk42 (k := 1) bL_law_430 rfl
theorem dL_law_432 : decode cL_law 432 = .ok (.iload_n 3, 1) := dk29 (k := 2) bL_law_430 rfl
theorem dL_law_433 : decode cL_law 433 = .ok (.iconst 1, 1) := dk4 (k := 3) bL_law_430 rfl
theorem dL_law_434 : decode cL_law 434 = .ok (.iadd, 1) := dk96 (k := 4) bL_law_430 rfl
theorem dL_law_435 : decode cL_law 435 = .ok (.iaload, 1) := dk46 (k := 5) bL_law_430 rfl
theorem dL_law_436 : decode cL_law 436 = .ok (.aload_n 0, 1) := dk42 (k := 6) bL_law_430 rfl
theorem dL_law_437 : decode cL_law 437 = .ok (.iload_n 3, 1) := dk29 (k := 7) bL_law_430 rfl
theorem dL_law_438 : decode cL_law 438 = .ok (.iconst 2, 1) := dk5 (k := 8) bL_law_430 rfl
theorem dL_law_439 : decode cL_law 439 = .ok (.iadd, 1) := dk96 (k := 9) bL_law_430 rfl
theorem dL_law_440 : decode cL_law 440 = .ok (.iaload, 1) := dk46 (k := 10) bL_law_430 rfl
theorem dL_law_441 : decode cL_law 441 = .ok (.invokevirtual 32, 3) := dk182 (k := 11) bL_law_430 rfl rfl
theorem dL_law_444 : decode cL_law 444 = .ok (.pop, 1) := dk87 (k := 14) bL_law_430 rfl
theorem dL_law_445 : decode cL_law 445 = .ok (.aload_n 2, 1) := dk44 (k := 15) bL_law_430 rfl
theorem dL_law_446 : decode cL_law 446 = .ok (.aload_n 0, 1) := dk42 (k := 16) bL_law_430 rfl
theorem dL_law_447 : decode cL_law 447 = .ok (.iload_n 3, 1) := dk29 (k := 17) bL_law_430 rfl
theorem dL_law_448 : decode cL_law 448 = .ok (.iconst 1, 1) := dk4 (k := 18) bL_law_430 rfl
theorem dL_law_449 : decode cL_law 449 = .ok (.iadd, 1) := dk96 (k := 19) bL_law_430 rfl
theorem dL_law_450 : decode cL_law 450 = .ok (.iaload, 1) := dk46 (k := 20) bL_law_430 rfl
theorem dL_law_451 : decode cL_law 451 = .ok (.aload_n 0, 1) := dk42 (k := 21) bL_law_430 rfl
theorem dL_law_452 : decode cL_law 452 = .ok (.iload_n 3, 1) := dk29 (k := 22) bL_law_430 rfl
theorem dL_law_453 : decode cL_law 453 = .ok (.iconst 2, 1) := dk5 (k := 23) bL_law_430 rfl
theorem bL_law_454 : bL cL_law 454 [96, 46, 182, 0, 36, 87, 167, 5, 253, 43, 42, 29, 4, 96, 46, 182, 0, 37, 87, 44, 42, 29, 4, 96] := bL_of (by decide +kernel)
theorem dL_law_454 : decode cL_law 454 = .ok (.iadd, 1) := dk96 (k := 0) bL_law_454 rfl
theorem dL_law_455 : decode cL_law 455 = .ok (.iaload, 1) := dk46 (k := 1) bL_law_454 rfl
theorem dL_law_456 : decode cL_law 456 = .ok (.invokevirtual 36, 3) := dk182 (k := 2) bL_law_454 rfl rfl
theorem dL_law_459 : decode cL_law 459 = .ok (.pop, 1) := dk87 (k := 5) bL_law_454 rfl
theorem dL_law_460 : decode cL_law 460 = .ok (.goto 1533, 3) := dk167 (k := 6) bL_law_454 rfl (by decide)
theorem dL_law_463 : decode cL_law 463 = .ok (.aload_n 1, 1) := dk43 (k := 9) bL_law_454 rfl
theorem dL_law_464 : decode cL_law 464 = .ok (.aload_n 0, 1) := dk42 (k := 10) bL_law_454 rfl
theorem dL_law_465 : decode cL_law 465 = .ok (.iload_n 3, 1) := dk29 (k := 11) bL_law_454 rfl
theorem dL_law_466 : decode cL_law 466 = .ok (.iconst 1, 1) := dk4 (k := 12) bL_law_454 rfl
theorem dL_law_467 : decode cL_law 467 = .ok (.iadd, 1) := dk96 (k := 13) bL_law_454 rfl
theorem dL_law_468 : decode cL_law 468 = .ok (.iaload, 1) := dk46 (k := 14) bL_law_454 rfl
theorem dL_law_469 : decode cL_law 469 = .ok (.invokevirtual 37, 3) := dk182 (k := 15) bL_law_454 rfl rfl
theorem dL_law_472 : decode cL_law 472 = .ok (.pop, 1) := dk87 (k := 18) bL_law_454 rfl
theorem dL_law_473 : decode cL_law 473 = .ok (.aload_n 2, 1) := dk44 (k := 19) bL_law_454 rfl
theorem dL_law_474 : decode cL_law 474 = .ok (.aload_n 0, 1) := dk42 (k := 20) bL_law_454 rfl
theorem dL_law_475 : decode cL_law 475 = .ok (.iload_n 3, 1) := dk29 (k := 21) bL_law_454 rfl
theorem dL_law_476 : decode cL_law 476 = .ok (.iconst 1, 1) := dk4 (k := 22) bL_law_454 rfl
theorem dL_law_477 : decode cL_law 477 = .ok (.iadd, 1) := dk96 (k := 23) bL_law_454 rfl
theorem bL_law_478 : bL cL_law 478 [46, 182, 0, 40, 87, 167, 5, 230, 43, 42, 29, 4, 96, 46, 42, 29, 5, 96, 46, 182, 0, 41, 87, 44] := bL_of (by decide +kernel)
theorem dL_law_478 : decode cL_law 478 = .ok (.iaload, 1) := dk46 (k := 0) bL_law_478 rfl
theorem dL_law_479 : decode cL_law 479 = .ok (.invokevirtual 40, 3) := dk182 (k := 1) bL_law_478 rfl rfl
theorem dL_law_482 : decode cL_law 482 = .ok (.pop, 1) := dk87 (k := 4) bL_law_478 rfl
theorem dL_law_483 : decode cL_law 483 = .ok (.goto 1510, 3) := dk167 (k := 5) bL_law_478 rfl (by decide)
theorem dL_law_486 : decode cL_law 486 = .ok (.aload_n 1, 1) := dk43 (k := 8) bL_law_478 rfl
theorem dL_law_487 : decode cL_law 487 = .ok (.aload_n 0, 1) := dk42 (k := 9) bL_law_478 rfl
theorem dL_law_488 : decode cL_law 488 = .ok (.iload_n 3, 1) := dk29 (k := 10) bL_law_478 rfl
theorem dL_law_489 : decode cL_law 489 = .ok (.iconst 1, 1) := dk4 (k := 11) bL_law_478 rfl
theorem dL_law_490 : decode cL_law 490 = .ok (.iadd, 1) := dk96 (k := 12) bL_law_478 rfl
theorem dL_law_491 : decode cL_law 491 = .ok (.iaload, 1) := dk46 (k := 13) bL_law_478 rfl
theorem dL_law_492 : decode cL_law 492 = .ok (.aload_n 0, 1) := dk42 (k := 14) bL_law_478 rfl
theorem dL_law_493 : decode cL_law 493 = .ok (.iload_n 3, 1) := dk29 (k := 15) bL_law_478 rfl
theorem dL_law_494 : decode cL_law 494 = .ok (.iconst 2, 1) := dk5 (k := 16) bL_law_478 rfl
theorem dL_law_495 : decode cL_law 495 = .ok (.iadd, 1) := dk96 (k := 17) bL_law_478 rfl
theorem dL_law_496 : decode cL_law 496 = .ok (.iaload, 1) := dk46 (k := 18) bL_law_478 rfl
theorem dL_law_497 : decode cL_law 497 = .ok (.invokevirtual 41, 3) := dk182 (k := 19) bL_law_478 rfl rfl
theorem dL_law_500 : decode cL_law 500 = .ok (.pop, 1) := dk87 (k := 22) bL_law_478 rfl
theorem dL_law_501 : decode cL_law 501 = .ok (.aload_n 2, 1) := dk44 (k := 23) bL_law_478 rfl
theorem bL_law_502 : bL cL_law 502 [42, 29, 4, 96, 46, 42, 29, 5, 96, 46, 182, 0, 44, 87, 167, 5, 197, 43, 42, 29, 4, 96, 46, 182, 0, 45] := bL_of (by decide +kernel)
theorem dL_law_502 : decode cL_law 502 = .ok (.aload_n 0, 1) := dk42 (k := 0) bL_law_502 rfl
theorem dL_law_503 : decode cL_law 503 = .ok (.iload_n 3, 1) := dk29 (k := 1) bL_law_502 rfl
theorem dL_law_504 : decode cL_law 504 = .ok (.iconst 1, 1) := dk4 (k := 2) bL_law_502 rfl
theorem dL_law_505 : decode cL_law 505 = .ok (.iadd, 1) := dk96 (k := 3) bL_law_502 rfl
theorem dL_law_506 : decode cL_law 506 = .ok (.iaload, 1) := dk46 (k := 4) bL_law_502 rfl
theorem dL_law_507 : decode cL_law 507 = .ok (.aload_n 0, 1) := dk42 (k := 5) bL_law_502 rfl
theorem dL_law_508 : decode cL_law 508 = .ok (.iload_n 3, 1) := dk29 (k := 6) bL_law_502 rfl
theorem dL_law_509 : decode cL_law 509 = .ok (.iconst 2, 1) := dk5 (k := 7) bL_law_502 rfl
theorem dL_law_510 : decode cL_law 510 = .ok (.iadd, 1) := dk96 (k := 8) bL_law_502 rfl
theorem dL_law_511 : decode cL_law 511 = .ok (.iaload, 1) := dk46 (k := 9) bL_law_502 rfl
theorem dL_law_512 : decode cL_law 512 = .ok (.invokevirtual 44, 3) := dk182 (k := 10) bL_law_502 rfl rfl
theorem dL_law_515 : decode cL_law 515 = .ok (.pop, 1) := dk87 (k := 13) bL_law_502 rfl
theorem dL_law_516 : decode cL_law 516 = .ok (.goto 1477, 3) := dk167 (k := 14) bL_law_502 rfl (by decide)
theorem dL_law_519 : decode cL_law 519 = .ok (.aload_n 1, 1) := dk43 (k := 17) bL_law_502 rfl
theorem dL_law_520 : decode cL_law 520 = .ok (.aload_n 0, 1) := dk42 (k := 18) bL_law_502 rfl
theorem dL_law_521 : decode cL_law 521 = .ok (.iload_n 3, 1) := dk29 (k := 19) bL_law_502 rfl
theorem dL_law_522 : decode cL_law 522 = .ok (.iconst 1, 1) := dk4 (k := 20) bL_law_502 rfl
theorem dL_law_523 : decode cL_law 523 = .ok (.iadd, 1) := dk96 (k := 21) bL_law_502 rfl
theorem dL_law_524 : decode cL_law 524 = .ok (.iaload, 1) := dk46 (k := 22) bL_law_502 rfl
theorem dL_law_525 : decode cL_law 525 = .ok (.invokevirtual 45, 3) := dk182 (k := 23) bL_law_502 rfl rfl
theorem bL_law_528 : bL cL_law 528 [87, 44, 42, 29, 4, 96, 46, 182, 0, 48, 87, 167, 5, 174, 43, 42, 29, 4, 96, 46, 182, 0, 49, 87] := bL_of (by decide +kernel)
theorem dL_law_528 : decode cL_law 528 = .ok (.pop, 1) := dk87 (k := 0) bL_law_528 rfl
theorem dL_law_529 : decode cL_law 529 = .ok (.aload_n 2, 1) := dk44 (k := 1) bL_law_528 rfl
theorem dL_law_530 : decode cL_law 530 = .ok (.aload_n 0, 1) := dk42 (k := 2) bL_law_528 rfl
theorem dL_law_531 : decode cL_law 531 = .ok (.iload_n 3, 1) := dk29 (k := 3) bL_law_528 rfl
theorem dL_law_532 : decode cL_law 532 = .ok (.iconst 1, 1) := dk4 (k := 4) bL_law_528 rfl
theorem dL_law_533 : decode cL_law 533 = .ok (.iadd, 1) := dk96 (k := 5) bL_law_528 rfl
theorem dL_law_534 : decode cL_law 534 = .ok (.iaload, 1) := dk46 (k := 6) bL_law_528 rfl
theorem dL_law_535 : decode cL_law 535 = .ok (.invokevirtual 48, 3) := dk182 (k := 7) bL_law_528 rfl rfl
theorem dL_law_538 : decode cL_law 538 = .ok (.pop, 1) := dk87 (k := 10) bL_law_528 rfl
theorem dL_law_539 : decode cL_law 539 = .ok (.goto 1454, 3) := dk167 (k := 11) bL_law_528 rfl (by decide)
theorem dL_law_542 : decode cL_law 542 = .ok (.aload_n 1, 1) := dk43 (k := 14) bL_law_528 rfl
theorem dL_law_543 : decode cL_law 543 = .ok (.aload_n 0, 1) := dk42 (k := 15) bL_law_528 rfl
theorem dL_law_544 : decode cL_law 544 = .ok (.iload_n 3, 1) := dk29 (k := 16) bL_law_528 rfl
theorem dL_law_545 : decode cL_law 545 = .ok (.iconst 1, 1) := dk4 (k := 17) bL_law_528 rfl
theorem dL_law_546 : decode cL_law 546 = .ok (.iadd, 1) := dk96 (k := 18) bL_law_528 rfl
theorem dL_law_547 : decode cL_law 547 = .ok (.iaload, 1) := dk46 (k := 19) bL_law_528 rfl
theorem dL_law_548 : decode cL_law 548 = .ok (.invokevirtual 49, 3) := dk182 (k := 20) bL_law_528 rfl rfl
theorem dL_law_551 : decode cL_law 551 = .ok (.pop, 1) := dk87 (k := 23) bL_law_528 rfl
theorem bL_law_552 : bL cL_law 552 [44, 42, 29, 4, 96, 46, 182, 0, 52, 87, 167, 5, 151, 43, 182, 0, 53, 87, 44, 182, 0, 56, 87, 167, 5, 138] := bL_of (by decide +kernel)
theorem dL_law_552 : decode cL_law 552 = .ok (.aload_n 2, 1) := dk44 (k := 0) bL_law_552 rfl
theorem dL_law_553 : decode cL_law 553 = .ok (.aload_n 0, 1) := dk42 (k := 1) bL_law_552 rfl
theorem dL_law_554 : decode cL_law 554 = .ok (.iload_n 3, 1) := dk29 (k := 2) bL_law_552 rfl
theorem dL_law_555 : decode cL_law 555 = .ok (.iconst 1, 1) := dk4 (k := 3) bL_law_552 rfl
theorem dL_law_556 : decode cL_law 556 = .ok (.iadd, 1) := dk96 (k := 4) bL_law_552 rfl
theorem dL_law_557 : decode cL_law 557 = .ok (.iaload, 1) := dk46 (k := 5) bL_law_552 rfl
theorem dL_law_558 : decode cL_law 558 = .ok (.invokevirtual 52, 3) := dk182 (k := 6) bL_law_552 rfl rfl
theorem dL_law_561 : decode cL_law 561 = .ok (.pop, 1) := dk87 (k := 9) bL_law_552 rfl
theorem dL_law_562 : decode cL_law 562 = .ok (.goto 1431, 3) := dk167 (k := 10) bL_law_552 rfl (by decide)
theorem dL_law_565 : decode cL_law 565 = .ok (.aload_n 1, 1) := dk43 (k := 13) bL_law_552 rfl
theorem dL_law_566 : decode cL_law 566 = .ok (.invokevirtual 53, 3) := dk182 (k := 14) bL_law_552 rfl rfl
theorem dL_law_569 : decode cL_law 569 = .ok (.pop, 1) := dk87 (k := 17) bL_law_552 rfl
theorem dL_law_570 : decode cL_law 570 = .ok (.aload_n 2, 1) := dk44 (k := 18) bL_law_552 rfl
theorem dL_law_571 : decode cL_law 571 = .ok (.invokevirtual 56, 3) := dk182 (k := 19) bL_law_552 rfl rfl
theorem dL_law_574 : decode cL_law 574 = .ok (.pop, 1) := dk87 (k := 22) bL_law_552 rfl
theorem dL_law_575 : decode cL_law 575 = .ok (.goto 1418, 3) := dk167 (k := 23) bL_law_552 rfl (by decide)
theorem bL_law_578 : bL cL_law 578 [43, 182, 0, 57, 87, 44, 182, 0, 60, 87, 167, 5, 125, 43, 42, 29, 4, 96, 46, 182, 0, 61, 87, 44] := bL_of (by decide +kernel)
theorem dL_law_578 : decode cL_law 578 = .ok (.aload_n 1, 1) := dk43 (k := 0) bL_law_578 rfl
theorem dL_law_579 : decode cL_law 579 = .ok (.invokevirtual 57, 3) := dk182 (k := 1) bL_law_578 rfl rfl
theorem dL_law_582 : decode cL_law 582 = .ok (.pop, 1) := dk87 (k := 4) bL_law_578 rfl
theorem dL_law_583 : decode cL_law 583 = .ok (.aload_n 2, 1) := dk44 (k := 5) bL_law_578 rfl
theorem dL_law_584 : decode cL_law 584 = .ok (.invokevirtual 60, 3) := dk182 (k := 6) bL_law_578 rfl rfl
theorem dL_law_587 : decode cL_law 587 = .ok (.pop, 1) := dk87 (k := 9) bL_law_578 rfl
theorem dL_law_588 : decode cL_law 588 = .ok (.goto 1405, 3) := dk167 (k := 10) bL_law_578 rfl (by decide)
theorem dL_law_591 : decode cL_law 591 = .ok (.aload_n 1, 1) := dk43 (k := 13) bL_law_578 rfl
theorem dL_law_592 : decode cL_law 592 = .ok (.aload_n 0, 1) := dk42 (k := 14) bL_law_578 rfl
theorem dL_law_593 : decode cL_law 593 = .ok (.iload_n 3, 1) := dk29 (k := 15) bL_law_578 rfl
theorem dL_law_594 : decode cL_law 594 = .ok (.iconst 1, 1) := dk4 (k := 16) bL_law_578 rfl
theorem dL_law_595 : decode cL_law 595 = .ok (.iadd, 1) := dk96 (k := 17) bL_law_578 rfl
theorem dL_law_596 : decode cL_law 596 = .ok (.iaload, 1) := dk46 (k := 18) bL_law_578 rfl
theorem dL_law_597 : decode cL_law 597 = .ok (.invokevirtual 61, 3) := dk182 (k := 19) bL_law_578 rfl rfl
theorem dL_law_600 : decode cL_law 600 = .ok (.pop, 1) := dk87 (k := 22) bL_law_578 rfl
theorem dL_law_601 : decode cL_law 601 = .ok (.aload_n 2, 1) := dk44 (k := 23) bL_law_578 rfl
theorem bL_law_602 : bL cL_law 602 [42, 29, 4, 96, 46, 182, 0, 64, 87, 167, 5, 102, 43, 42, 29, 4, 96, 46, 42, 29, 5, 96, 46, 182, 0, 65] := bL_of (by decide +kernel)
theorem dL_law_602 : decode cL_law 602 = .ok (.aload_n 0, 1) := dk42 (k := 0) bL_law_602 rfl
theorem dL_law_603 : decode cL_law 603 = .ok (.iload_n 3, 1) := dk29 (k := 1) bL_law_602 rfl
theorem dL_law_604 : decode cL_law 604 = .ok (.iconst 1, 1) := dk4 (k := 2) bL_law_602 rfl
theorem dL_law_605 : decode cL_law 605 = .ok (.iadd, 1) := dk96 (k := 3) bL_law_602 rfl
theorem dL_law_606 : decode cL_law 606 = .ok (.iaload, 1) := dk46 (k := 4) bL_law_602 rfl
theorem dL_law_607 : decode cL_law 607 = .ok (.invokevirtual 64, 3) := dk182 (k := 5) bL_law_602 rfl rfl
theorem dL_law_610 : decode cL_law 610 = .ok (.pop, 1) := dk87 (k := 8) bL_law_602 rfl
theorem dL_law_611 : decode cL_law 611 = .ok (.goto 1382, 3) := dk167 (k := 9) bL_law_602 rfl (by decide)
theorem dL_law_614 : decode cL_law 614 = .ok (.aload_n 1, 1) := dk43 (k := 12) bL_law_602 rfl
theorem dL_law_615 : decode cL_law 615 = .ok (.aload_n 0, 1) := dk42 (k := 13) bL_law_602 rfl
theorem dL_law_616 : decode cL_law 616 = .ok (.iload_n 3, 1) := dk29 (k := 14) bL_law_602 rfl
theorem dL_law_617 : decode cL_law 617 = .ok (.iconst 1, 1) := dk4 (k := 15) bL_law_602 rfl
theorem dL_law_618 : decode cL_law 618 = .ok (.iadd, 1) := dk96 (k := 16) bL_law_602 rfl
theorem dL_law_619 : decode cL_law 619 = .ok (.iaload, 1) := dk46 (k := 17) bL_law_602 rfl
theorem dL_law_620 : decode cL_law 620 = .ok (.aload_n 0, 1) := dk42 (k := 18) bL_law_602 rfl
theorem dL_law_621 : decode cL_law 621 = .ok (.iload_n 3, 1) := dk29 (k := 19) bL_law_602 rfl
theorem dL_law_622 : decode cL_law 622 = .ok (.iconst 2, 1) := dk5 (k := 20) bL_law_602 rfl
theorem dL_law_623 : decode cL_law 623 = .ok (.iadd, 1) := dk96 (k := 21) bL_law_602 rfl
theorem dL_law_624 : decode cL_law 624 = .ok (.iaload, 1) := dk46 (k := 22) bL_law_602 rfl
theorem dL_law_625 : decode cL_law 625 = .ok (.invokevirtual 65, 3) := dk182 (k := 23) bL_law_602 rfl rfl
theorem bL_law_628 : bL cL_law 628 [87, 44, 42, 29, 4, 96, 46, 42, 29, 5, 96, 46, 182, 0, 68, 87, 167, 5, 69, 43, 42, 29, 4, 96] := bL_of (by decide +kernel)
theorem dL_law_628 : decode cL_law 628 = .ok (.pop, 1) := dk87 (k := 0) bL_law_628 rfl
theorem dL_law_629 : decode cL_law 629 = .ok (.aload_n 2, 1) := dk44 (k := 1) bL_law_628 rfl
theorem dL_law_630 : decode cL_law 630 = .ok (.aload_n 0, 1) := dk42 (k := 2) bL_law_628 rfl
theorem dL_law_631 : decode cL_law 631 = .ok (.iload_n 3, 1) := dk29 (k := 3) bL_law_628 rfl
theorem dL_law_632 : decode cL_law 632 = .ok (.iconst 1, 1) := dk4 (k := 4) bL_law_628 rfl
theorem dL_law_633 : decode cL_law 633 = .ok (.iadd, 1) := dk96 (k := 5) bL_law_628 rfl
theorem dL_law_634 : decode cL_law 634 = .ok (.iaload, 1) := dk46 (k := 6) bL_law_628 rfl
theorem dL_law_635 : decode cL_law 635 = .ok (.aload_n 0, 1) := dk42 (k := 7) bL_law_628 rfl
theorem dL_law_636 : decode cL_law 636 = .ok (.iload_n 3, 1) := dk29 (k := 8) bL_law_628 rfl
theorem dL_law_637 : decode cL_law 637 = .ok (.iconst 2, 1) := dk5 (k := 9) bL_law_628 rfl
theorem dL_law_638 : decode cL_law 638 = .ok (.iadd, 1) := dk96 (k := 10) bL_law_628 rfl
theorem dL_law_639 : decode cL_law 639 = .ok (.iaload, 1) := dk46 (k := 11) bL_law_628 rfl
theorem dL_law_640 : decode cL_law 640 = .ok (.invokevirtual 68, 3) := dk182 (k := 12) bL_law_628 rfl rfl
theorem dL_law_643 : decode cL_law 643 = .ok (.pop, 1) := dk87 (k := 15) bL_law_628 rfl
theorem dL_law_644 : decode cL_law 644 = .ok (.goto 1349, 3) := dk167 (k := 16) bL_law_628 rfl (by decide)
theorem dL_law_647 : decode cL_law 647 = .ok (.aload_n 1, 1) := dk43 (k := 19) bL_law_628 rfl
theorem dL_law_648 : decode cL_law 648 = .ok (.aload_n 0, 1) := dk42 (k := 20) bL_law_628 rfl
theorem dL_law_649 : decode cL_law 649 = .ok (.iload_n 3, 1) := dk29 (k := 21) bL_law_628 rfl
theorem dL_law_650 : decode cL_law 650 = .ok (.iconst 1, 1) := dk4 (k := 22) bL_law_628 rfl
theorem dL_law_651 : decode cL_law 651 = .ok (.iadd, 1) := dk96 (k := 23) bL_law_628 rfl
theorem bL_law_652 : bL cL_law 652 [46, 182, 0, 69, 87, 44, 42, 29, 4, 96, 46, 182, 0, 72, 87, 167, 5, 46, 43, 182, 0, 73, 87, 44] := bL_of (by decide +kernel)
theorem dL_law_652 : decode cL_law 652 = .ok (.iaload, 1) := dk46 (k := 0) bL_law_652 rfl
theorem dL_law_653 : decode cL_law 653 = .ok (.invokevirtual 69, 3) := dk182 (k := 1) bL_law_652 rfl rfl
theorem dL_law_656 : decode cL_law 656 = .ok (.pop, 1) := dk87 (k := 4) bL_law_652 rfl
theorem dL_law_657 : decode cL_law 657 = .ok (.aload_n 2, 1) := dk44 (k := 5) bL_law_652 rfl
theorem dL_law_658 : decode cL_law 658 = .ok (.aload_n 0, 1) := dk42 (k := 6) bL_law_652 rfl
theorem dL_law_659 : decode cL_law 659 = .ok (.iload_n 3, 1) := dk29 (k := 7) bL_law_652 rfl
theorem dL_law_660 : decode cL_law 660 = .ok (.iconst 1, 1) := dk4 (k := 8) bL_law_652 rfl
theorem dL_law_661 : decode cL_law 661 = .ok (.iadd, 1) := dk96 (k := 9) bL_law_652 rfl
theorem dL_law_662 : decode cL_law 662 = .ok (.iaload, 1) := dk46 (k := 10) bL_law_652 rfl
theorem dL_law_663 : decode cL_law 663 = .ok (.invokevirtual 72, 3) := dk182 (k := 11) bL_law_652 rfl rfl
theorem dL_law_666 : decode cL_law 666 = .ok (.pop, 1) := dk87 (k := 14) bL_law_652 rfl
theorem dL_law_667 : decode cL_law 667 = .ok (.goto 1326, 3) := dk167 (k := 15) bL_law_652 rfl (by decide)
theorem dL_law_670 : decode cL_law 670 = .ok (.aload_n 1, 1) := dk43 (k := 18) bL_law_652 rfl
theorem dL_law_671 : decode cL_law 671 = .ok (.invokevirtual 73, 3) := dk182 (k := 19) bL_law_652 rfl rfl
theorem dL_law_674 : decode cL_law 674 = .ok (.pop, 1) := dk87 (k := 22) bL_law_652 rfl
theorem dL_law_675 : decode cL_law 675 = .ok (.aload_n 2, 1) := dk44 (k := 23) bL_law_652 rfl
theorem bL_law_676 : bL cL_law 676 [182, 0, 76, 87, 167, 5, 33, 43, 182, 0, 77, 87, 44, 182, 0, 80, 87, 167, 5, 20, 43, 42, 29, 4] := bL_of (by decide +kernel)
theorem dL_law_676 : decode cL_law 676 = .ok (.invokevirtual 76, 3) := dk182 (k := 0) bL_law_676 rfl rfl
theorem dL_law_679 : decode cL_law 679 = .ok (.pop, 1) := dk87 (k := 3) bL_law_676 rfl
theorem dL_law_680 : decode cL_law 680 = .ok (.goto 1313, 3) := dk167 (k := 4) bL_law_676 rfl (by decide)
theorem dL_law_683 : decode cL_law 683 = .ok (.aload_n 1, 1) := dk43 (k := 7) bL_law_676 rfl
theorem dL_law_684 : decode cL_law 684 = .ok (.invokevirtual 77, 3) := dk182 (k := 8) bL_law_676 rfl rfl
theorem dL_law_687 : decode cL_law 687 = .ok (.pop, 1) := dk87 (k := 11) bL_law_676 rfl
theorem dL_law_688 : decode cL_law 688 = .ok (.aload_n 2, 1) := dk44 (k := 12) bL_law_676 rfl
theorem dL_law_689 : decode cL_law 689 = .ok (.invokevirtual 80, 3) := dk182 (k := 13) bL_law_676 rfl rfl
theorem dL_law_692 : decode cL_law 692 = .ok (.pop, 1) := dk87 (k := 16) bL_law_676 rfl
theorem dL_law_693 : decode cL_law 693 = .ok (.goto 1300, 3) := dk167 (k := 17) bL_law_676 rfl (by decide)
theorem dL_law_696 : decode cL_law 696 = .ok (.aload_n 1, 1) := dk43 (k := 20) bL_law_676 rfl
theorem dL_law_697 : decode cL_law 697 = .ok (.aload_n 0, 1) := dk42 (k := 21) bL_law_676 rfl
theorem dL_law_698 : decode cL_law 698 = .ok (.iload_n 3, 1) := dk29 (k := 22) bL_law_676 rfl
theorem dL_law_699 : decode cL_law 699 = .ok (.iconst 1, 1) := dk4 (k := 23) bL_law_676 rfl
theorem bL_law_700 : bL cL_law 700 [96, 46, 182, 0, 81, 87, 44, 42, 29, 4, 96, 46, 182, 0, 84, 87, 167, 4, 253, 43, 42, 29, 4, 96] := bL_of (by decide +kernel)
theorem dL_law_700 : decode cL_law 700 = .ok (.iadd, 1) := dk96 (k := 0) bL_law_700 rfl
theorem dL_law_701 : decode cL_law 701 = .ok (.iaload, 1) := dk46 (k := 1) bL_law_700 rfl
theorem dL_law_702 : decode cL_law 702 = .ok (.invokevirtual 81, 3) := dk182 (k := 2) bL_law_700 rfl rfl
theorem dL_law_705 : decode cL_law 705 = .ok (.pop, 1) := dk87 (k := 5) bL_law_700 rfl
theorem dL_law_706 : decode cL_law 706 = .ok (.aload_n 2, 1) := dk44 (k := 6) bL_law_700 rfl
theorem dL_law_707 : decode cL_law 707 = .ok (.aload_n 0, 1) := dk42 (k := 7) bL_law_700 rfl
theorem dL_law_708 : decode cL_law 708 = .ok (.iload_n 3, 1) := dk29 (k := 8) bL_law_700 rfl
theorem dL_law_709 : decode cL_law 709 = .ok (.iconst 1, 1) := dk4 (k := 9) bL_law_700 rfl
theorem dL_law_710 : decode cL_law 710 = .ok (.iadd, 1) := dk96 (k := 10) bL_law_700 rfl
theorem dL_law_711 : decode cL_law 711 = .ok (.iaload, 1) := dk46 (k := 11) bL_law_700 rfl
theorem dL_law_712 : decode cL_law 712 = .ok (.invokevirtual 84, 3) := dk182 (k := 12) bL_law_700 rfl rfl
theorem dL_law_715 : decode cL_law 715 = .ok (.pop, 1) := dk87 (k := 15) bL_law_700 rfl
theorem dL_law_716 : decode cL_law 716 = .ok (.goto 1277, 3) := dk167 (k := 16) bL_law_700 rfl (by decide)
theorem dL_law_719 : decode cL_law 719 = .ok (.aload_n 1, 1) := dk43 (k := 19) bL_law_700 rfl
theorem dL_law_720 : decode cL_law 720 = .ok (.aload_n 0, 1) := dk42 (k := 20) bL_law_700 rfl
theorem dL_law_721 : decode cL_law 721 = .ok (.iload_n 3, 1) := dk29 (k := 21) bL_law_700 rfl
theorem dL_law_722 : decode cL_law 722 = .ok (.iconst 1, 1) := dk4 (k := 22) bL_law_700 rfl
theorem dL_law_723 : decode cL_law 723 = .ok (.iadd, 1) := dk96 (k := 23) bL_law_700 rfl
theorem bL_law_724 : bL cL_law 724 [46, 182, 0, 85, 87, 44, 42, 29, 4, 96, 46, 182, 0, 88, 87, 167, 4, 230, 43, 182, 0, 89, 87, 44] := bL_of (by decide +kernel)
theorem dL_law_724 : decode cL_law 724 = .ok (.iaload, 1) := dk46 (k := 0) bL_law_724 rfl
theorem dL_law_725 : decode cL_law 725 = .ok (.invokevirtual 85, 3) := dk182 (k := 1) bL_law_724 rfl rfl
theorem dL_law_728 : decode cL_law 728 = .ok (.pop, 1) := dk87 (k := 4) bL_law_724 rfl
theorem dL_law_729 : decode cL_law 729 = .ok (.aload_n 2, 1) := dk44 (k := 5) bL_law_724 rfl
theorem dL_law_730 : decode cL_law 730 = .ok (.aload_n 0, 1) := dk42 (k := 6) bL_law_724 rfl
theorem dL_law_731 : decode cL_law 731 = .ok (.iload_n 3, 1) := dk29 (k := 7) bL_law_724 rfl
theorem dL_law_732 : decode cL_law 732 = .ok (.iconst 1, 1) := dk4 (k := 8) bL_law_724 rfl
theorem dL_law_733 : decode cL_law 733 = .ok (.iadd, 1) := dk96 (k := 9) bL_law_724 rfl
theorem dL_law_734 : decode cL_law 734 = .ok (.iaload, 1) := dk46 (k := 10) bL_law_724 rfl
theorem dL_law_735 : decode cL_law 735 = .ok (.invokevirtual 88, 3) := dk182 (k := 11) bL_law_724 rfl rfl
theorem dL_law_738 : decode cL_law 738 = .ok (.pop, 1) := dk87 (k := 14) bL_law_724 rfl
theorem dL_law_739 : decode cL_law 739 = .ok (.goto 1254, 3) := dk167 (k := 15) bL_law_724 rfl (by decide)
theorem dL_law_742 : decode cL_law 742 = .ok (.aload_n 1, 1) := dk43 (k := 18) bL_law_724 rfl
theorem dL_law_743 : decode cL_law 743 = .ok (.invokevirtual 89, 3) := dk182 (k := 19) bL_law_724 rfl rfl
theorem dL_law_746 : decode cL_law 746 = .ok (.pop, 1) := dk87 (k := 22) bL_law_724 rfl
theorem dL_law_747 : decode cL_law 747 = .ok (.aload_n 2, 1) := dk44 (k := 23) bL_law_724 rfl
theorem bL_law_748 : bL cL_law 748 [182, 0, 92, 87, 167, 4, 217, 43, 182, 0, 93, 87, 44, 182, 0, 96, 87, 167, 4, 204, 43, 182, 0, 97] := bL_of (by decide +kernel)
theorem dL_law_748 : decode cL_law 748 = .ok (.invokevirtual 92, 3) := dk182 (k := 0) bL_law_748 rfl rfl
theorem dL_law_751 : decode cL_law 751 = .ok (.pop, 1) := dk87 (k := 3) bL_law_748 rfl
theorem dL_law_752 : decode cL_law 752 = .ok (.goto 1241, 3) := dk167 (k := 4) bL_law_748 rfl (by decide)
theorem dL_law_755 : decode cL_law 755 = .ok (.aload_n 1, 1) := dk43 (k := 7) bL_law_748 rfl
theorem dL_law_756 : decode cL_law 756 = .ok (.invokevirtual 93, 3) := dk182 (k := 8) bL_law_748 rfl rfl
theorem dL_law_759 : decode cL_law 759 = .ok (.pop, 1) := dk87 (k := 11) bL_law_748 rfl
theorem dL_law_760 : decode cL_law 760 = .ok (.aload_n 2, 1) := dk44 (k := 12) bL_law_748 rfl
theorem dL_law_761 : decode cL_law 761 = .ok (.invokevirtual 96, 3) := dk182 (k := 13) bL_law_748 rfl rfl
theorem dL_law_764 : decode cL_law 764 = .ok (.pop, 1) := dk87 (k := 16) bL_law_748 rfl
theorem dL_law_765 : decode cL_law 765 = .ok (.goto 1228, 3) := dk167 (k := 17) bL_law_748 rfl (by decide)
theorem dL_law_768 : decode cL_law 768 = .ok (.aload_n 1, 1) := dk43 (k := 20) bL_law_748 rfl
theorem dL_law_769 : decode cL_law 769 = .ok (.invokevirtual 97, 3) := dk182 (k := 21) bL_law_748 rfl rfl
theorem bL_law_772 : bL cL_law 772 [87, 44, 182, 0, 100, 87, 167, 4, 191, 43, 42, 29, 4, 96, 46, 182, 0, 101, 87, 44, 42, 29, 4, 96] := bL_of (by decide +kernel)
theorem dL_law_772 : decode cL_law 772 = .ok (.pop, 1) := dk87 (k := 0) bL_law_772 rfl
theorem dL_law_773 : decode cL_law 773 = .ok (.aload_n 2, 1) := dk44 (k := 1) bL_law_772 rfl
theorem dL_law_774 : decode cL_law 774 = .ok (.invokevirtual 100, 3) := dk182 (k := 2) bL_law_772 rfl rfl
theorem dL_law_777 : decode cL_law 777 = .ok (.pop, 1) := dk87 (k := 5) bL_law_772 rfl
theorem dL_law_778 : decode cL_law 778 = .ok (.goto 1215, 3) := dk167 (k := 6) bL_law_772 rfl (by decide)
theorem dL_law_781 : decode cL_law 781 = .ok (.aload_n 1, 1) := dk43 (k := 9) bL_law_772 rfl
theorem dL_law_782 : decode cL_law 782 = .ok (.aload_n 0, 1) := dk42 (k := 10) bL_law_772 rfl
theorem dL_law_783 : decode cL_law 783 = .ok (.iload_n 3, 1) := dk29 (k := 11) bL_law_772 rfl
theorem dL_law_784 : decode cL_law 784 = .ok (.iconst 1, 1) := dk4 (k := 12) bL_law_772 rfl
theorem dL_law_785 : decode cL_law 785 = .ok (.iadd, 1) := dk96 (k := 13) bL_law_772 rfl
theorem dL_law_786 : decode cL_law 786 = .ok (.iaload, 1) := dk46 (k := 14) bL_law_772 rfl
theorem dL_law_787 : decode cL_law 787 = .ok (.invokevirtual 101, 3) := dk182 (k := 15) bL_law_772 rfl rfl
theorem dL_law_790 : decode cL_law 790 = .ok (.pop, 1) := dk87 (k := 18) bL_law_772 rfl
theorem dL_law_791 : decode cL_law 791 = .ok (.aload_n 2, 1) := dk44 (k := 19) bL_law_772 rfl
theorem dL_law_792 : decode cL_law 792 = .ok (.aload_n 0, 1) := dk42 (k := 20) bL_law_772 rfl
theorem dL_law_793 : decode cL_law 793 = .ok (.iload_n 3, 1) := dk29 (k := 21) bL_law_772 rfl
theorem dL_law_794 : decode cL_law 794 = .ok (.iconst 1, 1) := dk4 (k := 22) bL_law_772 rfl
theorem dL_law_795 : decode cL_law 795 = .ok (.iadd, 1) := dk96 (k := 23) bL_law_772 rfl
theorem bL_law_796 : bL cL_law 796 [46, 182, 0, 104, 87, 167, 4, 168, 43, 42, 29, 4, 96, 46, 182, 0, 105, 87, 44, 42, 29, 4, 96, 46] := bL_of (by decide +kernel)
theorem dL_law_796 : decode cL_law 796 = .ok (.iaload, 1) := dk46 (k := 0) bL_law_796 rfl
theorem dL_law_797 : decode cL_law 797 = .ok (.invokevirtual 104, 3) := dk182 (k := 1) bL_law_796 rfl rfl
theorem dL_law_800 : decode cL_law 800 = .ok (.pop, 1) := dk87 (k := 4) bL_law_796 rfl
theorem dL_law_801 : decode cL_law 801 = .ok (.goto 1192, 3) := dk167 (k := 5) bL_law_796 rfl (by decide)
theorem dL_law_804 : decode cL_law 804 = .ok (.aload_n 1, 1) := dk43 (k := 8) bL_law_796 rfl
theorem dL_law_805 : decode cL_law 805 = .ok (.aload_n 0, 1) := dk42 (k := 9) bL_law_796 rfl
theorem dL_law_806 : decode cL_law 806 = .ok (.iload_n 3, 1) := dk29 (k := 10) bL_law_796 rfl
theorem dL_law_807 : decode cL_law 807 = .ok (.iconst 1, 1) := dk4 (k := 11) bL_law_796 rfl
theorem dL_law_808 : decode cL_law 808 = .ok (.iadd, 1) := dk96 (k := 12) bL_law_796 rfl
theorem dL_law_809 : decode cL_law 809 = .ok (.iaload, 1) := dk46 (k := 13) bL_law_796 rfl
theorem dL_law_810 : decode cL_law 810 = .ok (.invokevirtual 105, 3) := dk182 (k := 14) bL_law_796 rfl rfl
theorem dL_law_813 : decode cL_law 813 = .ok (.pop, 1) := dk87 (k := 17) bL_law_796 rfl
theorem dL_law_814 : decode cL_law 814 = .ok (.aload_n 2, 1) := dk44 (k := 18) bL_law_796 rfl
theorem dL_law_815 : decode cL_law 815 = .ok (.aload_n 0, 1) := dk42 (k := 19) bL_law_796 rfl
theorem dL_law_816 : decode cL_law 816 = .ok (.iload_n 3, 1) := dk29 (k := 20) bL_law_796 rfl
theorem dL_law_817 : decode cL_law 817 = .ok (.iconst 1, 1) := dk4 (k := 21) bL_law_796 rfl
theorem dL_law_818 : decode cL_law 818 = .ok (.iadd, 1) := dk96 (k := 22) bL_law_796 rfl
theorem dL_law_819 : decode cL_law 819 = .ok (.iaload, 1) := dk46 (k := 23) bL_law_796 rfl
theorem bL_law_820 : bL cL_law 820 [182, 0, 108, 87, 167, 4, 145, 43, 182, 0, 109, 87, 44, 182, 0, 112, 87, 167, 4, 132, 43, 182, 0, 113] := bL_of (by decide +kernel)
theorem dL_law_820 : decode cL_law 820 = .ok (.invokevirtual 108, 3) := dk182 (k := 0) bL_law_820 rfl rfl
theorem dL_law_823 : decode cL_law 823 = .ok (.pop, 1) := dk87 (k := 3) bL_law_820 rfl
theorem dL_law_824 : decode cL_law 824 = .ok (.goto 1169, 3) := dk167 (k := 4) bL_law_820 rfl (by decide)
theorem dL_law_827 : decode cL_law 827 = .ok (.aload_n 1, 1) := dk43 (k := 7) bL_law_820 rfl
theorem dL_law_828 : decode cL_law 828 = .ok (.invokevirtual 109, 3) := dk182 (k := 8) bL_law_820 rfl rfl
theorem dL_law_831 : decode cL_law 831 = .ok (.pop, 1) := dk87 (k := 11) bL_law_820 rfl
theorem dL_law_832 : decode cL_law 832 = .ok (.aload_n 2, 1) := dk44 (k := 12) bL_law_820 rfl
theorem dL_law_833 : decode cL_law 833 = .ok (.invokevirtual 112, 3) := dk182 (k := 13) bL_law_820 rfl rfl
theorem dL_law_836 : decode cL_law 836 = .ok (.pop, 1) := dk87 (k := 16) bL_law_820 rfl
theorem dL_law_837 : decode cL_law 837 = .ok (.goto 1156, 3) := dk167 (k := 17) bL_law_820 rfl (by decide)
theorem dL_law_840 : decode cL_law 840 = .ok (.aload_n 1, 1) := dk43 (k := 20) bL_law_820 rfl
theorem dL_law_841 : decode cL_law 841 = .ok (.invokevirtual 113, 3) := dk182 (k := 21) bL_law_820 rfl rfl
theorem bL_law_844 : bL cL_law 844 [87, 44, 182, 0, 116, 87, 167, 4, 119, 43, 42, 29, 4, 96, 46, 182, 0, 117, 87, 44, 42, 29, 4, 96] := bL_of (by decide +kernel)
theorem dL_law_844 : decode cL_law 844 = .ok (.pop, 1) := dk87 (k := 0) bL_law_844 rfl
theorem dL_law_845 : decode cL_law 845 = .ok (.aload_n 2, 1) := dk44 (k := 1) bL_law_844 rfl
theorem dL_law_846 : decode cL_law 846 = .ok (.invokevirtual 116, 3) := dk182 (k := 2) bL_law_844 rfl rfl
theorem dL_law_849 : decode cL_law 849 = .ok (.pop, 1) := dk87 (k := 5) bL_law_844 rfl
theorem dL_law_850 : decode cL_law 850 = .ok (.goto 1143, 3) := dk167 (k := 6) bL_law_844 rfl (by decide)
theorem dL_law_853 : decode cL_law 853 = .ok (.aload_n 1, 1) := dk43 (k := 9) bL_law_844 rfl
theorem dL_law_854 : decode cL_law 854 = .ok (.aload_n 0, 1) := dk42 (k := 10) bL_law_844 rfl
theorem dL_law_855 : decode cL_law 855 = .ok (.iload_n 3, 1) := dk29 (k := 11) bL_law_844 rfl
theorem dL_law_856 : decode cL_law 856 = .ok (.iconst 1, 1) := dk4 (k := 12) bL_law_844 rfl
theorem dL_law_857 : decode cL_law 857 = .ok (.iadd, 1) := dk96 (k := 13) bL_law_844 rfl
theorem dL_law_858 : decode cL_law 858 = .ok (.iaload, 1) := dk46 (k := 14) bL_law_844 rfl
theorem dL_law_859 : decode cL_law 859 = .ok (.invokevirtual 117, 3) := dk182 (k := 15) bL_law_844 rfl rfl
theorem dL_law_862 : decode cL_law 862 = .ok (.pop, 1) := dk87 (k := 18) bL_law_844 rfl
theorem dL_law_863 : decode cL_law 863 = .ok (.aload_n 2, 1) := dk44 (k := 19) bL_law_844 rfl
theorem dL_law_864 : decode cL_law 864 = .ok (.aload_n 0, 1) := dk42 (k := 20) bL_law_844 rfl
theorem dL_law_865 : decode cL_law 865 = .ok (.iload_n 3, 1) := dk29 (k := 21) bL_law_844 rfl
theorem dL_law_866 : decode cL_law 866 = .ok (.iconst 1, 1) := dk4 (k := 22) bL_law_844 rfl
theorem dL_law_867 : decode cL_law 867 = .ok (.iadd, 1) := dk96 (k := 23) bL_law_844 rfl
theorem bL_law_868 : bL cL_law 868 [46, 182, 0, 120, 87, 167, 4, 96, 43, 182, 0, 121, 87, 44, 182, 0, 124, 87, 167, 4, 83, 43, 42, 29] := bL_of (by decide +kernel)
theorem dL_law_868 : decode cL_law 868 = .ok (.iaload, 1) := dk46 (k := 0) bL_law_868 rfl
theorem dL_law_869 : decode cL_law 869 = .ok (.invokevirtual 120, 3) := dk182 (k := 1) bL_law_868 rfl rfl
theorem dL_law_872 : decode cL_law 872 = .ok (.pop, 1) := dk87 (k := 4) bL_law_868 rfl
theorem dL_law_873 : decode cL_law 873 = .ok (.goto 1120, 3) := dk167 (k := 5) bL_law_868 rfl (by decide)
theorem dL_law_876 : decode cL_law 876 = .ok (.aload_n 1, 1) := dk43 (k := 8) bL_law_868 rfl
theorem dL_law_877 : decode cL_law 877 = .ok (.invokevirtual 121, 3) := dk182 (k := 9) bL_law_868 rfl rfl
theorem dL_law_880 : decode cL_law 880 = .ok (.pop, 1) := dk87 (k := 12) bL_law_868 rfl
theorem dL_law_881 : decode cL_law 881 = .ok (.aload_n 2, 1) := dk44 (k := 13) bL_law_868 rfl
theorem dL_law_882 : decode cL_law 882 = .ok (.invokevirtual 124, 3) := dk182 (k := 14) bL_law_868 rfl rfl
theorem dL_law_885 : decode cL_law 885 = .ok (.pop, 1) := dk87 (k := 17) bL_law_868 rfl
theorem dL_law_886 : decode cL_law 886 = .ok (.goto 1107, 3) := dk167 (k := 18) bL_law_868 rfl (by decide)
theorem dL_law_889 : decode cL_law 889 = .ok (.aload_n 1, 1) := dk43 (k := 21) bL_law_868 rfl
theorem dL_law_890 : decode cL_law 890 = .ok (.aload_n 0, 1) := dk42 (k := 22) bL_law_868 rfl
theorem dL_law_891 : decode cL_law 891 = .ok (.iload_n 3, 1) := dk29 (k := 23) bL_law_868 rfl
theorem bL_law_892 : bL cL_law 892 [4, 96, 46, 42, 29, 5, 96, 46, 182, 0, 125, 87, 44, 42, 29, 4, 96, 46, 42, 29, 5, 96, 46, 182, 0, 128] := bL_of (by decide +kernel)
theorem dL_law_892 : decode cL_law 892 = .ok (.iconst 1, 1) := dk4 (k := 0) bL_law_892 rfl
theorem dL_law_893 : decode cL_law 893 = .ok (.iadd, 1) := dk96 (k := 1) bL_law_892 rfl
theorem dL_law_894 : decode cL_law 894 = .ok (.iaload, 1) := dk46 (k := 2) bL_law_892 rfl
theorem dL_law_895 : decode cL_law 895 = .ok (.aload_n 0, 1) := dk42 (k := 3) bL_law_892 rfl
theorem dL_law_896 : decode cL_law 896 = .ok (.iload_n 3, 1) := dk29 (k := 4) bL_law_892 rfl
theorem dL_law_897 : decode cL_law 897 = .ok (.iconst 2, 1) := dk5 (k := 5) bL_law_892 rfl
theorem dL_law_898 : decode cL_law 898 = .ok (.iadd, 1) := dk96 (k := 6) bL_law_892 rfl
theorem dL_law_899 : decode cL_law 899 = .ok (.iaload, 1) := dk46 (k := 7) bL_law_892 rfl
theorem dL_law_900 : decode cL_law 900 = .ok (.invokevirtual 125, 3) := dk182 (k := 8) bL_law_892 rfl rfl
theorem dL_law_903 : decode cL_law 903 = .ok (.pop, 1) := dk87 (k := 11) bL_law_892 rfl
theorem dL_law_904 : decode cL_law 904 = .ok (.aload_n 2, 1) := dk44 (k := 12) bL_law_892 rfl
theorem dL_law_905 : decode cL_law 905 = .ok (.aload_n 0, 1) := dk42 (k := 13) bL_law_892 rfl
theorem dL_law_906 : decode cL_law 906 = .ok (.iload_n 3, 1) := dk29 (k := 14) bL_law_892 rfl
theorem dL_law_907 : decode cL_law 907 = .ok (.iconst 1, 1) := dk4 (k := 15) bL_law_892 rfl
theorem dL_law_908 : decode cL_law 908 = .ok (.iadd, 1) := dk96 (k := 16) bL_law_892 rfl
theorem dL_law_909 : decode cL_law 909 = .ok (.iaload, 1) := dk46 (k := 17) bL_law_892 rfl
theorem dL_law_910 : decode cL_law 910 = .ok (.aload_n 0, 1) := dk42 (k := 18) bL_law_892 rfl
theorem dL_law_911 : decode cL_law 911 = .ok (.iload_n 3, 1) := dk29 (k := 19) bL_law_892 rfl
theorem dL_law_912 : decode cL_law 912 = .ok (.iconst 2, 1) := dk5 (k := 20) bL_law_892 rfl
theorem dL_law_913 : decode cL_law 913 = .ok (.iadd, 1) := dk96 (k := 21) bL_law_892 rfl
theorem dL_law_914 : decode cL_law 914 = .ok (.iaload, 1) := dk46 (k := 22) bL_law_892 rfl
theorem dL_law_915 : decode cL_law 915 = .ok (.invokevirtual 128, 3) := dk182 (k := 23) bL_law_892 rfl rfl
theorem bL_law_918 : bL cL_law 918 [87, 167, 4, 50, 43, 42, 29, 4, 96, 46, 42, 29, 5, 96, 46, 182, 0, 129, 87, 44, 42, 29, 4, 96] := bL_of (by decide +kernel)
theorem dL_law_918 : decode cL_law 918 = .ok (.pop, 1) := dk87 (k := 0) bL_law_918 rfl
theorem dL_law_919 : decode cL_law 919 = .ok (.goto 1074, 3) := dk167 (k := 1) bL_law_918 rfl (by decide)
theorem dL_law_922 : decode cL_law 922 = .ok (.aload_n 1, 1) := dk43 (k := 4) bL_law_918 rfl
theorem dL_law_923 : decode cL_law 923 = .ok (.aload_n 0, 1) := dk42 (k := 5) bL_law_918 rfl
theorem dL_law_924 : decode cL_law 924 = .ok (.iload_n 3, 1) := dk29 (k := 6) bL_law_918 rfl
theorem dL_law_925 : decode cL_law 925 = .ok (.iconst 1, 1) := dk4 (k := 7) bL_law_918 rfl
theorem dL_law_926 : decode cL_law 926 = .ok (.iadd, 1) := dk96 (k := 8) bL_law_918 rfl
theorem dL_law_927 : decode cL_law 927 = .ok (.iaload, 1) := dk46 (k := 9) bL_law_918 rfl
theorem dL_law_928 : decode cL_law 928 = .ok (.aload_n 0, 1) := dk42 (k := 10) bL_law_918 rfl
theorem dL_law_929 : decode cL_law 929 = .ok (.iload_n 3, 1) := dk29 (k := 11) bL_law_918 rfl
theorem dL_law_930 : decode cL_law 930 = .ok (.iconst 2, 1) := dk5 (k := 12) bL_law_918 rfl
theorem dL_law_931 : decode cL_law 931 = .ok (.iadd, 1) := dk96 (k := 13) bL_law_918 rfl
theorem dL_law_932 : decode cL_law 932 = .ok (.iaload, 1) := dk46 (k := 14) bL_law_918 rfl
theorem dL_law_933 : decode cL_law 933 = .ok (.invokevirtual 129, 3) := dk182 (k := 15) bL_law_918 rfl rfl
theorem dL_law_936 : decode cL_law 936 = .ok (.pop, 1) := dk87 (k := 18) bL_law_918 rfl
theorem dL_law_937 : decode cL_law 937 = .ok (.aload_n 2, 1) := dk44 (k := 19) bL_law_918 rfl
theorem dL_law_938 : decode cL_law 938 = .ok (.aload_n 0, 1) := dk42 (k := 20) bL_law_918 rfl
theorem dL_law_939 : decode cL_law 939 = .ok (.iload_n 3, 1) := dk29 (k := 21) bL_law_918 rfl
theorem dL_law_940 : decode cL_law 940 = .ok (.iconst 1, 1) := dk4 (k := 22) bL_law_918 rfl
theorem dL_law_941 : decode cL_law 941 = .ok (.iadd, 1) := dk96 (k := 23) bL_law_918 rfl
theorem bL_law_942 : bL cL_law 942 [46, 42, 29, 5, 96, 46, 182, 0, 132, 87, 167, 4, 17, 43, 42, 29, 4, 96, 46, 42, 29, 5, 96, 46] := bL_of (by decide +kernel)
theorem dL_law_942 : decode cL_law 942 = .ok (.iaload, 1) := dk46 (k := 0) bL_law_942 rfl
theorem dL_law_943 : decode cL_law 943 = .ok (.aload_n 0, 1) := dk42 (k := 1) bL_law_942 rfl
theorem dL_law_944 : decode cL_law 944 = .ok (.iload_n 3, 1) := dk29 (k := 2) bL_law_942 rfl
theorem dL_law_945 : decode cL_law 945 = .ok (.iconst 2, 1) := dk5 (k := 3) bL_law_942 rfl
theorem dL_law_946 : decode cL_law 946 = .ok (.iadd, 1) := dk96 (k := 4) bL_law_942 rfl
theorem dL_law_947 : decode cL_law 947 = .ok (.iaload, 1) := dk46 (k := 5) bL_law_942 rfl
theorem dL_law_948 : decode cL_law 948 = .ok (.invokevirtual 132, 3) := dk182 (k := 6) bL_law_942 rfl rfl
theorem dL_law_951 : decode cL_law 951 = .ok (.pop, 1) := dk87 (k := 9) bL_law_942 rfl
theorem dL_law_952 : decode cL_law 952 = .ok (.goto 1041, 3) := dk167 (k := 10) bL_law_942 rfl (by decide)
theorem dL_law_955 : decode cL_law 955 = .ok (.aload_n 1, 1) := dk43 (k := 13) bL_law_942 rfl
theorem dL_law_956 : decode cL_law 956 = .ok (.aload_n 0, 1) := dk42 (k := 14) bL_law_942 rfl
theorem dL_law_957 : decode cL_law 957 = .ok (.iload_n 3, 1) := dk29 (k := 15) bL_law_942 rfl
theorem dL_law_958 : decode cL_law 958 = .ok (.iconst 1, 1) := dk4 (k := 16) bL_law_942 rfl
theorem dL_law_959 : decode cL_law 959 = .ok (.iadd, 1) := dk96 (k := 17) bL_law_942 rfl
theorem dL_law_960 : decode cL_law 960 = .ok (.iaload, 1) := dk46 (k := 18) bL_law_942 rfl
theorem dL_law_961 : decode cL_law 961 = .ok (.aload_n 0, 1) := dk42 (k := 19) bL_law_942 rfl
theorem dL_law_962 : decode cL_law 962 = .ok (.iload_n 3, 1) := dk29 (k := 20) bL_law_942 rfl
theorem dL_law_963 : decode cL_law 963 = .ok (.iconst 2, 1) := dk5 (k := 21) bL_law_942 rfl
theorem dL_law_964 : decode cL_law 964 = .ok (.iadd, 1) := dk96 (k := 22) bL_law_942 rfl
theorem dL_law_965 : decode cL_law 965 = .ok (.iaload, 1) := dk46 (k := 23) bL_law_942 rfl
theorem bL_law_966 : bL cL_law 966 [182, 0, 133, 87, 44, 42, 29, 4, 96, 46, 42, 29, 5, 96, 46, 182, 0, 136, 87, 167, 3, 240, 43, 42] := bL_of (by decide +kernel)
theorem dL_law_966 : decode cL_law 966 = .ok (.invokevirtual 133, 3) := dk182 (k := 0) bL_law_966 rfl rfl
theorem dL_law_969 : decode cL_law 969 = .ok (.pop, 1) := dk87 (k := 3) bL_law_966 rfl
theorem dL_law_970 : decode cL_law 970 = .ok (.aload_n 2, 1) := dk44 (k := 4) bL_law_966 rfl
theorem dL_law_971 : decode cL_law 971 = .ok (.aload_n 0, 1) := dk42 (k := 5) bL_law_966 rfl
theorem dL_law_972 : decode cL_law 972 = .ok (.iload_n 3, 1) := dk29 (k := 6) bL_law_966 rfl
theorem dL_law_973 : decode cL_law 973 = .ok (.iconst 1, 1) := dk4 (k := 7) bL_law_966 rfl
theorem dL_law_974 : decode cL_law 974 = .ok (.iadd, 1) := dk96 (k := 8) bL_law_966 rfl
theorem dL_law_975 : decode cL_law 975 = .ok (.iaload, 1) := dk46 (k := 9) bL_law_966 rfl
theorem dL_law_976 : decode cL_law 976 = .ok (.aload_n 0, 1) := dk42 (k := 10) bL_law_966 rfl
theorem dL_law_977 : decode cL_law 977 = .ok (.iload_n 3, 1) := dk29 (k := 11) bL_law_966 rfl
theorem dL_law_978 : decode cL_law 978 = .ok (.iconst 2, 1) := dk5 (k := 12) bL_law_966 rfl
theorem dL_law_979 : decode cL_law 979 = .ok (.iadd, 1) := dk96 (k := 13) bL_law_966 rfl
theorem dL_law_980 : decode cL_law 980 = .ok (.iaload, 1) := dk46 (k := 14) bL_law_966 rfl
theorem dL_law_981 : decode cL_law 981 = .ok (.invokevirtual 136, 3) := dk182 (k := 15) bL_law_966 rfl rfl
theorem dL_law_984 : decode cL_law 984 = .ok (.pop, 1) := dk87 (k := 18) bL_law_966 rfl
theorem dL_law_985 : decode cL_law 985 = .ok (.goto 1008, 3) := dk167 (k := 19) bL_law_966 rfl (by decide)
theorem dL_law_988 : decode cL_law 988 = .ok (.aload_n 1, 1) := dk43 (k := 22) bL_law_966 rfl
theorem dL_law_989 : decode cL_law 989 = .ok (.aload_n 0, 1) := dk42 (k := 23) bL_law_966 rfl
theorem bL_law_990 : bL cL_law 990 [29, 4, 96, 46, 42, 29, 5, 96, 46, 42, 29, 6, 96, 46, 182, 0, 137, 87, 44, 42, 29, 4, 96, 46] := bL_of (by decide +kernel)
theorem dL_law_990 : decode cL_law 990 = .ok (.iload_n 3, 1) := dk29 (k := 0) bL_law_990 rfl
theorem dL_law_991 : decode cL_law 991 = .ok (.iconst 1, 1) := dk4 (k := 1) bL_law_990 rfl
theorem dL_law_992 : decode cL_law 992 = .ok (.iadd, 1) := dk96 (k := 2) bL_law_990 rfl
theorem dL_law_993 : decode cL_law 993 = .ok (.iaload, 1) := dk46 (k := 3) bL_law_990 rfl
theorem dL_law_994 : decode cL_law 994 = .ok (.aload_n 0, 1) := dk42 (k := 4) bL_law_990 rfl
theorem dL_law_995 : decode cL_law 995 = .ok (.iload_n 3, 1) := dk29 (k := 5) bL_law_990 rfl
theorem dL_law_996 : decode cL_law 996 = .ok (.iconst 2, 1) := dk5 (k := 6) bL_law_990 rfl
theorem dL_law_997 : decode cL_law 997 = .ok (.iadd, 1) := dk96 (k := 7) bL_law_990 rfl
theorem dL_law_998 : decode cL_law 998 = .ok (.iaload, 1) := dk46 (k := 8) bL_law_990 rfl
theorem dL_law_999 : decode cL_law 999 = .ok (.aload_n 0, 1) := dk42 (k := 9) bL_law_990 rfl
theorem dL_law_1000 : decode cL_law 1000 = .ok (.iload_n 3, 1) := dk29 (k := 10) bL_law_990 rfl
theorem dL_law_1001 : decode cL_law 1001 = .ok (.iconst 3, 1) := dk6 (k := 11) bL_law_990 rfl
theorem dL_law_1002 : decode cL_law 1002 = .ok (.iadd, 1) := dk96 (k := 12) bL_law_990 rfl
theorem dL_law_1003 : decode cL_law 1003 = .ok (.iaload, 1) := dk46 (k := 13) bL_law_990 rfl
theorem dL_law_1004 : decode cL_law 1004 = .ok (.invokevirtual 137, 3) := dk182 (k := 14) bL_law_990 rfl rfl
theorem dL_law_1007 : decode cL_law 1007 = .ok (.pop, 1) := dk87 (k := 17) bL_law_990 rfl
theorem dL_law_1008 : decode cL_law 1008 = .ok (.aload_n 2, 1) := dk44 (k := 18) bL_law_990 rfl
theorem dL_law_1009 : decode cL_law 1009 = .ok (.aload_n 0, 1) := dk42 (k := 19) bL_law_990 rfl
theorem dL_law_1010 : decode cL_law 1010 = .ok (.iload_n 3, 1) := dk29 (k := 20) bL_law_990 rfl
theorem dL_law_1011 : decode cL_law 1011 = .ok (.iconst 1, 1) := dk4 (k := 21) bL_law_990 rfl
theorem dL_law_1012 : decode cL_law 1012 = .ok (.iadd, 1) := dk96 (k := 22) bL_law_990 rfl
theorem dL_law_1013 : decode cL_law 1013 = .ok (.iaload, 1) := dk46 (k := 23) bL_law_990 rfl
theorem bL_law_1014 : bL cL_law 1014 [42, 29, 5, 96, 46, 42, 29, 6, 96, 46, 182, 0, 141, 87, 167, 3, 197, 43, 42, 29, 4, 96, 46, 42] := bL_of (by decide +kernel)
theorem dL_law_1014 : decode cL_law 1014 = .ok (.aload_n 0, 1) := dk42 (k := 0) bL_law_1014 rfl
theorem dL_law_1015 : decode cL_law 1015 = .ok (.iload_n 3, 1) := dk29 (k := 1) bL_law_1014 rfl
theorem dL_law_1016 : decode cL_law 1016 = .ok (.iconst 2, 1) := dk5 (k := 2) bL_law_1014 rfl
theorem dL_law_1017 : decode cL_law 1017 = .ok (.iadd, 1) := dk96 (k := 3) bL_law_1014 rfl
theorem dL_law_1018 : decode cL_law 1018 = .ok (.iaload, 1) := dk46 (k := 4) bL_law_1014 rfl
theorem dL_law_1019 : decode cL_law 1019 = .ok (.aload_n 0, 1) := dk42 (k := 5) bL_law_1014 rfl
theorem dL_law_1020 : decode cL_law 1020 = .ok (.iload_n 3, 1) := dk29 (k := 6) bL_law_1014 rfl
theorem dL_law_1021 : decode cL_law 1021 = .ok (.iconst 3, 1) := dk6 (k := 7) bL_law_1014 rfl
theorem dL_law_1022 : decode cL_law 1022 = .ok (.iadd, 1) := dk96 (k := 8) bL_law_1014 rfl
theorem dL_law_1023 : decode cL_law 1023 = .ok (.iaload, 1) := dk46 (k := 9) bL_law_1014 rfl
theorem dL_law_1024 : decode cL_law 1024 = .ok (.invokevirtual 141, 3) := dk182 (k := 10) bL_law_1014 rfl rfl
theorem dL_law_1027 : decode cL_law 1027 = .ok (.pop, 1) := dk87 (k := 13) bL_law_1014 rfl
theorem dL_law_1028 : decode cL_law 1028 = .ok (.goto 965, 3) := dk167 (k := 14) bL_law_1014 rfl (by decide)
theorem dL_law_1031 : decode cL_law 1031 = .ok (.aload_n 1, 1) := dk43 (k := 17) bL_law_1014 rfl
theorem dL_law_1032 : decode cL_law 1032 = .ok (.aload_n 0, 1) := dk42 (k := 18) bL_law_1014 rfl
theorem dL_law_1033 : decode cL_law 1033 = .ok (.iload_n 3, 1) := dk29 (k := 19) bL_law_1014 rfl
theorem dL_law_1034 : decode cL_law 1034 = .ok (.iconst 1, 1) := dk4 (k := 20) bL_law_1014 rfl
theorem dL_law_1035 : decode cL_law 1035 = .ok (.iadd, 1) := dk96 (k := 21) bL_law_1014 rfl
theorem dL_law_1036 : decode cL_law 1036 = .ok (.iaload, 1) := dk46 (k := 22) bL_law_1014 rfl
theorem dL_law_1037 : decode cL_law 1037 = .ok (.aload_n 0, 1) := dk42 (k := 23) bL_law_1014 rfl
theorem bL_law_1038 : bL cL_law 1038 [29, 5, 96, 46, 42, 29, 6, 96, 46, 182, 0, 142, 87, 44, 42, 29, 4, 96, 46, 42, 29, 5, 96, 46] := bL_of (by decide +kernel)
theorem dL_law_1038 : decode cL_law 1038 = .ok (.iload_n 3, 1) := dk29 (k := 0) bL_law_1038 rfl
theorem dL_law_1039 : decode cL_law 1039 = .ok (.iconst 2, 1) := dk5 (k := 1) bL_law_1038 rfl
theorem dL_law_1040 : decode cL_law 1040 = .ok (.iadd, 1) := dk96 (k := 2) bL_law_1038 rfl
theorem dL_law_1041 : decode cL_law 1041 = .ok (.iaload, 1) := dk46 (k := 3) bL_law_1038 rfl
theorem dL_law_1042 : decode cL_law 1042 = .ok (.aload_n 0, 1) := dk42 (k := 4) bL_law_1038 rfl
theorem dL_law_1043 : decode cL_law 1043 = .ok (.iload_n 3, 1) := dk29 (k := 5) bL_law_1038 rfl
theorem dL_law_1044 : decode cL_law 1044 = .ok (.iconst 3, 1) := dk6 (k := 6) bL_law_1038 rfl
theorem dL_law_1045 : decode cL_law 1045 = .ok (.iadd, 1) := dk96 (k := 7) bL_law_1038 rfl
theorem dL_law_1046 : decode cL_law 1046 = .ok (.iaload, 1) := dk46 (k := 8) bL_law_1038 rfl
theorem dL_law_1047 : decode cL_law 1047 = .ok (.invokevirtual 142, 3) := dk182 (k := 9) bL_law_1038 rfl rfl
theorem dL_law_1050 : decode cL_law 1050 = .ok (.pop, 1) := dk87 (k := 12) bL_law_1038 rfl
theorem dL_law_1051 : decode cL_law 1051 = .ok (.aload_n 2, 1) := dk44 (k := 13) bL_law_1038 rfl
theorem dL_law_1052 : decode cL_law 1052 = .ok (.aload_n 0, 1) := dk42 (k := 14) bL_law_1038 rfl
theorem dL_law_1053 : decode cL_law 1053 = .ok (.iload_n 3, 1) := dk29 (k := 15) bL_law_1038 rfl
theorem dL_law_1054 : decode cL_law 1054 = .ok (.iconst 1, 1) := dk4 (k := 16) bL_law_1038 rfl
theorem dL_law_1055 : decode cL_law 1055 = .ok (.iadd, 1) := dk96 (k := 17) bL_law_1038 rfl
theorem dL_law_1056 : decode cL_law 1056 = .ok (.iaload, 1) := dk46 (k := 18) bL_law_1038 rfl
theorem dL_law_1057 : decode cL_law 1057 = .ok (.aload_n 0, 1) := dk42 (k := 19) bL_law_1038 rfl
theorem dL_law_1058 : decode cL_law 1058 = .ok (.iload_n 3, 1) := dk29 (k := 20) bL_law_1038 rfl
theorem dL_law_1059 : decode cL_law 1059 = .ok (.iconst 2, 1) := dk5 (k := 21) bL_law_1038 rfl
theorem dL_law_1060 : decode cL_law 1060 = .ok (.iadd, 1) := dk96 (k := 22) bL_law_1038 rfl
theorem dL_law_1061 : decode cL_law 1061 = .ok (.iaload, 1) := dk46 (k := 23) bL_law_1038 rfl
theorem bL_law_1062 : bL cL_law 1062 [42, 29, 6, 96, 46, 182, 0, 145, 87, 167, 3, 154, 43, 42, 29, 4, 96, 46, 182, 0, 146, 87, 44, 42] := bL_of (by decide +kernel)
theorem dL_law_1062 : decode cL_law 1062 = .ok (.aload_n 0, 1) := dk42 (k := 0) bL_law_1062 rfl
theorem dL_law_1063 : decode cL_law 1063 = .ok (.iload_n 3, 1) := dk29 (k := 1) bL_law_1062 rfl
theorem dL_law_1064 : decode cL_law 1064 = .ok (.iconst 3, 1) := dk6 (k := 2) bL_law_1062 rfl
theorem dL_law_1065 : decode cL_law 1065 = .ok (.iadd, 1) := dk96 (k := 3) bL_law_1062 rfl
theorem dL_law_1066 : decode cL_law 1066 = .ok (.iaload, 1) := dk46 (k := 4) bL_law_1062 rfl
theorem dL_law_1067 : decode cL_law 1067 = .ok (.invokevirtual 145, 3) := dk182 (k := 5) bL_law_1062 rfl rfl
theorem dL_law_1070 : decode cL_law 1070 = .ok (.pop, 1) := dk87 (k := 8) bL_law_1062 rfl
theorem dL_law_1071 : decode cL_law 1071 = .ok (.goto 922, 3) := dk167 (k := 9) bL_law_1062 rfl (by decide)
theorem dL_law_1074 : decode cL_law 1074 = .ok (.aload_n 1, 1) := dk43 (k := 12) bL_law_1062 rfl
theorem dL_law_1075 : decode cL_law 1075 = .ok (.aload_n 0, 1) := dk42 (k := 13) bL_law_1062 rfl
theorem dL_law_1076 : decode cL_law 1076 = .ok (.iload_n 3, 1) := dk29 (k := 14) bL_law_1062 rfl
theorem dL_law_1077 : decode cL_law 1077 = .ok (.iconst 1, 1) := dk4 (k := 15) bL_law_1062 rfl
theorem dL_law_1078 : decode cL_law 1078 = .ok (.iadd, 1) := dk96 (k := 16) bL_law_1062 rfl
theorem dL_law_1079 : decode cL_law 1079 = .ok (.iaload, 1) := dk46 (k := 17) bL_law_1062 rfl
theorem dL_law_1080 : decode cL_law 1080 = .ok (.invokevirtual 146, 3) := dk182 (k := 18) bL_law_1062 rfl rfl
theorem dL_law_1083 : decode cL_law 1083 = .ok (.pop, 1) := dk87 (k := 21) bL_law_1062 rfl
theorem dL_law_1084 : decode cL_law 1084 = .ok (.aload_n 2, 1) := dk44 (k := 22) bL_law_1062 rfl
theorem dL_law_1085 : decode cL_law 1085 = .ok (.aload_n 0, 1) := dk42 (k := 23) bL_law_1062 rfl
theorem bL_law_1086 : bL cL_law 1086 [29, 4, 96, 46, 182, 0, 149, 87, 167, 3, 131, 43, 42, 29, 4, 96, 46, 182, 0, 150, 87, 44, 42, 29] := bL_of (by decide +kernel)
theorem dL_law_1086 : decode cL_law 1086 = .ok (.iload_n 3, 1) := dk29 (k := 0) bL_law_1086 rfl
theorem dL_law_1087 : decode cL_law 1087 = .ok (.iconst 1, 1) := dk4 (k := 1) bL_law_1086 rfl
theorem dL_law_1088 : decode cL_law 1088 = .ok (.iadd, 1) := dk96 (k := 2) bL_law_1086 rfl
theorem dL_law_1089 : decode cL_law 1089 = .ok (.iaload, 1) := dk46 (k := 3) bL_law_1086 rfl
theorem dL_law_1090 : decode cL_law 1090 = .ok (.invokevirtual 149, 3) := dk182 (k := 4) bL_law_1086 rfl rfl
theorem dL_law_1093 : decode cL_law 1093 = .ok (.pop, 1) := dk87 (k := 7) bL_law_1086 rfl
theorem dL_law_1094 : decode cL_law 1094 = .ok (.goto 899, 3) := dk167 (k := 8) bL_law_1086 rfl (by decide)
theorem dL_law_1097 : decode cL_law 1097 = .ok (.aload_n 1, 1) := dk43 (k := 11) bL_law_1086 rfl
theorem dL_law_1098 : decode cL_law 1098 = .ok (.aload_n 0, 1) := dk42 (k := 12) bL_law_1086 rfl
theorem dL_law_1099 : decode cL_law 1099 = .ok (.iload_n 3, 1) := dk29 (k := 13) bL_law_1086 rfl
theorem dL_law_1100 : decode cL_law 1100 = .ok (.iconst 1, 1) := dk4 (k := 14) bL_law_1086 rfl
theorem dL_law_1101 : decode cL_law 1101 = .ok (.iadd, 1) := dk96 (k := 15) bL_law_1086 rfl
theorem dL_law_1102 : decode cL_law 1102 = .ok (.iaload, 1) := dk46 (k := 16) bL_law_1086 rfl
theorem dL_law_1103 : decode cL_law 1103 = .ok (.invokevirtual 150, 3) := dk182 (k := 17) bL_law_1086 rfl rfl
theorem dL_law_1106 : decode cL_law 1106 = .ok (.pop, 1) := dk87 (k := 20) bL_law_1086 rfl
theorem dL_law_1107 : decode cL_law 1107 = .ok (.aload_n 2, 1) := dk44 (k := 21) bL_law_1086 rfl
theorem dL_law_1108 : decode cL_law 1108 = .ok (.aload_n 0, 1) := dk42 (k := 22) bL_law_1086 rfl
theorem dL_law_1109 : decode cL_law 1109 = .ok (.iload_n 3, 1) := dk29 (k := 23) bL_law_1086 rfl
theorem bL_law_1110 : bL cL_law 1110 [4, 96, 46, 182, 0, 153, 87, 167, 3, 108, 43, 182, 0, 154, 87, 44, 182, 0, 157, 87, 167, 3, 95, 43] := bL_of (by decide +kernel)
theorem dL_law_1110 : decode cL_law 1110 = .ok (.iconst 1, 1) := dk4 (k := 0) bL_law_1110 rfl
theorem dL_law_1111 : decode cL_law 1111 = .ok (.iadd, 1) := dk96 (k := 1) bL_law_1110 rfl
theorem dL_law_1112 : decode cL_law 1112 = .ok (.iaload, 1) := dk46 (k := 2) bL_law_1110 rfl
theorem dL_law_1113 : decode cL_law 1113 = .ok (.invokevirtual 153, 3) := dk182 (k := 3) bL_law_1110 rfl rfl
theorem dL_law_1116 : decode cL_law 1116 = .ok (.pop, 1) := dk87 (k := 6) bL_law_1110 rfl
theorem dL_law_1117 : decode cL_law 1117 = .ok (.goto 876, 3) := dk167 (k := 7) bL_law_1110 rfl (by decide)
theorem dL_law_1120 : decode cL_law 1120 = .ok (.aload_n 1, 1) := dk43 (k := 10) bL_law_1110 rfl
theorem dL_law_1121 : decode cL_law 1121 = .ok (.invokevirtual 154, 3) := dk182 (k := 11) bL_law_1110 rfl rfl
theorem dL_law_1124 : decode cL_law 1124 = .ok (.pop, 1) := dk87 (k := 14) bL_law_1110 rfl
theorem dL_law_1125 : decode cL_law 1125 = .ok (.aload_n 2, 1) := dk44 (k := 15) bL_law_1110 rfl
theorem dL_law_1126 : decode cL_law 1126 = .ok (.invokevirtual 157, 3) := dk182 (k := 16) bL_law_1110 rfl rfl
theorem dL_law_1129 : decode cL_law 1129 = .ok (.pop, 1) := dk87 (k := 19) bL_law_1110 rfl
theorem dL_law_1130 : decode cL_law 1130 = .ok (.goto 863, 3) := dk167 (k := 20) bL_law_1110 rfl (by decide)
theorem dL_law_1133 : decode cL_law 1133 = .ok (.aload_n 1, 1) := dk43 (k := 23) bL_law_1110 rfl
theorem bL_law_1134 : bL cL_law 1134 [182, 0, 158, 87, 44, 182, 0, 161, 87, 167, 3, 82, 43, 42, 29, 4, 96, 46, 182, 0, 162, 87, 44, 42] := bL_of (by decide +kernel)
theorem dL_law_1134 : decode cL_law 1134 = .ok (.invokevirtual 158, 3) := dk182 (k := 0) bL_law_1134 rfl rfl
theorem dL_law_1137 : decode cL_law 1137 = .ok (.pop, 1) := dk87 (k := 3) bL_law_1134 rfl
theorem dL_law_1138 : decode cL_law 1138 = .ok (.aload_n 2, 1) := dk44 (k := 4) bL_law_1134 rfl
theorem dL_law_1139 : decode cL_law 1139 = .ok (.invokevirtual 161, 3) := dk182 (k := 5) bL_law_1134 rfl rfl
theorem dL_law_1142 : decode cL_law 1142 = .ok (.pop, 1) := dk87 (k := 8) bL_law_1134 rfl
theorem dL_law_1143 : decode cL_law 1143 = .ok (.goto 850, 3) := dk167 (k := 9) bL_law_1134 rfl (by decide)
theorem dL_law_1146 : decode cL_law 1146 = .ok (.aload_n 1, 1) := dk43 (k := 12) bL_law_1134 rfl
theorem dL_law_1147 : decode cL_law 1147 = .ok (.aload_n 0, 1) := dk42 (k := 13) bL_law_1134 rfl
theorem dL_law_1148 : decode cL_law 1148 = .ok (.iload_n 3, 1) := dk29 (k := 14) bL_law_1134 rfl
theorem dL_law_1149 : decode cL_law 1149 = .ok (.iconst 1, 1) := dk4 (k := 15) bL_law_1134 rfl
theorem dL_law_1150 : decode cL_law 1150 = .ok (.iadd, 1) := dk96 (k := 16) bL_law_1134 rfl
theorem dL_law_1151 : decode cL_law 1151 = .ok (.iaload, 1) := dk46 (k := 17) bL_law_1134 rfl
theorem dL_law_1152 : decode cL_law 1152 = .ok (.invokevirtual 162, 3) := dk182 (k := 18) bL_law_1134 rfl rfl
theorem dL_law_1155 : decode cL_law 1155 = .ok (.pop, 1) := dk87 (k := 21) bL_law_1134 rfl
theorem dL_law_1156 : decode cL_law 1156 = .ok (.aload_n 2, 1) := dk44 (k := 22) bL_law_1134 rfl
theorem dL_law_1157 : decode cL_law 1157 = .ok (.aload_n 0, 1) := dk42 (k := 23) bL_law_1134 rfl
theorem bL_law_1158 : bL cL_law 1158 [29, 4, 96, 46, 182, 0, 165, 87, 167, 3, 59, 43, 182, 0, 166, 87, 44, 182, 0, 169, 87, 167, 3, 46] := bL_of (by decide +kernel)
theorem dL_law_1158 : decode cL_law 1158 = .ok (.iload_n 3, 1) := dk29 (k := 0) bL_law_1158 rfl
theorem dL_law_1159 : decode cL_law 1159 = .ok (.iconst 1, 1) := dk4 (k := 1) bL_law_1158 rfl
theorem dL_law_1160 : decode cL_law 1160 = .ok (.iadd, 1) := dk96 (k := 2) bL_law_1158 rfl
theorem dL_law_1161 : decode cL_law 1161 = .ok (.iaload, 1) := dk46 (k := 3) bL_law_1158 rfl
theorem dL_law_1162 : decode cL_law 1162 = .ok (.invokevirtual 165, 3) := dk182 (k := 4) bL_law_1158 rfl rfl
theorem dL_law_1165 : decode cL_law 1165 = .ok (.pop, 1) := dk87 (k := 7) bL_law_1158 rfl
theorem dL_law_1166 : decode cL_law 1166 = .ok (.goto 827, 3) := dk167 (k := 8) bL_law_1158 rfl (by decide)
theorem dL_law_1169 : decode cL_law 1169 = .ok (.aload_n 1, 1) := dk43 (k := 11) bL_law_1158 rfl
theorem dL_law_1170 : decode cL_law 1170 = .ok (.invokevirtual 166, 3) := dk182 (k := 12) bL_law_1158 rfl rfl
theorem dL_law_1173 : decode cL_law 1173 = .ok (.pop, 1) := dk87 (k := 15) bL_law_1158 rfl
theorem dL_law_1174 : decode cL_law 1174 = .ok (.aload_n 2, 1) := dk44 (k := 16) bL_law_1158 rfl
theorem dL_law_1175 : decode cL_law 1175 = .ok (.invokevirtual 169, 3) := dk182 (k := 17) bL_law_1158 rfl rfl
theorem dL_law_1178 : decode cL_law 1178 = .ok (.pop, 1) := dk87 (k := 20) bL_law_1158 rfl
theorem dL_law_1179 : decode cL_law 1179 = .ok (.goto 814, 3) := dk167 (k := 21) bL_law_1158 rfl (by decide)
theorem bL_law_1182 : bL cL_law 1182 [43, 42, 29, 4, 96, 46, 42, 29, 5, 96, 46, 182, 0, 170, 87, 44, 42, 29, 4, 96, 46, 42, 29, 5] := bL_of (by decide +kernel)
theorem dL_law_1182 : decode cL_law 1182 = .ok (.aload_n 1, 1) := dk43 (k := 0) bL_law_1182 rfl
theorem dL_law_1183 : decode cL_law 1183 = .ok (.aload_n 0, 1) := dk42 (k := 1) bL_law_1182 rfl
theorem dL_law_1184 : decode cL_law 1184 = .ok (.iload_n 3, 1) := dk29 (k := 2) bL_law_1182 rfl
theorem dL_law_1185 : decode cL_law 1185 = .ok (.iconst 1, 1) := dk4 (k := 3) bL_law_1182 rfl
theorem dL_law_1186 : decode cL_law 1186 = .ok (.iadd, 1) := dk96 (k := 4) bL_law_1182 rfl
theorem dL_law_1187 : decode cL_law 1187 = .ok (.iaload, 1) := dk46 (k := 5) bL_law_1182 rfl
theorem dL_law_1188 : decode cL_law 1188 = .ok (.aload_n 0, 1) := dk42 (k := 6) bL_law_1182 rfl
theorem dL_law_1189 : decode cL_law 1189 = .ok (.iload_n 3, 1) := dk29 (k := 7) bL_law_1182 rfl
theorem dL_law_1190 : decode cL_law 1190 = .ok (.iconst 2, 1) := dk5 (k := 8) bL_law_1182 rfl
theorem dL_law_1191 : decode cL_law 1191 = .ok (.iadd, 1) := dk96 (k := 9) bL_law_1182 rfl
theorem dL_law_1192 : decode cL_law 1192 = .ok (.iaload, 1) := dk46 (k := 10) bL_law_1182 rfl
theorem dL_law_1193 : decode cL_law 1193 = .ok (.invokevirtual 170, 3) := dk182 (k := 11) bL_law_1182 rfl rfl
theorem dL_law_1196 : decode cL_law 1196 = .ok (.pop, 1) := dk87 (k := 14) bL_law_1182 rfl
theorem dL_law_1197 : decode cL_law 1197 = .ok (.aload_n 2, 1) := dk44 (k := 15) bL_law_1182 rfl
theorem dL_law_1198 : decode cL_law 1198 = .ok (.aload_n 0, 1) := dk42 (k := 16) bL_law_1182 rfl
theorem dL_law_1199 : decode cL_law 1199 = .ok (.iload_n 3, 1) := dk29 (k := 17) bL_law_1182 rfl
theorem dL_law_1200 : decode cL_law 1200 = .ok (.iconst 1, 1) := dk4 (k := 18) bL_law_1182 rfl
theorem dL_law_1201 : decode cL_law 1201 = .ok (.iadd, 1) := dk96 (k := 19) bL_law_1182 rfl
theorem dL_law_1202 : decode cL_law 1202 = .ok (.iaload, 1) := dk46 (k := 20) bL_law_1182 rfl
theorem dL_law_1203 : decode cL_law 1203 = .ok (.aload_n 0, 1) := dk42 (k := 21) bL_law_1182 rfl
theorem dL_law_1204 : decode cL_law 1204 = .ok (.iload_n 3, 1) := dk29 (k := 22) bL_law_1182 rfl
theorem dL_law_1205 : decode cL_law 1205 = .ok (.iconst 2, 1) := dk5 (k := 23) bL_law_1182 rfl
theorem bL_law_1206 : bL cL_law 1206 [96, 46, 182, 0, 173, 87, 167, 3, 13, 43, 182, 0, 174, 87, 44, 182, 0, 177, 87, 167, 3, 0, 43, 182, 0, 178] := bL_of (by decide +kernel)
theorem dL_law_1206 : decode cL_law 1206 = .ok (.iadd, 1) := dk96 (k := 0) bL_law_1206 rfl
theorem dL_law_1207 : decode cL_law 1207 = .ok (.iaload, 1) := dk46 (k := 1) bL_law_1206 rfl
theorem dL_law_1208 : decode cL_law 1208 = .ok (.invokevirtual 173, 3) := dk182 (k := 2) bL_law_1206 rfl rfl
theorem dL_law_1211 : decode cL_law 1211 = .ok (.pop, 1) := dk87 (k := 5) bL_law_1206 rfl
theorem dL_law_1212 : decode cL_law 1212 = .ok (.goto 781, 3) := dk167 (k := 6) bL_law_1206 rfl (by decide)
theorem dL_law_1215 : decode cL_law 1215 = .ok (.aload_n 1, 1) := dk43 (k := 9) bL_law_1206 rfl
theorem dL_law_1216 : decode cL_law 1216 = .ok (.invokevirtual 174, 3) := dk182 (k := 10) bL_law_1206 rfl rfl
theorem dL_law_1219 : decode cL_law 1219 = .ok (.pop, 1) := dk87 (k := 13) bL_law_1206 rfl
theorem dL_law_1220 : decode cL_law 1220 = .ok (.aload_n 2, 1) := dk44 (k := 14) bL_law_1206 rfl
theorem dL_law_1221 : decode cL_law 1221 = .ok (.invokevirtual 177, 3) := dk182 (k := 15) bL_law_1206 rfl rfl
theorem dL_law_1224 : decode cL_law 1224 = .ok (.pop, 1) := dk87 (k := 18) bL_law_1206 rfl
theorem dL_law_1225 : decode cL_law 1225 = .ok (.goto 768, 3) := dk167 (k := 19) bL_law_1206 rfl (by decide)
theorem dL_law_1228 : decode cL_law 1228 = .ok (.aload_n 1, 1) := dk43 (k := 22) bL_law_1206 rfl
theorem dL_law_1229 : decode cL_law 1229 = .ok (.invokevirtual 178, 3) := dk182 (k := 23) bL_law_1206 rfl rfl
theorem bL_law_1232 : bL cL_law 1232 [87, 44, 182, 0, 181, 87, 167, 2, 243, 43, 42, 29, 4, 96, 46, 182, 0, 182, 87, 44, 42, 29, 4, 96] := bL_of (by decide +kernel)
theorem dL_law_1232 : decode cL_law 1232 = .ok (.pop, 1) := dk87 (k := 0) bL_law_1232 rfl
theorem dL_law_1233 : decode cL_law 1233 = .ok (.aload_n 2, 1) := dk44 (k := 1) bL_law_1232 rfl
theorem dL_law_1234 : decode cL_law 1234 = .ok (.invokevirtual 181, 3) := dk182 (k := 2) bL_law_1232 rfl rfl
theorem dL_law_1237 : decode cL_law 1237 = .ok (.pop, 1) := dk87 (k := 5) bL_law_1232 rfl
theorem dL_law_1238 : decode cL_law 1238 = .ok (.goto 755, 3) := dk167 (k := 6) bL_law_1232 rfl (by decide)
theorem dL_law_1241 : decode cL_law 1241 = .ok (.aload_n 1, 1) := dk43 (k := 9) bL_law_1232 rfl
theorem dL_law_1242 : decode cL_law 1242 = .ok (.aload_n 0, 1) := dk42 (k := 10) bL_law_1232 rfl
theorem dL_law_1243 : decode cL_law 1243 = .ok (.iload_n 3, 1) := dk29 (k := 11) bL_law_1232 rfl
theorem dL_law_1244 : decode cL_law 1244 = .ok (.iconst 1, 1) := dk4 (k := 12) bL_law_1232 rfl
theorem dL_law_1245 : decode cL_law 1245 = .ok (.iadd, 1) := dk96 (k := 13) bL_law_1232 rfl
theorem dL_law_1246 : decode cL_law 1246 = .ok (.iaload, 1) := dk46 (k := 14) bL_law_1232 rfl
theorem dL_law_1247 : decode cL_law 1247 = .ok (.invokevirtual 182, 3) := dk182 (k := 15) bL_law_1232 rfl rfl
theorem dL_law_1250 : decode cL_law 1250 = .ok (.pop, 1) := dk87 (k := 18) bL_law_1232 rfl
theorem dL_law_1251 : decode cL_law 1251 = .ok (.aload_n 2, 1) := dk44 (k := 19) bL_law_1232 rfl
theorem dL_law_1252 : decode cL_law 1252 = .ok (.aload_n 0, 1) := dk42 (k := 20) bL_law_1232 rfl
theorem dL_law_1253 : decode cL_law 1253 = .ok (.iload_n 3, 1) := dk29 (k := 21) bL_law_1232 rfl
theorem dL_law_1254 : decode cL_law 1254 = .ok (.iconst 1, 1) := dk4 (k := 22) bL_law_1232 rfl
theorem dL_law_1255 : decode cL_law 1255 = .ok (.iadd, 1) := dk96 (k := 23) bL_law_1232 rfl
theorem bL_law_1256 : bL cL_law 1256 [46, 182, 0, 185, 87, 167, 2, 220, 43, 42, 29, 4, 96, 46, 42, 29, 5, 96, 46, 182, 0, 186, 87, 44] := bL_of (by decide +kernel)
theorem dL_law_1256 : decode cL_law 1256 = .ok (.iaload, 1) := dk46 (k := 0) bL_law_1256 rfl
theorem dL_law_1257 : decode cL_law 1257 = .ok (.invokevirtual 185, 3) := dk182 (k := 1) bL_law_1256 rfl rfl
theorem dL_law_1260 : decode cL_law 1260 = .ok (.pop, 1) := dk87 (k := 4) bL_law_1256 rfl
theorem dL_law_1261 : decode cL_law 1261 = .ok (.goto 732, 3) := dk167 (k := 5) bL_law_1256 rfl (by decide)
theorem dL_law_1264 : decode cL_law 1264 = .ok (.aload_n 1, 1) := dk43 (k := 8) bL_law_1256 rfl
theorem dL_law_1265 : decode cL_law 1265 = .ok (.aload_n 0, 1) := dk42 (k := 9) bL_law_1256 rfl
theorem dL_law_1266 : decode cL_law 1266 = .ok (.iload_n 3, 1) := dk29 (k := 10) bL_law_1256 rfl
theorem dL_law_1267 : decode cL_law 1267 = .ok (.iconst 1, 1) := dk4 (k := 11) bL_law_1256 rfl
theorem dL_law_1268 : decode cL_law 1268 = .ok (.iadd, 1) := dk96 (k := 12) bL_law_1256 rfl
theorem dL_law_1269 : decode cL_law 1269 = .ok (.iaload, 1) := dk46 (k := 13) bL_law_1256 rfl
theorem dL_law_1270 : decode cL_law 1270 = .ok (.aload_n 0, 1) := dk42 (k := 14) bL_law_1256 rfl
theorem dL_law_1271 : decode cL_law 1271 = .ok (.iload_n 3, 1) := dk29 (k := 15) bL_law_1256 rfl
theorem dL_law_1272 : decode cL_law 1272 = .ok (.iconst 2, 1) := dk5 (k := 16) bL_law_1256 rfl
theorem dL_law_1273 : decode cL_law 1273 = .ok (.iadd, 1) := dk96 (k := 17) bL_law_1256 rfl
theorem dL_law_1274 : decode cL_law 1274 = .ok (.iaload, 1) := dk46 (k := 18) bL_law_1256 rfl
theorem dL_law_1275 : decode cL_law 1275 = .ok (.invokevirtual 186, 3) := dk182 (k := 19) bL_law_1256 rfl rfl
theorem dL_law_1278 : decode cL_law 1278 = .ok (.pop, 1) := dk87 (k := 22) bL_law_1256 rfl
theorem dL_law_1279 : decode cL_law 1279 = .ok (.aload_n 2, 1) := dk44 (k := 23) bL_law_1256 rfl
theorem bL_law_1280 : bL cL_law 1280 [42, 29, 4, 96, 46, 42, 29, 5, 96, 46, 182, 0, 189, 87, 167, 2, 187, 43, 182, 0, 190, 87, 44, 182, 0, 193] := bL_of (by decide +kernel)
theorem dL_law_1280 : decode cL_law 1280 = .ok (.aload_n 0, 1) := dk42 (k := 0) bL_law_1280 rfl
theorem dL_law_1281 : decode cL_law 1281 = .ok (.iload_n 3, 1) := dk29 (k := 1) bL_law_1280 rfl
theorem dL_law_1282 : decode cL_law 1282 = .ok (.iconst 1, 1) := dk4 (k := 2) bL_law_1280 rfl
theorem dL_law_1283 : decode cL_law 1283 = .ok (.iadd, 1) := dk96 (k := 3) bL_law_1280 rfl
theorem dL_law_1284 : decode cL_law 1284 = .ok (.iaload, 1) := dk46 (k := 4) bL_law_1280 rfl
theorem dL_law_1285 : decode cL_law 1285 = .ok (.aload_n 0, 1) := dk42 (k := 5) bL_law_1280 rfl
theorem dL_law_1286 : decode cL_law 1286 = .ok (.iload_n 3, 1) := dk29 (k := 6) bL_law_1280 rfl
theorem dL_law_1287 : decode cL_law 1287 = .ok (.iconst 2, 1) := dk5 (k := 7) bL_law_1280 rfl
theorem dL_law_1288 : decode cL_law 1288 = .ok (.iadd, 1) := dk96 (k := 8) bL_law_1280 rfl
theorem dL_law_1289 : decode cL_law 1289 = .ok (.iaload, 1) := dk46 (k := 9) bL_law_1280 rfl
theorem dL_law_1290 : decode cL_law 1290 = .ok (.invokevirtual 189, 3) := dk182 (k := 10) bL_law_1280 rfl rfl
theorem dL_law_1293 : decode cL_law 1293 = .ok (.pop, 1) := dk87 (k := 13) bL_law_1280 rfl
theorem dL_law_1294 : decode cL_law 1294 = .ok (.goto 699, 3) := dk167 (k := 14) bL_law_1280 rfl (by decide)
theorem dL_law_1297 : decode cL_law 1297 = .ok (.aload_n 1, 1) := dk43 (k := 17) bL_law_1280 rfl
theorem dL_law_1298 : decode cL_law 1298 = .ok (.invokevirtual 190, 3) := dk182 (k := 18) bL_law_1280 rfl rfl
theorem dL_law_1301 : decode cL_law 1301 = .ok (.pop, 1) := dk87 (k := 21) bL_law_1280 rfl
theorem dL_law_1302 : decode cL_law 1302 = .ok (.aload_n 2, 1) := dk44 (k := 22) bL_law_1280 rfl
theorem dL_law_1303 : decode cL_law 1303 = .ok (.invokevirtual 193, 3) := dk182 (k := 23) bL_law_1280 rfl rfl
theorem bL_law_1306 : bL cL_law 1306 [87, 167, 2, 174, 43, 42, 29, 4, 96, 46, 182, 0, 194, 87, 44, 42, 29, 4, 96, 46, 182, 0, 197, 87] := bL_of (by decide +kernel)
theorem dL_law_1306 : decode cL_law 1306 = .ok (.pop, 1) := dk87 (k := 0) bL_law_1306 rfl
theorem dL_law_1307 : decode cL_law 1307 = .ok (.goto 686, 3) := dk167 (k := 1) bL_law_1306 rfl (by decide)
theorem dL_law_1310 : decode cL_law 1310 = .ok (.aload_n 1, 1) := dk43 (k := 4) bL_law_1306 rfl
theorem dL_law_1311 : decode cL_law 1311 = .ok (.aload_n 0, 1) := dk42 (k := 5) bL_law_1306 rfl
theorem dL_law_1312 : decode cL_law 1312 = .ok (.iload_n 3, 1) := dk29 (k := 6) bL_law_1306 rfl
theorem dL_law_1313 : decode cL_law 1313 = .ok (.iconst 1, 1) := dk4 (k := 7) bL_law_1306 rfl
theorem dL_law_1314 : decode cL_law 1314 = .ok (.iadd, 1) := dk96 (k := 8) bL_law_1306 rfl
theorem dL_law_1315 : decode cL_law 1315 = .ok (.iaload, 1) := dk46 (k := 9) bL_law_1306 rfl
theorem dL_law_1316 : decode cL_law 1316 = .ok (.invokevirtual 194, 3) := dk182 (k := 10) bL_law_1306 rfl rfl
theorem dL_law_1319 : decode cL_law 1319 = .ok (.pop, 1) := dk87 (k := 13) bL_law_1306 rfl
theorem dL_law_1320 : decode cL_law 1320 = .ok (.aload_n 2, 1) := dk44 (k := 14) bL_law_1306 rfl
theorem dL_law_1321 : decode cL_law 1321 = .ok (.aload_n 0, 1) := dk42 (k := 15) bL_law_1306 rfl
theorem dL_law_1322 : decode cL_law 1322 = .ok (.iload_n 3, 1) := dk29 (k := 16) bL_law_1306 rfl
theorem dL_law_1323 : decode cL_law 1323 = .ok (.iconst 1, 1) := dk4 (k := 17) bL_law_1306 rfl
theorem dL_law_1324 : decode cL_law 1324 = .ok (.iadd, 1) := dk96 (k := 18) bL_law_1306 rfl
theorem dL_law_1325 : decode cL_law 1325 = .ok (.iaload, 1) := dk46 (k := 19) bL_law_1306 rfl
theorem dL_law_1326 : decode cL_law 1326 = .ok (.invokevirtual 197, 3) := dk182 (k := 20) bL_law_1306 rfl rfl
theorem dL_law_1329 : decode cL_law 1329 = .ok (.pop, 1) := dk87 (k := 23) bL_law_1306 rfl
theorem bL_law_1330 : bL cL_law 1330 [167, 2, 151, 43, 42, 29, 4, 96, 46, 182, 0, 198, 87, 44, 42, 29, 4, 96, 46, 182, 0, 201, 87, 167, 2, 128] := bL_of (by decide +kernel)
theorem dL_law_1330 : decode cL_law 1330 = .ok (.goto 663, 3) := dk167 (k := 0) bL_law_1330 rfl (by decide)
theorem dL_law_1333 : decode cL_law 1333 = .ok (.aload_n 1, 1) := dk43 (k := 3) bL_law_1330 rfl
theorem dL_law_1334 : decode cL_law 1334 = .ok (.aload_n 0, 1) := dk42 (k := 4) bL_law_1330 rfl
theorem dL_law_1335 : decode cL_law 1335 = .ok (.iload_n 3, 1) := dk29 (k := 5) bL_law_1330 rfl
theorem dL_law_1336 : decode cL_law 1336 = .ok (.iconst 1, 1) := dk4 (k := 6) bL_law_1330 rfl
theorem dL_law_1337 : decode cL_law 1337 = .ok (.iadd, 1) := dk96 (k := 7) bL_law_1330 rfl
theorem dL_law_1338 : decode cL_law 1338 = .ok (.iaload, 1) := dk46 (k := 8) bL_law_1330 rfl
theorem dL_law_1339 : decode cL_law 1339 = .ok (.invokevirtual 198, 3) := dk182 (k := 9) bL_law_1330 rfl rfl
theorem dL_law_1342 : decode cL_law 1342 = .ok (.pop, 1) := dk87 (k := 12) bL_law_1330 rfl
theorem dL_law_1343 : decode cL_law 1343 = .ok (.aload_n 2, 1) := dk44 (k := 13) bL_law_1330 rfl
theorem dL_law_1344 : decode cL_law 1344 = .ok (.aload_n 0, 1) := dk42 (k := 14) bL_law_1330 rfl
theorem dL_law_1345 : decode cL_law 1345 = .ok (.iload_n 3, 1) := dk29 (k := 15) bL_law_1330 rfl
theorem dL_law_1346 : decode cL_law 1346 = .ok (.iconst 1, 1) := dk4 (k := 16) bL_law_1330 rfl
theorem dL_law_1347 : decode cL_law 1347 = .ok (.iadd, 1) := dk96 (k := 17) bL_law_1330 rfl
theorem dL_law_1348 : decode cL_law 1348 = .ok (.iaload, 1) := dk46 (k := 18) bL_law_1330 rfl
theorem dL_law_1349 : decode cL_law 1349 = .ok (.invokevirtual 201, 3) := dk182 (k := 19) bL_law_1330 rfl rfl
theorem dL_law_1352 : decode cL_law 1352 = .ok (.pop, 1) := dk87 (k := 22) bL_law_1330 rfl
theorem dL_law_1353 : decode cL_law 1353 = .ok (.goto 640, 3) := dk167 (k := 23) bL_law_1330 rfl (by decide)
theorem bL_law_1356 : bL cL_law 1356 [43, 42, 29, 4, 96, 46, 42, 29, 5, 96, 46, 182, 0, 202, 87, 44, 42, 29, 4, 96, 46, 42, 29, 5] := bL_of (by decide +kernel)
theorem dL_law_1356 : decode cL_law 1356 = .ok (.aload_n 1, 1) := dk43 (k := 0) bL_law_1356 rfl
theorem dL_law_1357 : decode cL_law 1357 = .ok (.aload_n 0, 1) := dk42 (k := 1) bL_law_1356 rfl
theorem dL_law_1358 : decode cL_law 1358 = .ok (.iload_n 3, 1) := dk29 (k := 2) bL_law_1356 rfl
theorem dL_law_1359 : decode cL_law 1359 = .ok (.iconst 1, 1) := dk4 (k := 3) bL_law_1356 rfl
theorem dL_law_1360 : decode cL_law 1360 = .ok (.iadd, 1) := dk96 (k := 4) bL_law_1356 rfl
theorem dL_law_1361 : decode cL_law 1361 = .ok (.iaload, 1) := dk46 (k := 5) bL_law_1356 rfl
theorem dL_law_1362 : decode cL_law 1362 = .ok (.aload_n 0, 1) := dk42 (k := 6) bL_law_1356 rfl
theorem dL_law_1363 : decode cL_law 1363 = .ok (.iload_n 3, 1) := dk29 (k := 7) bL_law_1356 rfl
theorem dL_law_1364 : decode cL_law 1364 = .ok (.iconst 2, 1) := dk5 (k := 8) bL_law_1356 rfl
theorem dL_law_1365 : decode cL_law 1365 = .ok (.iadd, 1) := dk96 (k := 9) bL_law_1356 rfl
theorem dL_law_1366 : decode cL_law 1366 = .ok (.iaload, 1) := dk46 (k := 10) bL_law_1356 rfl
theorem dL_law_1367 : decode cL_law 1367 = .ok (.invokevirtual 202, 3) := dk182 (k := 11) bL_law_1356 rfl rfl
theorem dL_law_1370 : decode cL_law 1370 = .ok (.pop, 1) := dk87 (k := 14) bL_law_1356 rfl
theorem dL_law_1371 : decode cL_law 1371 = .ok (.aload_n 2, 1) := dk44 (k := 15) bL_law_1356 rfl
theorem dL_law_1372 : decode cL_law 1372 = .ok (.aload_n 0, 1) := dk42 (k := 16) bL_law_1356 rfl
theorem dL_law_1373 : decode cL_law 1373 = .ok (.iload_n 3, 1) := dk29 (k := 17) bL_law_1356 rfl
theorem dL_law_1374 : decode cL_law 1374 = .ok (.iconst 1, 1) := dk4 (k := 18) bL_law_1356 rfl
theorem dL_law_1375 : decode cL_law 1375 = .ok (.iadd, 1) := dk96 (k := 19) bL_law_1356 rfl
theorem dL_law_1376 : decode cL_law 1376 = .ok (.iaload, 1) := dk46 (k := 20) bL_law_1356 rfl
theorem dL_law_1377 : decode cL_law 1377 = .ok (.aload_n 0, 1) := dk42 (k := 21) bL_law_1356 rfl
theorem dL_law_1378 : decode cL_law 1378 = .ok (.iload_n 3, 1) := dk29 (k := 22) bL_law_1356 rfl
theorem dL_law_1379 : decode cL_law 1379 = .ok (.iconst 2, 1) := dk5 (k := 23) bL_law_1356 rfl
theorem bL_law_1380 : bL cL_law 1380 [96, 46, 182, 0, 205, 87, 167, 2, 95, 43, 42, 29, 4, 96, 46, 182, 0, 206, 87, 44, 42, 29, 4, 96] := bL_of (by decide +kernel)
theorem dL_law_1380 : decode cL_law 1380 = .ok (.iadd, 1) := dk96 (k := 0) bL_law_1380 rfl
theorem dL_law_1381 : decode cL_law 1381 = .ok (.iaload, 1) := dk46 (k := 1) bL_law_1380 rfl
theorem dL_law_1382 : decode cL_law 1382 = .ok (.invokevirtual 205, 3) := dk182 (k := 2) bL_law_1380 rfl rfl
theorem dL_law_1385 : decode cL_law 1385 = .ok (.pop, 1) := dk87 (k := 5) bL_law_1380 rfl
theorem dL_law_1386 : decode cL_law 1386 = .ok (.goto 607, 3) := dk167 (k := 6) bL_law_1380 rfl (by decide)
theorem dL_law_1389 : decode cL_law 1389 = .ok (.aload_n 1, 1) := dk43 (k := 9) bL_law_1380 rfl
theorem dL_law_1390 : decode cL_law 1390 = .ok (.aload_n 0, 1) := dk42 (k := 10) bL_law_1380 rfl
theorem dL_law_1391 : decode cL_law 1391 = .ok (.iload_n 3, 1) := dk29 (k := 11) bL_law_1380 rfl
theorem dL_law_1392 : decode cL_law 1392 = .ok (.iconst 1, 1) := dk4 (k := 12) bL_law_1380 rfl
theorem dL_law_1393 : decode cL_law 1393 = .ok (.iadd, 1) := dk96 (k := 13) bL_law_1380 rfl
theorem dL_law_1394 : decode cL_law 1394 = .ok (.iaload, 1) := dk46 (k := 14) bL_law_1380 rfl
theorem dL_law_1395 : decode cL_law 1395 = .ok (.invokevirtual 206, 3) := dk182 (k := 15) bL_law_1380 rfl rfl
theorem dL_law_1398 : decode cL_law 1398 = .ok (.pop, 1) := dk87 (k := 18) bL_law_1380 rfl
theorem dL_law_1399 : decode cL_law 1399 = .ok (.aload_n 2, 1) := dk44 (k := 19) bL_law_1380 rfl
theorem dL_law_1400 : decode cL_law 1400 = .ok (.aload_n 0, 1) := dk42 (k := 20) bL_law_1380 rfl
theorem dL_law_1401 : decode cL_law 1401 = .ok (.iload_n 3, 1) := dk29 (k := 21) bL_law_1380 rfl
theorem dL_law_1402 : decode cL_law 1402 = .ok (.iconst 1, 1) := dk4 (k := 22) bL_law_1380 rfl
theorem dL_law_1403 : decode cL_law 1403 = .ok (.iadd, 1) := dk96 (k := 23) bL_law_1380 rfl
theorem bL_law_1404 : bL cL_law 1404 [46, 182, 0, 209, 87, 167, 2, 72, 43, 182, 0, 210, 87, 44, 182, 0, 213, 87, 167, 2, 59, 43, 42, 29] := bL_of (by decide +kernel)
theorem dL_law_1404 : decode cL_law 1404 = .ok (.iaload, 1) := dk46 (k := 0) bL_law_1404 rfl
theorem dL_law_1405 : decode cL_law 1405 = .ok (.invokevirtual 209, 3) := dk182 (k := 1) bL_law_1404 rfl rfl
theorem dL_law_1408 : decode cL_law 1408 = .ok (.pop, 1) := dk87 (k := 4) bL_law_1404 rfl
theorem dL_law_1409 : decode cL_law 1409 = .ok (.goto 584, 3) := dk167 (k := 5) bL_law_1404 rfl (by decide)
theorem dL_law_1412 : decode cL_law 1412 = .ok (.aload_n 1, 1) := dk43 (k := 8) bL_law_1404 rfl
theorem dL_law_1413 : decode cL_law 1413 = .ok (.invokevirtual 210, 3) := dk182 (k := 9) bL_law_1404 rfl rfl
theorem dL_law_1416 : decode cL_law 1416 = .ok (.pop, 1) := dk87 (k := 12) bL_law_1404 rfl
theorem dL_law_1417 : decode cL_law 1417 = .ok (.aload_n 2, 1) := dk44 (k := 13) bL_law_1404 rfl
theorem dL_law_1418 : decode cL_law 1418 = .ok (.invokevirtual 213, 3) := dk182 (k := 14) bL_law_1404 rfl rfl
theorem dL_law_1421 : decode cL_law 1421 = .ok (.pop, 1) := dk87 (k := 17) bL_law_1404 rfl
theorem dL_law_1422 : decode cL_law 1422 = .ok (.goto 571, 3) := dk167 (k := 18) bL_law_1404 rfl (by decide)
theorem dL_law_1425 : decode cL_law 1425 = .ok (.aload_n 1, 1) := dk43 (k := 21) bL_law_1404 rfl
theorem dL_law_1426 : decode cL_law 1426 = .ok (.aload_n 0, 1) := dk42 (k := 22) bL_law_1404 rfl
theorem dL_law_1427 : decode cL_law 1427 = .ok (.iload_n 3, 1) := dk29 (k := 23) bL_law_1404 rfl
theorem bL_law_1428 : bL cL_law 1428 [4, 96, 46, 182, 0, 214, 87, 44, 42, 29, 4, 96, 46, 182, 0, 217, 87, 167, 2, 36, 43, 42, 29, 4] := bL_of (by decide +kernel)
theorem dL_law_1428 : decode cL_law 1428 = .ok (.iconst 1, 1) := dk4 (k := 0) bL_law_1428 rfl
theorem dL_law_1429 : decode cL_law 1429 = .ok (.iadd, 1) := dk96 (k := 1) bL_law_1428 rfl
theorem dL_law_1430 : decode cL_law 1430 = .ok (.iaload, 1) := dk46 (k := 2) bL_law_1428 rfl
theorem dL_law_1431 : decode cL_law 1431 = .ok (.invokevirtual 214, 3) := dk182 (k := 3) bL_law_1428 rfl rfl
theorem dL_law_1434 : decode cL_law 1434 = .ok (.pop, 1) := dk87 (k := 6) bL_law_1428 rfl
theorem dL_law_1435 : decode cL_law 1435 = .ok (.aload_n 2, 1) := dk44 (k := 7) bL_law_1428 rfl
theorem dL_law_1436 : decode cL_law 1436 = .ok (.aload_n 0, 1) := dk42 (k := 8) bL_law_1428 rfl
theorem dL_law_1437 : decode cL_law 1437 = .ok (.iload_n 3, 1) := dk29 (k := 9) bL_law_1428 rfl
theorem dL_law_1438 : decode cL_law 1438 = .ok (.iconst 1, 1) := dk4 (k := 10) bL_law_1428 rfl
theorem dL_law_1439 : decode cL_law 1439 = .ok (.iadd, 1) := dk96 (k := 11) bL_law_1428 rfl
theorem dL_law_1440 : decode cL_law 1440 = .ok (.iaload, 1) := dk46 (k := 12) bL_law_1428 rfl
theorem dL_law_1441 : decode cL_law 1441 = .ok (.invokevirtual 217, 3) := dk182 (k := 13) bL_law_1428 rfl rfl
theorem dL_law_1444 : decode cL_law 1444 = .ok (.pop, 1) := dk87 (k := 16) bL_law_1428 rfl
theorem dL_law_1445 : decode cL_law 1445 = .ok (.goto 548, 3) := dk167 (k := 17) bL_law_1428 rfl (by decide)
theorem dL_law_1448 : decode cL_law 1448 = .ok (.aload_n 1, 1) := dk43 (k := 20) bL_law_1428 rfl
theorem dL_law_1449 : decode cL_law 1449 = .ok (.aload_n 0, 1) := dk42 (k := 21) bL_law_1428 rfl
theorem dL_law_1450 : decode cL_law 1450 = .ok (.iload_n 3, 1) := dk29 (k := 22) bL_law_1428 rfl
theorem dL_law_1451 : decode cL_law 1451 = .ok (.iconst 1, 1) := dk4 (k := 23) bL_law_1428 rfl
theorem bL_law_1452 : bL cL_law 1452 [96, 46, 42, 29, 5, 96, 46, 182, 0, 218, 87, 44, 42, 29, 4, 96, 46, 42, 29, 5, 96, 46, 182, 0, 221] := bL_of (by decide +kernel)
theorem dL_law_1452 : decode cL_law 1452 = .ok (.iadd, 1) := dk96 (k := 0) bL_law_1452 rfl
theorem dL_law_1453 : decode cL_law 1453 = .ok (.iaload, 1) := dk46 (k := 1) bL_law_1452 rfl
theorem dL_law_1454 : decode cL_law 1454 = .ok (.aload_n 0, 1) := dk42 (k := 2) bL_law_1452 rfl
theorem dL_law_1455 : decode cL_law 1455 = .ok (.iload_n 3, 1) := dk29 (k := 3) bL_law_1452 rfl
theorem dL_law_1456 : decode cL_law 1456 = .ok (.iconst 2, 1) := dk5 (k := 4) bL_law_1452 rfl
theorem dL_law_1457 : decode cL_law 1457 = .ok (.iadd, 1) := dk96 (k := 5) bL_law_1452 rfl
theorem dL_law_1458 : decode cL_law 1458 = .ok (.iaload, 1) := dk46 (k := 6) bL_law_1452 rfl
theorem dL_law_1459 : decode cL_law 1459 = .ok (.invokevirtual 218, 3) := dk182 (k := 7) bL_law_1452 rfl rfl
theorem dL_law_1462 : decode cL_law 1462 = .ok (.pop, 1) := dk87 (k := 10) bL_law_1452 rfl
theorem dL_law_1463 : decode cL_law 1463 = .ok (.aload_n 2, 1) := dk44 (k := 11) bL_law_1452 rfl
theorem dL_law_1464 : decode cL_law 1464 = .ok (.aload_n 0, 1) := dk42 (k := 12) bL_law_1452 rfl
theorem dL_law_1465 : decode cL_law 1465 = .ok (.iload_n 3, 1) := dk29 (k := 13) bL_law_1452 rfl
theorem dL_law_1466 : decode cL_law 1466 = .ok (.iconst 1, 1) := dk4 (k := 14) bL_law_1452 rfl
theorem dL_law_1467 : decode cL_law 1467 = .ok (.iadd, 1) := dk96 (k := 15) bL_law_1452 rfl
theorem dL_law_1468 : decode cL_law 1468 = .ok (.iaload, 1) := dk46 (k := 16) bL_law_1452 rfl
theorem dL_law_1469 : decode cL_law 1469 = .ok (.aload_n 0, 1) := dk42 (k := 17) bL_law_1452 rfl
theorem dL_law_1470 : decode cL_law 1470 = .ok (.iload_n 3, 1) := dk29 (k := 18) bL_law_1452 rfl
theorem dL_law_1471 : decode cL_law 1471 = .ok (.iconst 2, 1) := dk5 (k := 19) bL_law_1452 rfl
theorem dL_law_1472 : decode cL_law 1472 = .ok (.iadd, 1) := dk96 (k := 20) bL_law_1452 rfl
theorem dL_law_1473 : decode cL_law 1473 = .ok (.iaload, 1) := dk46 (k := 21) bL_law_1452 rfl
theorem dL_law_1474 : decode cL_law 1474 = .ok (.invokevirtual 221, 3) := dk182 (k := 22) bL_law_1452 rfl rfl
theorem bL_law_1477 : bL cL_law 1477 [87, 167, 2, 3, 43, 42, 29, 4, 96, 46, 42, 29, 5, 96, 46, 182, 0, 222, 87, 44, 42, 29, 4, 96] := bL_of (by decide +kernel)
theorem dL_law_1477 : decode cL_law 1477 = .ok (.pop, 1) := dk87 (k := 0) bL_law_1477 rfl
theorem dL_law_1478 : decode cL_law 1478 = .ok (.goto 515, 3) := dk167 (k := 1) bL_law_1477 rfl (by decide)
theorem dL_law_1481 : decode cL_law 1481 = .ok (.aload_n 1, 1) := dk43 (k := 4) bL_law_1477 rfl
theorem dL_law_1482 : decode cL_law 1482 = .ok (.aload_n 0, 1) := dk42 (k := 5) bL_law_1477 rfl
theorem dL_law_1483 : decode cL_law 1483 = .ok (.iload_n 3, 1) := dk29 (k := 6) bL_law_1477 rfl
theorem dL_law_1484 : decode cL_law 1484 = .ok (.iconst 1, 1) := dk4 (k := 7) bL_law_1477 rfl
theorem dL_law_1485 : decode cL_law 1485 = .ok (.iadd, 1) := dk96 (k := 8) bL_law_1477 rfl
theorem dL_law_1486 : decode cL_law 1486 = .ok (.iaload, 1) := dk46 (k := 9) bL_law_1477 rfl
theorem dL_law_1487 : decode cL_law 1487 = .ok (.aload_n 0, 1) := dk42 (k := 10) bL_law_1477 rfl
theorem dL_law_1488 : decode cL_law 1488 = .ok (.iload_n 3, 1) := dk29 (k := 11) bL_law_1477 rfl
theorem dL_law_1489 : decode cL_law 1489 = .ok (.iconst 2, 1) := dk5 (k := 12) bL_law_1477 rfl
theorem dL_law_1490 : decode cL_law 1490 = .ok (.iadd, 1) := dk96 (k := 13) bL_law_1477 rfl
theorem dL_law_1491 : decode cL_law 1491 = .ok (.iaload, 1) := dk46 (k := 14) bL_law_1477 rfl
theorem dL_law_1492 : decode cL_law 1492 = .ok (.invokevirtual 222, 3) := dk182 (k := 15) bL_law_1477 rfl rfl
theorem dL_law_1495 : decode cL_law 1495 = .ok (.pop, 1) := dk87 (k := 18) bL_law_1477 rfl
theorem dL_law_1496 : decode cL_law 1496 = .ok (.aload_n 2, 1) := dk44 (k := 19) bL_law_1477 rfl
theorem dL_law_1497 : decode cL_law 1497 = .ok (.aload_n 0, 1) := dk42 (k := 20) bL_law_1477 rfl
theorem dL_law_1498 : decode cL_law 1498 = .ok (.iload_n 3, 1) := dk29 (k := 21) bL_law_1477 rfl
theorem dL_law_1499 : decode cL_law 1499 = .ok (.iconst 1, 1) := dk4 (k := 22) bL_law_1477 rfl
theorem dL_law_1500 : decode cL_law 1500 = .ok (.iadd, 1) := dk96 (k := 23) bL_law_1477 rfl
theorem bL_law_1501 : bL cL_law 1501 [46, 42, 29, 5, 96, 46, 182, 0, 225, 87, 167, 1, 226, 43, 42, 29, 4, 96, 46, 182, 0, 226, 87, 44] := bL_of (by decide +kernel)
theorem dL_law_1501 : decode cL_law 1501 = .ok (.iaload, 1) := dk46 (k := 0) bL_law_1501 rfl
theorem dL_law_1502 : decode cL_law 1502 = .ok (.aload_n 0, 1) := dk42 (k := 1) bL_law_1501 rfl
theorem dL_law_1503 : decode cL_law 1503 = .ok (.iload_n 3, 1) := dk29 (k := 2) bL_law_1501 rfl
theorem dL_law_1504 : decode cL_law 1504 = .ok (.iconst 2, 1) := dk5 (k := 3) bL_law_1501 rfl
theorem dL_law_1505 : decode cL_law 1505 = .ok (.iadd, 1) := dk96 (k := 4) bL_law_1501 rfl
theorem dL_law_1506 : decode cL_law 1506 = .ok (.iaload, 1) := dk46 (k := 5) bL_law_1501 rfl
theorem dL_law_1507 : decode cL_law 1507 = .ok (.invokevirtual 225, 3) := dk182 (k := 6) bL_law_1501 rfl rfl
theorem dL_law_1510 : decode cL_law 1510 = .ok (.pop, 1) := dk87 (k := 9) bL_law_1501 rfl
theorem dL_law_1511 : decode cL_law 1511 = .ok (.goto 482, 3) := dk167 (k := 10) bL_law_1501 rfl (by decide)
theorem dL_law_1514 : decode cL_law 1514 = .ok (.aload_n 1, 1) := dk43 (k := 13) bL_law_1501 rfl
theorem dL_law_1515 : decode cL_law 1515 = .ok (.aload_n 0, 1) := dk42 (k := 14) bL_law_1501 rfl
theorem dL_law_1516 : decode cL_law 1516 = .ok (.iload_n 3, 1) := dk29 (k := 15) bL_law_1501 rfl
theorem dL_law_1517 : decode cL_law 1517 = .ok (.iconst 1, 1) := dk4 (k := 16) bL_law_1501 rfl
theorem dL_law_1518 : decode cL_law 1518 = .ok (.iadd, 1) := dk96 (k := 17) bL_law_1501 rfl
theorem dL_law_1519 : decode cL_law 1519 = .ok (.iaload, 1) := dk46 (k := 18) bL_law_1501 rfl
theorem dL_law_1520 : decode cL_law 1520 = .ok (.invokevirtual 226, 3) := dk182 (k := 19) bL_law_1501 rfl rfl
theorem dL_law_1523 : decode cL_law 1523 = .ok (.pop, 1) := dk87 (k := 22) bL_law_1501 rfl
theorem dL_law_1524 : decode cL_law 1524 = .ok (.aload_n 2, 1) := dk44 (k := 23) bL_law_1501 rfl
theorem bL_law_1525 : bL cL_law 1525 [42, 29, 4, 96, 46, 182, 0, 229, 87, 167, 1, 203, 43, 42, 29, 4, 96, 46, 182, 0, 230, 87, 44, 42] := bL_of (by decide +kernel)
theorem dL_law_1525 : decode cL_law 1525 = .ok (.aload_n 0, 1) := dk42 (k := 0) bL_law_1525 rfl
theorem dL_law_1526 : decode cL_law 1526 = .ok (.iload_n 3, 1) := dk29 (k := 1) bL_law_1525 rfl
theorem dL_law_1527 : decode cL_law 1527 = .ok (.iconst 1, 1) := dk4 (k := 2) bL_law_1525 rfl
theorem dL_law_1528 : decode cL_law 1528 = .ok (.iadd, 1) := dk96 (k := 3) bL_law_1525 rfl
theorem dL_law_1529 : decode cL_law 1529 = .ok (.iaload, 1) := dk46 (k := 4) bL_law_1525 rfl
theorem dL_law_1530 : decode cL_law 1530 = .ok (.invokevirtual 229, 3) := dk182 (k := 5) bL_law_1525 rfl rfl
theorem dL_law_1533 : decode cL_law 1533 = .ok (.pop, 1) := dk87 (k := 8) bL_law_1525 rfl
theorem dL_law_1534 : decode cL_law 1534 = .ok (.goto 459, 3) := dk167 (k := 9) bL_law_1525 rfl (by decide)
theorem dL_law_1537 : decode cL_law 1537 = .ok (.aload_n 1, 1) := dk43 (k := 12) bL_law_1525 rfl
theorem dL_law_1538 : decode cL_law 1538 = .ok (.aload_n 0, 1) := dk42 (k := 13) bL_law_1525 rfl
theorem dL_law_1539 : decode cL_law 1539 = .ok (.iload_n 3, 1) := dk29 (k := 14) bL_law_1525 rfl
theorem dL_law_1540 : decode cL_law 1540 = .ok (.iconst 1, 1) := dk4 (k := 15) bL_law_1525 rfl
theorem dL_law_1541 : decode cL_law 1541 = .ok (.iadd, 1) := dk96 (k := 16) bL_law_1525 rfl
theorem dL_law_1542 : decode cL_law 1542 = .ok (.iaload, 1) := dk46 (k := 17) bL_law_1525 rfl
theorem dL_law_1543 : decode cL_law 1543 = .ok (.invokevirtual 230, 3) := dk182 (k := 18) bL_law_1525 rfl rfl
theorem dL_law_1546 : decode cL_law 1546 = .ok (.pop, 1) := dk87 (k := 21) bL_law_1525 rfl
theorem dL_law_1547 : decode cL_law 1547 = .ok (.aload_n 2, 1) := dk44 (k := 22) bL_law_1525 rfl
theorem dL_law_1548 : decode cL_law 1548 = .ok (.aload_n 0, 1) := dk42 (k := 23) bL_law_1525 rfl
theorem bL_law_1549 : bL cL_law 1549 [29, 4, 96, 46, 182, 0, 233, 87, 167, 1, 180, 43, 42, 29, 4, 96, 46, 42, 29, 5, 96, 46, 182, 0, 234] := bL_of (by decide +kernel)
theorem dL_law_1549 : decode cL_law 1549 = .ok (.iload_n 3, 1) := dk29 (k := 0) bL_law_1549 rfl
theorem dL_law_1550 : decode cL_law 1550 = .ok (.iconst 1, 1) := dk4 (k := 1) bL_law_1549 rfl
theorem dL_law_1551 : decode cL_law 1551 = .ok (.iadd, 1) := dk96 (k := 2) bL_law_1549 rfl
theorem dL_law_1552 : decode cL_law 1552 = .ok (.iaload, 1) := dk46 (k := 3) bL_law_1549 rfl
theorem dL_law_1553 : decode cL_law 1553 = .ok (.invokevirtual 233, 3) := dk182 (k := 4) bL_law_1549 rfl rfl
theorem dL_law_1556 : decode cL_law 1556 = .ok (.pop, 1) := dk87 (k := 7) bL_law_1549 rfl
theorem dL_law_1557 : decode cL_law 1557 = .ok (.goto 436, 3) := dk167 (k := 8) bL_law_1549 rfl (by decide)
theorem dL_law_1560 : decode cL_law 1560 = .ok (.aload_n 1, 1) := dk43 (k := 11) bL_law_1549 rfl
theorem dL_law_1561 : decode cL_law 1561 = .ok (.aload_n 0, 1) := dk42 (k := 12) bL_law_1549 rfl
theorem dL_law_1562 : decode cL_law 1562 = .ok (.iload_n 3, 1) := dk29 (k := 13) bL_law_1549 rfl
theorem dL_law_1563 : decode cL_law 1563 = .ok (.iconst 1, 1) := dk4 (k := 14) bL_law_1549 rfl
theorem dL_law_1564 : decode cL_law 1564 = .ok (.iadd, 1) := dk96 (k := 15) bL_law_1549 rfl
theorem dL_law_1565 : decode cL_law 1565 = .ok (.iaload, 1) := dk46 (k := 16) bL_law_1549 rfl
theorem dL_law_1566 : decode cL_law 1566 = .ok (.aload_n 0, 1) := dk42 (k := 17) bL_law_1549 rfl
theorem dL_law_1567 : decode cL_law 1567 = .ok (.iload_n 3, 1) := dk29 (k := 18) bL_law_1549 rfl
theorem dL_law_1568 : decode cL_law 1568 = .ok (.iconst 2, 1) := dk5 (k := 19) bL_law_1549 rfl
theorem dL_law_1569 : decode cL_law 1569 = .ok (.iadd, 1) := dk96 (k := 20) bL_law_1549 rfl
theorem dL_law_1570 : decode cL_law 1570 = .ok (.iaload, 1) := dk46 (k := 21) bL_law_1549 rfl
theorem dL_law_1571 : decode cL_law 1571 = .ok (.invokevirtual 234, 3) := dk182 (k := 22) bL_law_1549 rfl rfl
theorem bL_law_1574 : bL cL_law 1574 [87, 44, 42, 29, 4, 96, 46, 42, 29, 5, 96, 46, 182, 0, 237, 87, 167, 1, 147, 43, 42, 29, 4, 96] := bL_of (by decide +kernel)
theorem dL_law_1574 : decode cL_law 1574 = .ok (.pop, 1) := dk87 (k := 0) bL_law_1574 rfl
theorem dL_law_1575 : decode cL_law 1575 = .ok (.aload_n 2, 1) := dk44 (k := 1) bL_law_1574 rfl
theorem dL_law_1576 : decode cL_law 1576 = .ok (.aload_n 0, 1) := dk42 (k := 2) bL_law_1574 rfl
theorem dL_law_1577 : decode cL_law 1577 = .ok (.iload_n 3, 1) := dk29 (k := 3) bL_law_1574 rfl
theorem dL_law_1578 : decode cL_law 1578 = .ok (.iconst 1, 1) := dk4 (k := 4) bL_law_1574 rfl
theorem dL_law_1579 : decode cL_law 1579 = .ok (.iadd, 1) := dk96 (k := 5) bL_law_1574 rfl
theorem dL_law_1580 : decode cL_law 1580 = .ok (.iaload, 1) := dk46 (k := 6) bL_law_1574 rfl
theorem dL_law_1581 : decode cL_law 1581 = .ok (.aload_n 0, 1) := dk42 (k := 7) bL_law_1574 rfl
theorem dL_law_1582 : decode cL_law 1582 = .ok (.iload_n 3, 1) := dk29 (k := 8) bL_law_1574 rfl
theorem dL_law_1583 : decode cL_law 1583 = .ok (.iconst 2, 1) := dk5 (k := 9) bL_law_1574 rfl
theorem dL_law_1584 : decode cL_law 1584 = .ok (.iadd, 1) := dk96 (k := 10) bL_law_1574 rfl
theorem dL_law_1585 : decode cL_law 1585 = .ok (.iaload, 1) := dk46 (k := 11) bL_law_1574 rfl
theorem dL_law_1586 : decode cL_law 1586 = .ok (.invokevirtual 237, 3) := dk182 (k := 12) bL_law_1574 rfl rfl
theorem dL_law_1589 : decode cL_law 1589 = .ok (.pop, 1) := dk87 (k := 15) bL_law_1574 rfl
theorem dL_law_1590 : decode cL_law 1590 = .ok (.goto 403, 3) := dk167 (k := 16) bL_law_1574 rfl (by decide)
theorem dL_law_1593 : decode cL_law 1593 = .ok (.aload_n 1, 1) := dk43 (k := 19) bL_law_1574 rfl
theorem dL_law_1594 : decode cL_law 1594 = .ok (.aload_n 0, 1) := dk42 (k := 20) bL_law_1574 rfl
theorem dL_law_1595 : decode cL_law 1595 = .ok (.iload_n 3, 1) := dk29 (k := 21) bL_law_1574 rfl
theorem dL_law_1596 : decode cL_law 1596 = .ok (.iconst 1, 1) := dk4 (k := 22) bL_law_1574 rfl
theorem dL_law_1597 : decode cL_law 1597 = .ok (.iadd, 1) := dk96 (k := 23) bL_law_1574 rfl
theorem bL_law_1598 : bL cL_law 1598 [46, 42, 29, 5, 96, 46, 42, 29, 6, 96, 46, 182, 0, 238, 87, 44, 42, 29, 4, 96, 46, 42, 29, 5] := bL_of (by decide +kernel)
theorem dL_law_1598 : decode cL_law 1598 = .ok (.iaload, 1) := dk46 (k := 0) bL_law_1598 rfl
theorem dL_law_1599 : decode cL_law 1599 = .ok (.aload_n 0, 1) := dk42 (k := 1) bL_law_1598 rfl
theorem dL_law_1600 : decode cL_law 1600 = .ok (.iload_n 3, 1) := dk29 (k := 2) bL_law_1598 rfl
theorem dL_law_1601 : decode cL_law 1601 = .ok (.iconst 2, 1) := dk5 (k := 3) bL_law_1598 rfl
theorem dL_law_1602 : decode cL_law 1602 = .ok (.iadd, 1) := dk96 (k := 4) bL_law_1598 rfl
theorem dL_law_1603 : decode cL_law 1603 = .ok (.iaload, 1) := dk46 (k := 5) bL_law_1598 rfl
theorem dL_law_1604 : decode cL_law 1604 = .ok (.aload_n 0, 1) := dk42 (k := 6) bL_law_1598 rfl
theorem dL_law_1605 : decode cL_law 1605 = .ok (.iload_n 3, 1) := dk29 (k := 7) bL_law_1598 rfl
theorem dL_law_1606 : decode cL_law 1606 = .ok (.iconst 3, 1) := dk6 (k := 8) bL_law_1598 rfl
theorem dL_law_1607 : decode cL_law 1607 = .ok (.iadd, 1) := dk96 (k := 9) bL_law_1598 rfl
theorem dL_law_1608 : decode cL_law 1608 = .ok (.iaload, 1) := dk46 (k := 10) bL_law_1598 rfl
theorem dL_law_1609 : decode cL_law 1609 = .ok (.invokevirtual 238, 3) := dk182 (k := 11) bL_law_1598 rfl rfl
theorem dL_law_1612 : decode cL_law 1612 = .ok (.pop, 1) := dk87 (k := 14) bL_law_1598 rfl
theorem dL_law_1613 : decode cL_law 1613 = .ok (.aload_n 2, 1) := dk44 (k := 15) bL_law_1598 rfl
theorem dL_law_1614 : decode cL_law 1614 = .ok (.aload_n 0, 1) := dk42 (k := 16) bL_law_1598 rfl
theorem dL_law_1615 : decode cL_law 1615 = .ok (.iload_n 3, 1) := dk29 (k := 17) bL_law_1598 rfl
theorem dL_law_1616 : decode cL_law 1616 = .ok (.iconst 1, 1) := dk4 (k := 18) bL_law_1598 rfl
theorem dL_law_1617 : decode cL_law 1617 = .ok (.iadd, 1) := dk96 (k := 19) bL_law_1598 rfl
theorem dL_law_1618 : decode cL_law 1618 = .ok (.iaload, 1) := dk46 (k := 20) bL_law_1598 rfl
theorem dL_law_1619 : decode cL_law 1619 = .ok (.aload_n 0, 1) := dk42 (k := 21) bL_law_1598 rfl
theorem dL_law_1620 : decode cL_law 1620 = .ok (.iload_n 3, 1) := dk29 (k := 22) bL_law_1598 rfl
theorem dL_law_1621 : decode cL_law 1621 = .ok (.iconst 2, 1) := dk5 (k := 23) bL_law_1598 rfl
theorem bL_law_1622 : bL cL_law 1622 [96, 46, 42, 29, 6, 96, 46, 182, 0, 241, 87, 167, 1, 104, 43, 42, 29, 4, 96, 46, 42, 29, 5, 96] := bL_of (by decide +kernel)
theorem dL_law_1622 : decode cL_law 1622 = .ok (.iadd, 1) := dk96 (k := 0) bL_law_1622 rfl
theorem dL_law_1623 : decode cL_law 1623 = .ok (.iaload, 1) := dk46 (k := 1) bL_law_1622 rfl
theorem dL_law_1624 : decode cL_law 1624 = .ok (.aload_n 0, 1) := dk42 (k := 2) bL_law_1622 rfl
theorem dL_law_1625 : decode cL_law 1625 = .ok (.iload_n 3, 1) := dk29 (k := 3) bL_law_1622 rfl
theorem dL_law_1626 : decode cL_law 1626 = .ok (.iconst 3, 1) := dk6 (k := 4) bL_law_1622 rfl
theorem dL_law_1627 : decode cL_law 1627 = .ok (.iadd, 1) := dk96 (k := 5) bL_law_1622 rfl
theorem dL_law_1628 : decode cL_law 1628 = .ok (.iaload, 1) := dk46 (k := 6) bL_law_1622 rfl
theorem dL_law_1629 : decode cL_law 1629 = .ok (.invokevirtual 241, 3) := dk182 (k := 7) bL_law_1622 rfl rfl
theorem dL_law_1632 : decode cL_law 1632 = .ok (.pop, 1) := dk87 (k := 10) bL_law_1622 rfl
theorem dL_law_1633 : decode cL_law 1633 = .ok (.goto 360, 3) := dk167 (k := 11) bL_law_1622 rfl (by decide)
theorem dL_law_1636 : decode cL_law 1636 = .ok (.aload_n 1, 1) := dk43 (k := 14) bL_law_1622 rfl
theorem dL_law_1637 : decode cL_law 1637 = .ok (.aload_n 0, 1) := dk42 (k := 15) bL_law_1622 rfl
theorem dL_law_1638 : decode cL_law 1638 = .ok (.iload_n 3, 1) := dk29 (k := 16) bL_law_1622 rfl
theorem dL_law_1639 : decode cL_law 1639 = .ok (.iconst 1, 1) := dk4 (k := 17) bL_law_1622 rfl
theorem dL_law_1640 : decode cL_law 1640 = .ok (.iadd, 1) := dk96 (k := 18) bL_law_1622 rfl
theorem dL_law_1641 : decode cL_law 1641 = .ok (.iaload, 1) := dk46 (k := 19) bL_law_1622 rfl
theorem dL_law_1642 : decode cL_law 1642 = .ok (.aload_n 0, 1) := dk42 (k := 20) bL_law_1622 rfl
theorem dL_law_1643 : decode cL_law 1643 = .ok (.iload_n 3, 1) := dk29 (k := 21) bL_law_1622 rfl
theorem dL_law_1644 : decode cL_law 1644 = .ok (.iconst 2, 1) := dk5 (k := 22) bL_law_1622 rfl
theorem dL_law_1645 : decode cL_law 1645 = .ok (.iadd, 1) := dk96 (k := 23) bL_law_1622 rfl
theorem bL_law_1646 : bL cL_law 1646 [46, 42, 29, 6, 96, 46, 182, 0, 242, 87, 44, 42, 29, 4, 96, 46, 42, 29, 5, 96, 46, 42, 29, 6] := bL_of (by decide +kernel)
theorem dL_law_1646 : decode cL_law 1646 = .ok (.iaload, 1) := dk46 (k := 0) bL_law_1646 rfl
theorem dL_law_1647 : decode cL_law 1647 = .ok (.aload_n 0, 1) := dk42 (k := 1) bL_law_1646 rfl
theorem dL_law_1648 : decode cL_law 1648 = .ok (.iload_n 3, 1) := dk29 (k := 2) bL_law_1646 rfl
theorem dL_law_1649 : decode cL_law 1649 = .ok (.iconst 3, 1) := dk6 (k := 3) bL_law_1646 rfl
theorem dL_law_1650 : decode cL_law 1650 = .ok (.iadd, 1) := dk96 (k := 4) bL_law_1646 rfl
theorem dL_law_1651 : decode cL_law 1651 = .ok (.iaload, 1) := dk46 (k := 5) bL_law_1646 rfl
theorem dL_law_1652 : decode cL_law 1652 = .ok (.invokevirtual 242, 3) := dk182 (k := 6) bL_law_1646 rfl rfl
theorem dL_law_1655 : decode cL_law 1655 = .ok (.pop, 1) := dk87 (k := 9) bL_law_1646 rfl
theorem dL_law_1656 : decode cL_law 1656 = .ok (.aload_n 2, 1) := dk44 (k := 10) bL_law_1646 rfl
theorem dL_law_1657 : decode cL_law 1657 = .ok (.aload_n 0, 1) := dk42 (k := 11) bL_law_1646 rfl
theorem dL_law_1658 : decode cL_law 1658 = .ok (.iload_n 3, 1) := dk29 (k := 12) bL_law_1646 rfl
theorem dL_law_1659 : decode cL_law 1659 = .ok (.iconst 1, 1) := dk4 (k := 13) bL_law_1646 rfl
theorem dL_law_1660 : decode cL_law 1660 = .ok (.iadd, 1) := dk96 (k := 14) bL_law_1646 rfl
theorem dL_law_1661 : decode cL_law 1661 = .ok (.iaload, 1) := dk46 (k := 15) bL_law_1646 rfl
theorem dL_law_1662 : decode cL_law 1662 = .ok (.aload_n 0, 1) := dk42 (k := 16) bL_law_1646 rfl
theorem dL_law_1663 : decode cL_law 1663 = .ok (.iload_n 3, 1) := dk29 (k := 17) bL_law_1646 rfl
theorem dL_law_1664 : decode cL_law 1664 = .ok (.iconst 2, 1) := dk5 (k := 18) bL_law_1646 rfl
theorem dL_law_1665 : decode cL_law 1665 = .ok (.iadd, 1) := dk96 (k := 19) bL_law_1646 rfl
theorem dL_law_1666 : decode cL_law 1666 = .ok (.iaload, 1) := dk46 (k := 20) bL_law_1646 rfl
theorem dL_law_1667 : decode cL_law 1667 = .ok (.aload_n 0, 1) := dk42 (k := 21) bL_law_1646 rfl
theorem dL_law_1668 : decode cL_law 1668 = .ok (.iload_n 3, 1) := dk29 (k := 22) bL_law_1646 rfl
theorem dL_law_1669 : decode cL_law 1669 = .ok (.iconst 3, 1) := dk6 (k := 23) bL_law_1646 rfl
theorem bL_law_1670 : bL cL_law 1670 [96, 46, 182, 0, 245, 87, 167, 1, 61, 43, 42, 29, 4, 96, 46, 182, 0, 246, 87, 44, 42, 29, 4, 96] := bL_of (by decide +kernel)
theorem dL_law_1670 : decode cL_law 1670 = .ok (.iadd, 1) := dk96 (k := 0) bL_law_1670 rfl
theorem dL_law_1671 : decode cL_law 1671 = .ok (.iaload, 1) := dk46 (k := 1) bL_law_1670 rfl
theorem dL_law_1672 : decode cL_law 1672 = .ok (.invokevirtual 245, 3) := dk182 (k := 2) bL_law_1670 rfl rfl
theorem dL_law_1675 : decode cL_law 1675 = .ok (.pop, 1) := dk87 (k := 5) bL_law_1670 rfl
theorem dL_law_1676 : decode cL_law 1676 = .ok (.goto 317, 3) := dk167 (k := 6) bL_law_1670 rfl (by decide)
theorem dL_law_1679 : decode cL_law 1679 = .ok (.aload_n 1, 1) := dk43 (k := 9) bL_law_1670 rfl
theorem dL_law_1680 : decode cL_law 1680 = .ok (.aload_n 0, 1) := dk42 (k := 10) bL_law_1670 rfl
theorem dL_law_1681 : decode cL_law 1681 = .ok (.iload_n 3, 1) := dk29 (k := 11) bL_law_1670 rfl
theorem dL_law_1682 : decode cL_law 1682 = .ok (.iconst 1, 1) := dk4 (k := 12) bL_law_1670 rfl
theorem dL_law_1683 : decode cL_law 1683 = .ok (.iadd, 1) := dk96 (k := 13) bL_law_1670 rfl
theorem dL_law_1684 : decode cL_law 1684 = .ok (.iaload, 1) := dk46 (k := 14) bL_law_1670 rfl
theorem dL_law_1685 : decode cL_law 1685 = .ok (.invokevirtual 246, 3) := dk182 (k := 15) bL_law_1670 rfl rfl
theorem dL_law_1688 : decode cL_law 1688 = .ok (.pop, 1) := dk87 (k := 18) bL_law_1670 rfl
theorem dL_law_1689 : decode cL_law 1689 = .ok (.aload_n 2, 1) := dk44 (k := 19) bL_law_1670 rfl
theorem dL_law_1690 : decode cL_law 1690 = .ok (.aload_n 0, 1) := dk42 (k := 20) bL_law_1670 rfl
theorem dL_law_1691 : decode cL_law 1691 = .ok (.iload_n 3, 1) := dk29 (k := 21) bL_law_1670 rfl
theorem dL_law_1692 : decode cL_law 1692 = .ok (.iconst 1, 1) := dk4 (k := 22) bL_law_1670 rfl
theorem dL_law_1693 : decode cL_law 1693 = .ok (.iadd, 1) := dk96 (k := 23) bL_law_1670 rfl
theorem bL_law_1694 : bL cL_law 1694 [46, 182, 0, 249, 87, 167, 1, 38, 43, 42, 29, 4, 96, 46, 42, 29, 5, 96, 46, 42, 29, 6, 96, 46] := bL_of (by decide +kernel)
theorem dL_law_1694 : decode cL_law 1694 = .ok (.iaload, 1) := dk46 (k := 0) bL_law_1694 rfl
theorem dL_law_1695 : decode cL_law 1695 = .ok (.invokevirtual 249, 3) := dk182 (k := 1) bL_law_1694 rfl rfl
theorem dL_law_1698 : decode cL_law 1698 = .ok (.pop, 1) := dk87 (k := 4) bL_law_1694 rfl
theorem dL_law_1699 : decode cL_law 1699 = .ok (.goto 294, 3) := dk167 (k := 5) bL_law_1694 rfl (by decide)
theorem dL_law_1702 : decode cL_law 1702 = .ok (.aload_n 1, 1) := dk43 (k := 8) bL_law_1694 rfl
theorem dL_law_1703 : decode cL_law 1703 = .ok (.aload_n 0, 1) := dk42 (k := 9) bL_law_1694 rfl
theorem dL_law_1704 : decode cL_law 1704 = .ok (.iload_n 3, 1) := dk29 (k := 10) bL_law_1694 rfl
theorem dL_law_1705 : decode cL_law 1705 = .ok (.iconst 1, 1) := dk4 (k := 11) bL_law_1694 rfl
theorem dL_law_1706 : decode cL_law 1706 = .ok (.iadd, 1) := dk96 (k := 12) bL_law_1694 rfl
theorem dL_law_1707 : decode cL_law 1707 = .ok (.iaload, 1) := dk46 (k := 13) bL_law_1694 rfl
theorem dL_law_1708 : decode cL_law 1708 = .ok (.aload_n 0, 1) := dk42 (k := 14) bL_law_1694 rfl
theorem dL_law_1709 : decode cL_law 1709 = .ok (.iload_n 3, 1) := dk29 (k := 15) bL_law_1694 rfl
theorem dL_law_1710 : decode cL_law 1710 = .ok (.iconst 2, 1) := dk5 (k := 16) bL_law_1694 rfl
theorem dL_law_1711 : decode cL_law 1711 = .ok (.iadd, 1) := dk96 (k := 17) bL_law_1694 rfl
theorem dL_law_1712 : decode cL_law 1712 = .ok (.iaload, 1) := dk46 (k := 18) bL_law_1694 rfl
theorem dL_law_1713 : decode cL_law 1713 = .ok (.aload_n 0, 1) := dk42 (k := 19) bL_law_1694 rfl
theorem dL_law_1714 : decode cL_law 1714 = .ok (.iload_n 3, 1) := dk29 (k := 20) bL_law_1694 rfl
theorem dL_law_1715 : decode cL_law 1715 = .ok (.iconst 3, 1) := dk6 (k := 21) bL_law_1694 rfl
theorem dL_law_1716 : decode cL_law 1716 = .ok (.iadd, 1) := dk96 (k := 22) bL_law_1694 rfl
theorem dL_law_1717 : decode cL_law 1717 = .ok (.iaload, 1) := dk46 (k := 23) bL_law_1694 rfl
theorem bL_law_1718 : bL cL_law 1718 [182, 0, 250, 87, 44, 42, 29, 4, 96, 46, 42, 29, 5, 96, 46, 42, 29, 6, 96, 46, 182, 0, 253, 87] := bL_of (by decide +kernel)
theorem dL_law_1718 : decode cL_law 1718 = .ok (.invokevirtual 250, 3) := dk182 (k := 0) bL_law_1718 rfl rfl
theorem dL_law_1721 : decode cL_law 1721 = .ok (.pop, 1) := dk87 (k := 3) bL_law_1718 rfl
theorem dL_law_1722 : decode cL_law 1722 = .ok (.aload_n 2, 1) := dk44 (k := 4) bL_law_1718 rfl
theorem dL_law_1723 : decode cL_law 1723 = .ok (.aload_n 0, 1) := dk42 (k := 5) bL_law_1718 rfl
theorem dL_law_1724 : decode cL_law 1724 = .ok (.iload_n 3, 1) := dk29 (k := 6) bL_law_1718 rfl
theorem dL_law_1725 : decode cL_law 1725 = .ok (.iconst 1, 1) := dk4 (k := 7) bL_law_1718 rfl
theorem dL_law_1726 : decode cL_law 1726 = .ok (.iadd, 1) := dk96 (k := 8) bL_law_1718 rfl
theorem dL_law_1727 : decode cL_law 1727 = .ok (.iaload, 1) := dk46 (k := 9) bL_law_1718 rfl
theorem dL_law_1728 : decode cL_law 1728 = .ok (.aload_n 0, 1) := dk42 (k := 10) bL_law_1718 rfl
theorem dL_law_1729 : decode cL_law 1729 = .ok (.iload_n 3, 1) := dk29 (k := 11) bL_law_1718 rfl
theorem dL_law_1730 : decode cL_law 1730 = .ok (.iconst 2, 1) := dk5 (k := 12) bL_law_1718 rfl
theorem dL_law_1731 : decode cL_law 1731 = .ok (.iadd, 1) := dk96 (k := 13) bL_law_1718 rfl
theorem dL_law_1732 : decode cL_law 1732 = .ok (.iaload, 1) := dk46 (k := 14) bL_law_1718 rfl
theorem dL_law_1733 : decode cL_law 1733 = .ok (.aload_n 0, 1) := dk42 (k := 15) bL_law_1718 rfl
theorem dL_law_1734 : decode cL_law 1734 = .ok (.iload_n 3, 1) := dk29 (k := 16) bL_law_1718 rfl
theorem dL_law_1735 : decode cL_law 1735 = .ok (.iconst 3, 1) := dk6 (k := 17) bL_law_1718 rfl
theorem dL_law_1736 : decode cL_law 1736 = .ok (.iadd, 1) := dk96 (k := 18) bL_law_1718 rfl
theorem dL_law_1737 : decode cL_law 1737 = .ok (.iaload, 1) := dk46 (k := 19) bL_law_1718 rfl
theorem dL_law_1738 : decode cL_law 1738 = .ok (.invokevirtual 253, 3) := dk182 (k := 20) bL_law_1718 rfl rfl
theorem dL_law_1741 : decode cL_law 1741 = .ok (.pop, 1) := dk87 (k := 23) bL_law_1718 rfl
theorem bL_law_1742 : bL cL_law 1742 [167, 0, 251, 43, 42, 29, 4, 96, 46, 182, 0, 254, 87, 44, 42, 29, 4, 96, 46, 182, 1, 1, 87, 167, 0, 228] := bL_of (by decide +kernel)
theorem dL_law_1742 : decode cL_law 1742 = .ok (.goto 251, 3) := dk167 (k := 0) bL_law_1742 rfl (by decide)
theorem dL_law_1745 : decode cL_law 1745 = .ok (.aload_n 1, 1) := dk43 (k := 3) bL_law_1742 rfl
theorem dL_law_1746 : decode cL_law 1746 = .ok (.aload_n 0, 1) := dk42 (k := 4) bL_law_1742 rfl
theorem dL_law_1747 : decode cL_law 1747 = .ok (.iload_n 3, 1) := dk29 (k := 5) bL_law_1742 rfl
theorem dL_law_1748 : decode cL_law 1748 = .ok (.iconst 1, 1) := dk4 (k := 6) bL_law_1742 rfl
theorem dL_law_1749 : decode cL_law 1749 = .ok (.iadd, 1) := dk96 (k := 7) bL_law_1742 rfl
theorem dL_law_1750 : decode cL_law 1750 = .ok (.iaload, 1) := dk46 (k := 8) bL_law_1742 rfl
theorem dL_law_1751 : decode cL_law 1751 = .ok (.invokevirtual 254, 3) := dk182 (k := 9) bL_law_1742 rfl rfl
theorem dL_law_1754 : decode cL_law 1754 = .ok (.pop, 1) := dk87 (k := 12) bL_law_1742 rfl
theorem dL_law_1755 : decode cL_law 1755 = .ok (.aload_n 2, 1) := dk44 (k := 13) bL_law_1742 rfl
theorem dL_law_1756 : decode cL_law 1756 = .ok (.aload_n 0, 1) := dk42 (k := 14) bL_law_1742 rfl
theorem dL_law_1757 : decode cL_law 1757 = .ok (.iload_n 3, 1) := dk29 (k := 15) bL_law_1742 rfl
theorem dL_law_1758 : decode cL_law 1758 = .ok (.iconst 1, 1) := dk4 (k := 16) bL_law_1742 rfl
theorem dL_law_1759 : decode cL_law 1759 = .ok (.iadd, 1) := dk96 (k := 17) bL_law_1742 rfl
theorem dL_law_1760 : decode cL_law 1760 = .ok (.iaload, 1) := dk46 (k := 18) bL_law_1742 rfl
theorem dL_law_1761 : decode cL_law 1761 = .ok (.invokevirtual 257, 3) := dk182 (k := 19) bL_law_1742 rfl rfl
theorem dL_law_1764 : decode cL_law 1764 = .ok (.pop, 1) := dk87 (k := 22) bL_law_1742 rfl
theorem dL_law_1765 : decode cL_law 1765 = .ok (.goto 228, 3) := dk167 (k := 23) bL_law_1742 rfl (by decide)
theorem bL_law_1768 : bL cL_law 1768 [43, 42, 29, 4, 96, 46, 182, 1, 2, 87, 44, 42, 29, 4, 96, 46, 182, 1, 5, 87, 167, 0, 205, 43] := bL_of (by decide +kernel)
theorem dL_law_1768 : decode cL_law 1768 = .ok (.aload_n 1, 1) := dk43 (k := 0) bL_law_1768 rfl
theorem dL_law_1769 : decode cL_law 1769 = .ok (.aload_n 0, 1) := dk42 (k := 1) bL_law_1768 rfl
theorem dL_law_1770 : decode cL_law 1770 = .ok (.iload_n 3, 1) := dk29 (k := 2) bL_law_1768 rfl
theorem dL_law_1771 : decode cL_law 1771 = .ok (.iconst 1, 1) := dk4 (k := 3) bL_law_1768 rfl
theorem dL_law_1772 : decode cL_law 1772 = .ok (.iadd, 1) := dk96 (k := 4) bL_law_1768 rfl
theorem dL_law_1773 : decode cL_law 1773 = .ok (.iaload, 1) := dk46 (k := 5) bL_law_1768 rfl
theorem dL_law_1774 : decode cL_law 1774 = .ok (.invokevirtual 258, 3) := dk182 (k := 6) bL_law_1768 rfl rfl
theorem dL_law_1777 : decode cL_law 1777 = .ok (.pop, 1) := dk87 (k := 9) bL_law_1768 rfl
theorem dL_law_1778 : decode cL_law 1778 = .ok (.aload_n 2, 1) := dk44 (k := 10) bL_law_1768 rfl
theorem dL_law_1779 : decode cL_law 1779 = .ok (.aload_n 0, 1) := dk42 (k := 11) bL_law_1768 rfl
theorem dL_law_1780 : decode cL_law 1780 = .ok (.iload_n 3, 1) := dk29 (k := 12) bL_law_1768 rfl
theorem dL_law_1781 : decode cL_law 1781 = .ok (.iconst 1, 1) := dk4 (k := 13) bL_law_1768 rfl
theorem dL_law_1782 : decode cL_law 1782 = .ok (.iadd, 1) := dk96 (k := 14) bL_law_1768 rfl
theorem dL_law_1783 : decode cL_law 1783 = .ok (.iaload, 1) := dk46 (k := 15) bL_law_1768 rfl
theorem dL_law_1784 : decode cL_law 1784 = .ok (.invokevirtual 261, 3) := dk182 (k := 16) bL_law_1768 rfl rfl
theorem dL_law_1787 : decode cL_law 1787 = .ok (.pop, 1) := dk87 (k := 19) bL_law_1768 rfl
theorem dL_law_1788 : decode cL_law 1788 = .ok (.goto 205, 3) := dk167 (k := 20) bL_law_1768 rfl (by decide)
theorem dL_law_1791 : decode cL_law 1791 = .ok (.aload_n 1, 1) := dk43 (k := 23) bL_law_1768 rfl
theorem bL_law_1792 : bL cL_law 1792 [42, 29, 4, 96, 46, 182, 1, 6, 87, 44, 42, 29, 4, 96, 46, 182, 1, 9, 87, 167, 0, 182, 43, 42] := bL_of (by decide +kernel)
theorem dL_law_1792 : decode cL_law 1792 = .ok (.aload_n 0, 1) := dk42 (k := 0) bL_law_1792 rfl
theorem dL_law_1793 : decode cL_law 1793 = .ok (.iload_n 3, 1) := dk29 (k := 1) bL_law_1792 rfl
theorem dL_law_1794 : decode cL_law 1794 = .ok (.iconst 1, 1) := dk4 (k := 2) bL_law_1792 rfl
theorem dL_law_1795 : decode cL_law 1795 = .ok (.iadd, 1) := dk96 (k := 3) bL_law_1792 rfl
theorem dL_law_1796 : decode cL_law 1796 = .ok (.iaload, 1) := dk46 (k := 4) bL_law_1792 rfl
theorem dL_law_1797 : decode cL_law 1797 = .ok (.invokevirtual 262, 3) := dk182 (k := 5) bL_law_1792 rfl rfl
theorem dL_law_1800 : decode cL_law 1800 = .ok (.pop, 1) := dk87 (k := 8) bL_law_1792 rfl
theorem dL_law_1801 : decode cL_law 1801 = .ok (.aload_n 2, 1) := dk44 (k := 9) bL_law_1792 rfl
theorem dL_law_1802 : decode cL_law 1802 = .ok (.aload_n 0, 1) := dk42 (k := 10) bL_law_1792 rfl
theorem dL_law_1803 : decode cL_law 1803 = .ok (.iload_n 3, 1) := dk29 (k := 11) bL_law_1792 rfl
theorem dL_law_1804 : decode cL_law 1804 = .ok (.iconst 1, 1) := dk4 (k := 12) bL_law_1792 rfl
theorem dL_law_1805 : decode cL_law 1805 = .ok (.iadd, 1) := dk96 (k := 13) bL_law_1792 rfl
theorem dL_law_1806 : decode cL_law 1806 = .ok (.iaload, 1) := dk46 (k := 14) bL_law_1792 rfl
theorem dL_law_1807 : decode cL_law 1807 = .ok (.invokevirtual 265, 3) := dk182 (k := 15) bL_law_1792 rfl rfl
theorem dL_law_1810 : decode cL_law 1810 = .ok (.pop, 1) := dk87 (k := 18) bL_law_1792 rfl
theorem dL_law_1811 : decode cL_law 1811 = .ok (.goto 182, 3) := dk167 (k := 19) bL_law_1792 rfl (by decide)
theorem dL_law_1814 : decode cL_law 1814 = .ok (.aload_n 1, 1) := dk43 (k := 22) bL_law_1792 rfl
theorem dL_law_1815 : decode cL_law 1815 = .ok (.aload_n 0, 1) := dk42 (k := 23) bL_law_1792 rfl
theorem bL_law_1816 : bL cL_law 1816 [29, 4, 96, 46, 42, 29, 5, 96, 46, 42, 29, 6, 96, 46, 182, 1, 10, 87, 44, 42, 29, 4, 96, 46] := bL_of (by decide +kernel)
theorem dL_law_1816 : decode cL_law 1816 = .ok (.iload_n 3, 1) := dk29 (k := 0) bL_law_1816 rfl
theorem dL_law_1817 : decode cL_law 1817 = .ok (.iconst 1, 1) := dk4 (k := 1) bL_law_1816 rfl
theorem dL_law_1818 : decode cL_law 1818 = .ok (.iadd, 1) := dk96 (k := 2) bL_law_1816 rfl
theorem dL_law_1819 : decode cL_law 1819 = .ok (.iaload, 1) := dk46 (k := 3) bL_law_1816 rfl
theorem dL_law_1820 : decode cL_law 1820 = .ok (.aload_n 0, 1) := dk42 (k := 4) bL_law_1816 rfl
theorem dL_law_1821 : decode cL_law 1821 = .ok (.iload_n 3, 1) := dk29 (k := 5) bL_law_1816 rfl
theorem dL_law_1822 : decode cL_law 1822 = .ok (.iconst 2, 1) := dk5 (k := 6) bL_law_1816 rfl
theorem dL_law_1823 : decode cL_law 1823 = .ok (.iadd, 1) := dk96 (k := 7) bL_law_1816 rfl
theorem dL_law_1824 : decode cL_law 1824 = .ok (.iaload, 1) := dk46 (k := 8) bL_law_1816 rfl
theorem dL_law_1825 : decode cL_law 1825 = .ok (.aload_n 0, 1) := dk42 (k := 9) bL_law_1816 rfl
theorem dL_law_1826 : decode cL_law 1826 = .ok (.iload_n 3, 1) := dk29 (k := 10) bL_law_1816 rfl
theorem dL_law_1827 : decode cL_law 1827 = .ok (.iconst 3, 1) := dk6 (k := 11) bL_law_1816 rfl
theorem dL_law_1828 : decode cL_law 1828 = .ok (.iadd, 1) := dk96 (k := 12) bL_law_1816 rfl
theorem dL_law_1829 : decode cL_law 1829 = .ok (.iaload, 1) := dk46 (k := 13) bL_law_1816 rfl
theorem dL_law_1830 : decode cL_law 1830 = .ok (.invokevirtual 266, 3) := dk182 (k := 14) bL_law_1816 rfl rfl
theorem dL_law_1833 : decode cL_law 1833 = .ok (.pop, 1) := dk87 (k := 17) bL_law_1816 rfl
theorem dL_law_1834 : decode cL_law 1834 = .ok (.aload_n 2, 1) := dk44 (k := 18) bL_law_1816 rfl
theorem dL_law_1835 : decode cL_law 1835 = .ok (.aload_n 0, 1) := dk42 (k := 19) bL_law_1816 rfl
theorem dL_law_1836 : decode cL_law 1836 = .ok (.iload_n 3, 1) := dk29 (k := 20) bL_law_1816 rfl
theorem dL_law_1837 : decode cL_law 1837 = .ok (.iconst 1, 1) := dk4 (k := 21) bL_law_1816 rfl
theorem dL_law_1838 : decode cL_law 1838 = .ok (.iadd, 1) := dk96 (k := 22) bL_law_1816 rfl
theorem dL_law_1839 : decode cL_law 1839 = .ok (.iaload, 1) := dk46 (k := 23) bL_law_1816 rfl
theorem bL_law_1840 : bL cL_law 1840 [42, 29, 5, 96, 46, 42, 29, 6, 96, 46, 182, 1, 13, 87, 167, 0, 139, 43, 42, 29, 4, 96, 46, 42] := bL_of (by decide +kernel)
theorem dL_law_1840 : decode cL_law 1840 = .ok (.aload_n 0, 1) := dk42 (k := 0) bL_law_1840 rfl
theorem dL_law_1841 : decode cL_law 1841 = .ok (.iload_n 3, 1) := dk29 (k := 1) bL_law_1840 rfl
theorem dL_law_1842 : decode cL_law 1842 = .ok (.iconst 2, 1) := dk5 (k := 2) bL_law_1840 rfl
theorem dL_law_1843 : decode cL_law 1843 = .ok (.iadd, 1) := dk96 (k := 3) bL_law_1840 rfl
theorem dL_law_1844 : decode cL_law 1844 = .ok (.iaload, 1) := dk46 (k := 4) bL_law_1840 rfl
theorem dL_law_1845 : decode cL_law 1845 = .ok (.aload_n 0, 1) := dk42 (k := 5) bL_law_1840 rfl
theorem dL_law_1846 : decode cL_law 1846 = .ok (.iload_n 3, 1) := dk29 (k := 6) bL_law_1840 rfl
theorem dL_law_1847 : decode cL_law 1847 = .ok (.iconst 3, 1) := dk6 (k := 7) bL_law_1840 rfl
theorem dL_law_1848 : decode cL_law 1848 = .ok (.iadd, 1) := dk96 (k := 8) bL_law_1840 rfl
theorem dL_law_1849 : decode cL_law 1849 = .ok (.iaload, 1) := dk46 (k := 9) bL_law_1840 rfl
theorem dL_law_1850 : decode cL_law 1850 = .ok (.invokevirtual 269, 3) := dk182 (k := 10) bL_law_1840 rfl rfl
theorem dL_law_1853 : decode cL_law 1853 = .ok (.pop, 1) := dk87 (k := 13) bL_law_1840 rfl
theorem dL_law_1854 : decode cL_law 1854 = .ok (.goto 139, 3) := dk167 (k := 14) bL_law_1840 rfl (by decide)
theorem dL_law_1857 : decode cL_law 1857 = .ok (.aload_n 1, 1) := dk43 (k := 17) bL_law_1840 rfl
theorem dL_law_1858 : decode cL_law 1858 = .ok (.aload_n 0, 1) := dk42 (k := 18) bL_law_1840 rfl
theorem dL_law_1859 : decode cL_law 1859 = .ok (.iload_n 3, 1) := dk29 (k := 19) bL_law_1840 rfl
theorem dL_law_1860 : decode cL_law 1860 = .ok (.iconst 1, 1) := dk4 (k := 20) bL_law_1840 rfl
theorem dL_law_1861 : decode cL_law 1861 = .ok (.iadd, 1) := dk96 (k := 21) bL_law_1840 rfl
theorem dL_law_1862 : decode cL_law 1862 = .ok (.iaload, 1) := dk46 (k := 22) bL_law_1840 rfl
theorem dL_law_1863 : decode cL_law 1863 = .ok (.aload_n 0, 1) := dk42 (k := 23) bL_law_1840 rfl
theorem bL_law_1864 : bL cL_law 1864 [29, 5, 96, 46, 42, 29, 6, 96, 46, 133, 16, 32, 121, 42, 29, 7, 96, 46, 133, 20, 1, 14, 127, 129] := bL_of (by decide +kernel)
theorem dL_law_1864 : decode cL_law 1864 = .ok (.iload_n 3, 1) := dk29 (k := 0) bL_law_1864 rfl
theorem dL_law_1865 : decode cL_law 1865 = .ok (.iconst 2, 1) := dk5 (k := 1) bL_law_1864 rfl
theorem dL_law_1866 : decode cL_law 1866 = .ok (.iadd, 1) := dk96 (k := 2) bL_law_1864 rfl
theorem dL_law_1867 : decode cL_law 1867 = .ok (.iaload, 1) := dk46 (k := 3) bL_law_1864 rfl
theorem dL_law_1868 : decode cL_law 1868 = .ok (.aload_n 0, 1) := dk42 (k := 4) bL_law_1864 rfl
theorem dL_law_1869 : decode cL_law 1869 = .ok (.iload_n 3, 1) := dk29 (k := 5) bL_law_1864 rfl
theorem dL_law_1870 : decode cL_law 1870 = .ok (.iconst 3, 1) := dk6 (k := 6) bL_law_1864 rfl
theorem dL_law_1871 : decode cL_law 1871 = .ok (.iadd, 1) := dk96 (k := 7) bL_law_1864 rfl
theorem dL_law_1872 : decode cL_law 1872 = .ok (.iaload, 1) := dk46 (k := 8) bL_law_1864 rfl
theorem dL_law_1873 : decode cL_law 1873 = .ok (.i2l, 1) := dk133 (k := 9) bL_law_1864 rfl
theorem dL_law_1874 : decode cL_law 1874 = .ok (.bipush 32, 2) := dk16 (k := 10) bL_law_1864 rfl (by decide)
theorem dL_law_1876 : decode cL_law 1876 = .ok (.lshl, 1) := dk121 (k := 12) bL_law_1864 rfl
theorem dL_law_1877 : decode cL_law 1877 = .ok (.aload_n 0, 1) := dk42 (k := 13) bL_law_1864 rfl
theorem dL_law_1878 : decode cL_law 1878 = .ok (.iload_n 3, 1) := dk29 (k := 14) bL_law_1864 rfl
theorem dL_law_1879 : decode cL_law 1879 = .ok (.iconst 4, 1) := dk7 (k := 15) bL_law_1864 rfl
theorem dL_law_1880 : decode cL_law 1880 = .ok (.iadd, 1) := dk96 (k := 16) bL_law_1864 rfl
theorem dL_law_1881 : decode cL_law 1881 = .ok (.iaload, 1) := dk46 (k := 17) bL_law_1864 rfl
theorem dL_law_1882 : decode cL_law 1882 = .ok (.i2l, 1) := dk133 (k := 18) bL_law_1864 rfl
theorem dL_law_1883 : decode cL_law 1883 = .ok (.ldc2_w 270, 3) := dk20 (k := 19) bL_law_1864 rfl rfl
theorem dL_law_1886 : decode cL_law 1886 = .ok (.land, 1) := dk127 (k := 22) bL_law_1864 rfl
theorem dL_law_1887 : decode cL_law 1887 = .ok (.lor, 1) := dk129 (k := 23) bL_law_1864 rfl
theorem bL_law_1888 : bL cL_law 1888 [182, 1, 16, 87, 44, 42, 29, 4, 96, 46, 42, 29, 5, 96, 46, 42, 29, 6, 96, 46, 133, 16, 32, 121] := bL_of (by decide +kernel)
theorem dL_law_1888 : decode cL_law 1888 = .ok (.invokevirtual 272, 3) := dk182 (k := 0) bL_law_1888 rfl rfl
theorem dL_law_1891 : decode cL_law 1891 = .ok (.pop, 1) := dk87 (k := 3) bL_law_1888 rfl
theorem dL_law_1892 : decode cL_law 1892 = .ok (.aload_n 2, 1) := dk44 (k := 4) bL_law_1888 rfl
theorem dL_law_1893 : decode cL_law 1893 = .ok (.aload_n 0, 1) := dk42 (k := 5) bL_law_1888 rfl
theorem dL_law_1894 : decode cL_law 1894 = .ok (.iload_n 3, 1) := dk29 (k := 6) bL_law_1888 rfl
theorem dL_law_1895 : decode cL_law 1895 = .ok (.iconst 1, 1) := dk4 (k := 7) bL_law_1888 rfl
theorem dL_law_1896 : decode cL_law 1896 = .ok (.iadd, 1) := dk96 (k := 8) bL_law_1888 rfl
theorem dL_law_1897 : decode cL_law 1897 = .ok (.iaload, 1) := dk46 (k := 9) bL_law_1888 rfl
theorem dL_law_1898 : decode cL_law 1898 = .ok (.aload_n 0, 1) := dk42 (k := 10) bL_law_1888 rfl
theorem dL_law_1899 : decode cL_law 1899 = .ok (.iload_n 3, 1) := dk29 (k := 11) bL_law_1888 rfl
theorem dL_law_1900 : decode cL_law 1900 = .ok (.iconst 2, 1) := dk5 (k := 12) bL_law_1888 rfl
theorem dL_law_1901 : decode cL_law 1901 = .ok (.iadd, 1) := dk96 (k := 13) bL_law_1888 rfl
theorem dL_law_1902 : decode cL_law 1902 = .ok (.iaload, 1) := dk46 (k := 14) bL_law_1888 rfl
theorem dL_law_1903 : decode cL_law 1903 = .ok (.aload_n 0, 1) := dk42 (k := 15) bL_law_1888 rfl
theorem dL_law_1904 : decode cL_law 1904 = .ok (.iload_n 3, 1) := dk29 (k := 16) bL_law_1888 rfl
theorem dL_law_1905 : decode cL_law 1905 = .ok (.iconst 3, 1) := dk6 (k := 17) bL_law_1888 rfl
theorem dL_law_1906 : decode cL_law 1906 = .ok (.iadd, 1) := dk96 (k := 18) bL_law_1888 rfl
theorem dL_law_1907 : decode cL_law 1907 = .ok (.iaload, 1) := dk46 (k := 19) bL_law_1888 rfl
theorem dL_law_1908 : decode cL_law 1908 = .ok (.i2l, 1) := dk133 (k := 20) bL_law_1888 rfl
theorem dL_law_1909 : decode cL_law 1909 = .ok (.bipush 32, 2) := dk16 (k := 21) bL_law_1888 rfl (by decide)
theorem dL_law_1911 : decode cL_law 1911 = .ok (.lshl, 1) := dk121 (k := 23) bL_law_1888 rfl
theorem bL_law_1912 : bL cL_law 1912 [42, 29, 7, 96, 46, 133, 20, 1, 14, 127, 129, 182, 1, 20, 87, 167, 0, 66, 43, 42, 29, 4, 96, 46] := bL_of (by decide +kernel)
theorem dL_law_1912 : decode cL_law 1912 = .ok (.aload_n 0, 1) := dk42 (k := 0) bL_law_1912 rfl
theorem dL_law_1913 : decode cL_law 1913 = .ok (.iload_n 3, 1) := dk29 (k := 1) bL_law_1912 rfl
theorem dL_law_1914 : decode cL_law 1914 = .ok (.iconst 4, 1) := dk7 (k := 2) bL_law_1912 rfl
theorem dL_law_1915 : decode cL_law 1915 = .ok (.iadd, 1) := dk96 (k := 3) bL_law_1912 rfl
theorem dL_law_1916 : decode cL_law 1916 = .ok (.iaload, 1) := dk46 (k := 4) bL_law_1912 rfl
theorem dL_law_1917 : decode cL_law 1917 = .ok (.i2l, 1) := dk133 (k := 5) bL_law_1912 rfl
theorem dL_law_1918 : decode cL_law 1918 = .ok (.ldc2_w 270, 3) := dk20 (k := 6) bL_law_1912 rfl rfl
theorem dL_law_1921 : decode cL_law 1921 = .ok (.land, 1) := dk127 (k := 9) bL_law_1912 rfl
theorem dL_law_1922 : decode cL_law 1922 = .ok (.lor, 1) := dk129 (k := 10) bL_law_1912 rfl
theorem dL_law_1923 : decode cL_law 1923 = .ok (.invokevirtual 276, 3) := dk182 (k := 11) bL_law_1912 rfl rfl
theorem dL_law_1926 : decode cL_law 1926 = .ok (.pop, 1) := dk87 (k := 14) bL_law_1912 rfl
theorem dL_law_1927 : decode cL_law 1927 = .ok (.goto 66, 3) := dk167 (k := 15) bL_law_1912 rfl (by decide)
theorem dL_law_1930 : decode cL_law 1930 = .ok (.aload_n 1, 1) := dk43 (k := 18) bL_law_1912 rfl
theorem dL_law_1931 : decode cL_law 1931 = .ok (.aload_n 0, 1) := dk42 (k := 19) bL_law_1912 rfl
theorem dL_law_1932 : decode cL_law 1932 = .ok (.iload_n 3, 1) := dk29 (k := 20) bL_law_1912 rfl
theorem dL_law_1933 : decode cL_law 1933 = .ok (.iconst 1, 1) := dk4 (k := 21) bL_law_1912 rfl
theorem dL_law_1934 : decode cL_law 1934 = .ok (.iadd, 1) := dk96 (k := 22) bL_law_1912 rfl
theorem dL_law_1935 : decode cL_law 1935 = .ok (.iaload, 1) := dk46 (k := 23) bL_law_1912 rfl
theorem bL_law_1936 : bL cL_law 1936 [42, 29, 5, 96, 46, 42, 29, 6, 96, 46, 42, 29, 7, 96, 46, 42, 29, 8, 96, 46, 182, 1, 21, 44] := bL_of (by decide +kernel)
theorem dL_law_1936 : decode cL_law 1936 = .ok (.aload_n 0, 1) := dk42 (k := 0) bL_law_1936 rfl
theorem dL_law_1937 : decode cL_law 1937 = .ok (.iload_n 3, 1) := dk29 (k := 1) bL_law_1936 rfl
theorem dL_law_1938 : decode cL_law 1938 = .ok (.iconst 2, 1) := dk5 (k := 2) bL_law_1936 rfl
theorem dL_law_1939 : decode cL_law 1939 = .ok (.iadd, 1) := dk96 (k := 3) bL_law_1936 rfl
theorem dL_law_1940 : decode cL_law 1940 = .ok (.iaload, 1) := dk46 (k := 4) bL_law_1936 rfl
theorem dL_law_1941 : decode cL_law 1941 = .ok (.aload_n 0, 1) := dk42 (k := 5) bL_law_1936 rfl
theorem dL_law_1942 : decode cL_law 1942 = .ok (.iload_n 3, 1) := dk29 (k := 6) bL_law_1936 rfl
theorem dL_law_1943 : decode cL_law 1943 = .ok (.iconst 3, 1) := dk6 (k := 7) bL_law_1936 rfl
theorem dL_law_1944 : decode cL_law 1944 = .ok (.iadd, 1) := dk96 (k := 8) bL_law_1936 rfl
theorem dL_law_1945 : decode cL_law 1945 = .ok (.iaload, 1) := dk46 (k := 9) bL_law_1936 rfl
theorem dL_law_1946 : decode cL_law 1946 = .ok (.aload_n 0, 1) := dk42 (k := 10) bL_law_1936 rfl
theorem dL_law_1947 : decode cL_law 1947 = .ok (.iload_n 3, 1) := dk29 (k := 11) bL_law_1936 rfl
theorem dL_law_1948 : decode cL_law 1948 = .ok (.iconst 4, 1) := dk7 (k := 12) bL_law_1936 rfl
theorem dL_law_1949 : decode cL_law 1949 = .ok (.iadd, 1) := dk96 (k := 13) bL_law_1936 rfl
theorem dL_law_1950 : decode cL_law 1950 = .ok (.iaload, 1) := dk46 (k := 14) bL_law_1936 rfl
theorem dL_law_1951 : decode cL_law 1951 = .ok (.aload_n 0, 1) := dk42 (k := 15) bL_law_1936 rfl
theorem dL_law_1952 : decode cL_law 1952 = .ok (.iload_n 3, 1) := dk29 (k := 16) bL_law_1936 rfl
theorem dL_law_1953 : decode cL_law 1953 = .ok (.iconst 5, 1) := dk8 (k := 17) bL_law_1936 rfl
theorem dL_law_1954 : decode cL_law 1954 = .ok (.iadd, 1) := dk96 (k := 18) bL_law_1936 rfl
theorem dL_law_1955 : decode cL_law 1955 = .ok (.iaload, 1) := dk46 (k := 19) bL_law_1936 rfl
theorem dL_law_1956 : decode cL_law 1956 = .ok (.invokevirtual 277, 3) := dk182 (k := 20) bL_law_1936 rfl rfl
theorem dL_law_1959 : decode cL_law 1959 = .ok (.aload_n 2, 1) := dk44 (k := 23) bL_law_1936 rfl
theorem bL_law_1960 : bL cL_law 1960 [42, 29, 4, 96, 46, 42, 29, 5, 96, 46, 42, 29, 6, 96, 46, 42, 29, 7, 96, 46, 42, 29, 8, 96] := bL_of (by decide +kernel)
theorem dL_law_1960 : decode cL_law 1960 = .ok (.aload_n 0, 1) := dk42 (k := 0) bL_law_1960 rfl
theorem dL_law_1961 : decode cL_law 1961 = .ok (.iload_n 3, 1) := dk29 (k := 1) bL_law_1960 rfl
theorem dL_law_1962 : decode cL_law 1962 = .ok (.iconst 1, 1) := dk4 (k := 2) bL_law_1960 rfl
theorem dL_law_1963 : decode cL_law 1963 = .ok (.iadd, 1) := dk96 (k := 3) bL_law_1960 rfl
theorem dL_law_1964 : decode cL_law 1964 = .ok (.iaload, 1) := dk46 (k := 4) bL_law_1960 rfl
theorem dL_law_1965 : decode cL_law 1965 = .ok (.aload_n 0, 1) := dk42 (k := 5) bL_law_1960 rfl
theorem dL_law_1966 : decode cL_law 1966 = .ok (.iload_n 3, 1) := dk29 (k := 6) bL_law_1960 rfl
theorem dL_law_1967 : decode cL_law 1967 = .ok (.iconst 2, 1) := dk5 (k := 7) bL_law_1960 rfl
theorem dL_law_1968 : decode cL_law 1968 = .ok (.iadd, 1) := dk96 (k := 8) bL_law_1960 rfl
theorem dL_law_1969 : decode cL_law 1969 = .ok (.iaload, 1) := dk46 (k := 9) bL_law_1960 rfl
theorem dL_law_1970 : decode cL_law 1970 = .ok (.aload_n 0, 1) := dk42 (k := 10) bL_law_1960 rfl
theorem dL_law_1971 : decode cL_law 1971 = .ok (.iload_n 3, 1) := dk29 (k := 11) bL_law_1960 rfl
theorem dL_law_1972 : decode cL_law 1972 = .ok (.iconst 3, 1) := dk6 (k := 12) bL_law_1960 rfl
theorem dL_law_1973 : decode cL_law 1973 = .ok (.iadd, 1) := dk96 (k := 13) bL_law_1960 rfl
theorem dL_law_1974 : decode cL_law 1974 = .ok (.iaload, 1) := dk46 (k := 14) bL_law_1960 rfl
theorem dL_law_1975 : decode cL_law 1975 = .ok (.aload_n 0, 1) := dk42 (k := 15) bL_law_1960 rfl
theorem dL_law_1976 : decode cL_law 1976 = .ok (.iload_n 3, 1) := dk29 (k := 16) bL_law_1960 rfl
theorem dL_law_1977 : decode cL_law 1977 = .ok (.iconst 4, 1) := dk7 (k := 17) bL_law_1960 rfl
theorem dL_law_1978 : decode cL_law 1978 = .ok (.iadd, 1) := dk96 (k := 18) bL_law_1960 rfl
theorem dL_law_1979 : decode cL_law 1979 = .ok (.iaload, 1) := dk46 (k := 19) bL_law_1960 rfl
theorem dL_law_1980 : decode cL_law 1980 = .ok (.aload_n 0, 1) := dk42 (k := 20) bL_law_1960 rfl
theorem dL_law_1981 : decode cL_law 1981 = .ok (.iload_n 3, 1) := dk29 (k := 21) bL_law_1960 rfl
theorem dL_law_1982 : decode cL_law 1982 = .ok (.iconst 5, 1) := dk8 (k := 22) bL_law_1960 rfl
theorem dL_law_1983 : decode cL_law 1983 = .ok (.iadd, 1) := dk96 (k := 23) bL_law_1960 rfl
theorem bL_law_1984 : bL cL_law 1984 [46, 182, 1, 24, 159, 0, 5, 3, 172, 132, 3, 6, 167, 248, 70, 4, 172] := bL_of (by decide +kernel)
theorem dL_law_1984 : decode cL_law 1984 = .ok (.iaload, 1) := dk46 (k := 0) bL_law_1984 rfl
theorem dL_law_1985 : decode cL_law 1985 = .ok (.invokevirtual 280, 3) := dk182 (k := 1) bL_law_1984 rfl rfl
theorem dL_law_1988 : decode cL_law 1988 = .ok (.if_icmp .eq 5, 3) := dk159 (k := 4) bL_law_1984 rfl (by decide)
theorem dL_law_1991 : decode cL_law 1991 = .ok (.iconst 0, 1) := dk3 (k := 7) bL_law_1984 rfl
theorem dL_law_1992 : decode cL_law 1992 = .ok (.ireturn, 1) := dk172 (k := 8) bL_law_1984 rfl
theorem dL_law_1993 : decode cL_law 1993 = .ok (.iinc 3 6, 3) := dk132 (k := 9) bL_law_1984 rfl rfl (by decide)
theorem dL_law_1996 : decode cL_law 1996 = .ok (.goto (-1978), 3) := dk167 (k := 12) bL_law_1984 rfl (by decide)
theorem dL_law_1999 : decode cL_law 1999 = .ok (.iconst 1, 1) := dk4 (k := 15) bL_law_1984 rfl
theorem dL_law_2000 : decode cL_law 2000 = .ok (.ireturn, 1) := dk172 (k := 16) bL_law_1984 rfl

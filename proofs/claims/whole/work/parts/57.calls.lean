/-! the fresh heap -/
theorem n36 : ¬ 0 < h00 3 0 6 := by decide
theorem e35 (s : Nat) (hs : s < 4) : h00 35 0 s = -1 := by unfold h00; rw [if_pos (by omega)]
theorem e46 (s : Nat) (hs : s < 4) : h00 46 0 s = -1 := by unfold h00; rw [if_pos (by omega)]
theorem sc0 : sc h00 := ⟨rfl, by decide, by decide⟩
theorem J0 : cOk h00 := by
  have z18 : ∀ j, h00 18 0 j = 0 := fun _ => rfl
  have z17 : ∀ j, h00 17 0 j = 0 := fun _ => rfl
  have z33 : ∀ s j, h00 33 s j = 0 := fun _ _ => rfl
  have z34 : ∀ j, h00 34 0 j = 0 := fun _ => rfl
  refine ⟨by decide, ⟨by decide, fun f hf => ?_⟩, ⟨by decide, by decide, by decide, by decide, fun c hc => ?_⟩, fun c hc => ?_, fun q => absurd q n36, fun _ => ⟨rfl, rfl, rfl⟩, by decide, fun q => absurd q n36, by decide, fun s hs => ⟨?_, ?_, fun j hj => ?_⟩, ⟨by decide, by decide⟩, sc0⟩
  · simp only [z18]; decide
  · rw [z17]; decide
  · rw [z17]; decide
  · rw [e35 s hs]; decide
  · rw [z34]; decide
  · rw [z33]; decide
theorem R0 {g : fwH} (hg : g 36 0 = h00 36 0) : jF h00 g := by
  unfold jF
  rw [hg]
  exact ⟨rfl, rfl, rfl, rfl, rfl, rfl, rfl, rfl, rfl, fun j hj => rfl, fun f hf => absurd hf (by show ¬ (f : Int) < 0; omega), fun q => absurd q n36⟩
theorem K0 {g : fwH} (hg : g 36 0 = h00 36 0) : jA h00 g := by
  unfold jA
  rw [hg]
  refine ⟨fun i hi c hc => ?_, fun i hi => absurd hi (by show ¬ (i : Int) < 0; omega), fun c hc => absurd hc (by show ¬ (c : Int) < 0; omega)⟩
  have : (i : Int) ≤ 0 := hi
  have e : i = 0 := by omega
  subst e
  show 0 ≤ h00 36 0 (9 + c) ∧ h00 36 0 (9 + c) ≤ 99
  rw [show h00 36 0 (9 + c) = 0 from rfl]
  decide
theorem S0 {g : fwH} (h1 : g 46 0 = h00 46 0) (h2 : g 47 0 = h00 47 0) (h3 : g 48 0 = h00 48 0) : jS h00 g := by
  intro s hs
  rw [h1, h2, h3, e35 s hs, e46 s hs]
  exact ⟨rfl, rfl, fun j hj => rfl⟩
theorem q_empty {h : fwH} (hT : tOk h) (h0 : h 1 0 1 = 0) : qRun (cutH h 14 0) (cutH h 16 0) 900 = .inr (0, fun _ => 0) := by
  obtain ⟨k1, -, k3, -⟩ := cut_at hT
  have e : tkN h = 0 := by
    rcases Nat.eq_zero_or_pos (tkN h) with q | q
    · exact q
    · have := (k1 0 q).2.2.2
      omega
  rw [e] at k3
  exact qRun_stay (c := 0) rfl k3 900
theorem c_new_mount {d : Nat} {Q : Option fwV → fwH → Prop} (k : ∀ g, g 12 0 5 = 0 → Q (some (aI 0)) g) : fwCt mX11_mount (d + 8) [aR 0 0] h00 Q := by
  have q9 := q_empty (h := h00) ⟨by decide, by decide⟩ rfl
  refine c_X11_mount J0 (fun c hc => by rw [show h00 17 1 c = 0 from rfl]; decide) ⟨fun fk j i W H e => ?_, fun i W H e _ _ => ?_⟩
  · rw [q9] at e; cases e
  · rw [q9] at e
    cases e
    exact k _ rfl
set_option maxRecDepth 100000 in
theorem p_feed {n : Nat} {xs : Nat → Int32} {i : Nat} (hn : n ≤ 100000) (hi : i + 6 ≤ n) (tail : ∀ h, lWP n xs 1993 (lLs i) [] h) : lWP n xs 308 (lLs i) [] h00 := by
  refine l_aload dL_law_308 rfl ?_
  refine l_aload dL_law_309 rfl ?_
  refine l_iload dL_law_310 rfl ?_
  refine l_iconst dL_law_311 ?_
  refine l_iadd dL_law_312 ?_
  refine l_sld (i + 1) dL_law_313 (by omega) (by omega) hn ?_
  refine l_aload dL_law_314 rfl ?_
  refine l_iload dL_law_315 rfl ?_
  refine l_iconst dL_law_316 ?_
  refine l_iadd dL_law_317 ?_
  refine l_sld (i + 2) dL_law_318 (by omega) (by omega) hn ?_
  refine l_aload dL_law_319 rfl ?_
  refine l_iload dL_law_320 rfl ?_
  refine l_iconst dL_law_321 ?_
  refine l_iadd dL_law_322 ?_
  refine l_sld (i + 3) dL_law_323 (by omega) (by omega) hn ?_
  refine l_aload dL_law_324 rfl ?_
  refine l_iload dL_law_325 rfl ?_
  refine l_iconst dL_law_326 ?_
  refine l_iadd dL_law_327 ?_
  refine l_sld (i + 4) dL_law_328 (by omega) (by omega) hn ?_
  refine l_aload dL_law_329 rfl ?_
  refine l_iload dL_law_330 rfl ?_
  refine l_iconst dL_law_331 ?_
  refine l_iadd dL_law_332 ?_
  refine l_sld (i + 5) dL_law_333 (by omega) (by omega) hn ?_
  refine l_callV (k := 0) (i := 0) (d := 0 + 1) (S := []) [aI (sv xs (i + 1)), aI (sv xs (i + 2)), aI (sv xs (i + 3)), aI (sv xs (i + 4)), aI (sv xs (i + 5))] dL_law_334 ml_L_13 ok_X11_feed vi_X11_feed rfl rfl (by decide) rfl (Nat.le_of_ble_eq_true rfl) (by decide) ?_
  have n41 : h00 4 0 1 = 0 := rfl
  have n53 : h00 5 0 3 = 0 := rfl
  have n36 : ¬ 0 < h00 3 0 6 := n36
  have n11 : h00 1 0 1 = 0 := rfl
  refine c_X11_feed (d := 0) (h := h00) (sv xs (i + 1)) (sv xs (i + 2)) (sv xs (i + 3)) (sv xs (i + 4)) (sv xs (i + 5)) J0 ⟨fun q0 => ?_, fun q0 => ?_⟩
  · show lWP n xs 337 (lLs i) [aI (h00 1 0 1 + 20)] ((feH h00 20 (mFeed (h00 13 0) (h00 1 0 1).toNat (sv xs (i + 1)) (sv xs (i + 2)) (sv xs (i + 3)) (sv xs (i + 4)) (sv xs (i + 5)))))
    refine l_aload dL_law_337 rfl ?_
    refine l_aload dL_law_338 rfl ?_
    refine l_iload dL_law_339 rfl ?_
    refine l_iconst dL_law_340 ?_
    refine l_iadd dL_law_341 ?_
    refine l_sld (i + 1) dL_law_342 (by omega) (by omega) hn ?_
    refine l_aload dL_law_343 rfl ?_
    refine l_iload dL_law_344 rfl ?_
    refine l_iconst dL_law_345 ?_
    refine l_iadd dL_law_346 ?_
    refine l_sld (i + 2) dL_law_347 (by omega) (by omega) hn ?_
    refine l_aload dL_law_348 rfl ?_
    refine l_iload dL_law_349 rfl ?_
    refine l_iconst dL_law_350 ?_
    refine l_iadd dL_law_351 ?_
    refine l_sld (i + 3) dL_law_352 (by omega) (by omega) hn ?_
    refine l_aload dL_law_353 rfl ?_
    refine l_iload dL_law_354 rfl ?_
    refine l_iconst dL_law_355 ?_
    refine l_iadd dL_law_356 ?_
    refine l_sld (i + 4) dL_law_357 (by omega) (by omega) hn ?_
    refine l_aload dL_law_358 rfl ?_
    refine l_iload dL_law_359 rfl ?_
    refine l_iconst dL_law_360 ?_
    refine l_iadd dL_law_361 ?_
    refine l_sld (i + 5) dL_law_362 (by omega) (by omega) hn ?_
    refine l_callV (k := 12) (i := 0) (d := 0 + 0) (S := [aI (h00 1 0 1 + 20)]) [aI (sv xs (i + 1)), aI (sv xs (i + 2)), aI (sv xs (i + 3)), aI (sv xs (i + 4)), aI (sv xs (i + 5))] dL_law_363 ml_L_17 ok_X12_feed vi_X12_feed rfl rfl (by decide) rfl (Nat.le_of_ble_eq_true rfl) (by decide) ?_
    have n5 : ((feH h00 20 (mFeed (h00 13 0) (h00 1 0 1).toNat (sv xs (i + 1)) (sv xs (i + 2)) (sv xs (i + 3)) (sv xs (i + 4)) (sv xs (i + 5))))) 12 0 5 = 0 := rfl
    refine c_X12_feed (d := 0) (h := (feH h00 20 (mFeed (h00 13 0) (h00 1 0 1).toNat (sv xs (i + 1)) (sv xs (i + 2)) (sv xs (i + 3)) (sv xs (i + 4)) (sv xs (i + 5))))) (sv xs (i + 1)) (sv xs (i + 2)) (sv xs (i + 3)) (sv xs (i + 4)) (sv xs (i + 5)) (by rw [show ((feH h00 20 (mFeed (h00 13 0) (h00 1 0 1).toNat (sv xs (i + 1)) (sv xs (i + 2)) (sv xs (i + 3)) (sv xs (i + 4)) (sv xs (i + 5))))) 12 0 5 = 0 from rfl]; decide) ⟨fun z0 => ?_, fun z0 => ?_⟩
    · first | (exact l_eqs 1993 dL_law_366 (by decide) rfl (tail _)) | (exact l_eqs 1993 dL_law_366 (by decide) (by omega) (tail _)) | (exfalso; omega) | (exact absurd z0 n36) | (exact absurd rfl z1) | (exact absurd (e46 _ (by omega)) z1)
    · first | (exact l_eqs 1993 dL_law_366 (by decide) rfl (tail _)) | (exact l_eqs 1993 dL_law_366 (by decide) (by omega) (tail _)) | (exfalso; omega) | (exact absurd z0 n36) | (exact absurd rfl z1) | (exact absurd (e46 _ (by omega)) z1)
  · (exfalso; omega)
set_option maxRecDepth 100000 in
theorem p_end {n : Nat} {xs : Nat → Int32} {i : Nat} (hn : n ≤ 100000) (hi : i + 6 ≤ n) (tail : ∀ h, lWP n xs 1993 (lLs i) [] h) : lWP n xs 371 (lLs i) [] h00 := by
  refine l_aload dL_law_371 rfl ?_
  refine l_aload dL_law_372 rfl ?_
  refine l_iload dL_law_373 rfl ?_
  refine l_iconst dL_law_374 ?_
  refine l_iadd dL_law_375 ?_
  refine l_sld (i + 1) dL_law_376 (by omega) (by omega) hn ?_
  refine l_callV (k := 0) (i := 0) (d := 0 + 0) (S := []) [aI (sv xs (i + 1))] dL_law_377 ml_L_18 ok_X11_end vi_X11_end rfl rfl (by decide) rfl (Nat.le_of_ble_eq_true rfl) (by decide) ?_
  have n41 : h00 4 0 1 = 0 := rfl
  have n53 : h00 5 0 3 = 0 := rfl
  have n36 : ¬ 0 < h00 3 0 6 := n36
  have n11 : h00 1 0 1 = 0 := rfl
  refine c_X11_end (d := 0) (h := h00) (sv xs (i + 1)) J0 (sv_rng _ _) ⟨fun q0 => ?_, fun q0 => ?_⟩
  · show lWP n xs 380 (lLs i) [aI (sv xs (i + 1))] ((fwUp h00 1 0 1 (sv xs (i + 1))))
    refine l_aload dL_law_380 rfl ?_
    refine l_aload dL_law_381 rfl ?_
    refine l_iload dL_law_382 rfl ?_
    refine l_iconst dL_law_383 ?_
    refine l_iadd dL_law_384 ?_
    refine l_sld (i + 1) dL_law_385 (by omega) (by omega) hn ?_
    refine l_callV (k := 12) (i := 0) (d := 0 + 1) (S := [aI (sv xs (i + 1))]) [aI (sv xs (i + 1))] dL_law_386 ml_L_22 ok_X12_end vi_X12_end rfl rfl (by decide) rfl (Nat.le_of_ble_eq_true rfl) (by decide) ?_
    have n5 : ((fwUp h00 1 0 1 (sv xs (i + 1)))) 12 0 5 = 0 := rfl
    refine c_X12_end (d := 0) (h := (fwUp h00 1 0 1 (sv xs (i + 1)))) (sv xs (i + 1)) (sv_rng _ _) (by rw [show ((fwUp h00 1 0 1 (sv xs (i + 1)))) 12 0 5 = 0 from rfl]; decide) ⟨fun z0 => ?_, fun z0 => ?_⟩
    · first | (exact l_eqs 1993 dL_law_389 (by decide) rfl (tail _)) | (exact l_eqs 1993 dL_law_389 (by decide) (by omega) (tail _)) | (exfalso; omega) | (exact absurd z0 n36) | (exact absurd rfl z1) | (exact absurd (e46 _ (by omega)) z1)
    · first | (exact l_eqs 1993 dL_law_389 (by decide) rfl (tail _)) | (exact l_eqs 1993 dL_law_389 (by decide) (by omega) (tail _)) | (exfalso; omega) | (exact absurd z0 n36) | (exact absurd rfl z1) | (exact absurd (e46 _ (by omega)) z1)
  · show lWP n xs 380 (lLs i) [aI (-1)] h00
    refine l_aload dL_law_380 rfl ?_
    refine l_aload dL_law_381 rfl ?_
    refine l_iload dL_law_382 rfl ?_
    refine l_iconst dL_law_383 ?_
    refine l_iadd dL_law_384 ?_
    refine l_sld (i + 1) dL_law_385 (by omega) (by omega) hn ?_
    refine l_callV (k := 12) (i := 0) (d := 0 + 1) (S := [aI (-1)]) [aI (sv xs (i + 1))] dL_law_386 ml_L_22 ok_X12_end vi_X12_end rfl rfl (by decide) rfl (Nat.le_of_ble_eq_true rfl) (by decide) ?_
    have n5 : (h00) 12 0 5 = 0 := rfl
    refine c_X12_end (d := 0) (h := h00) (sv xs (i + 1)) (sv_rng _ _) (by rw [show (h00) 12 0 5 = 0 from rfl]; decide) ⟨fun z0 => ?_, fun z0 => ?_⟩
    · first | (exact l_eqs 1993 dL_law_389 (by decide) rfl (tail _)) | (exact l_eqs 1993 dL_law_389 (by decide) (by omega) (tail _)) | (exfalso; omega) | (exact absurd z0 n36) | (exact absurd rfl z1) | (exact absurd (e46 _ (by omega)) z1)
    · first | (exact l_eqs 1993 dL_law_389 (by decide) rfl (tail _)) | (exact l_eqs 1993 dL_law_389 (by decide) (by omega) (tail _)) | (exfalso; omega) | (exact absurd z0 n36) | (exact absurd rfl z1) | (exact absurd (e46 _ (by omega)) z1)
set_option maxRecDepth 100000 in
theorem p_mount {n : Nat} {xs : Nat → Int32} {i : Nat} (hn : n ≤ 100000) (hi : i + 6 ≤ n) (tail : ∀ h, lWP n xs 1993 (lLs i) [] h) : lWP n xs 394 (lLs i) [] h00 := by
  refine l_aload dL_law_394 rfl ?_
  refine l_callV (k := 0) (i := 0) (d := 0 + 8) (S := []) [] dL_law_395 ml_L_23 ok_X11_mount vi_X11_mount rfl rfl (by decide) rfl (Nat.le_of_ble_eq_true rfl) (by decide) ?_
  refine c_new_mount (d := 0) (fun g hg => ?_)
  show lWP n xs 398 (lLs i) [aI 0] g
  refine l_aload dL_law_398 rfl ?_
  refine l_callV (k := 12) (i := 0) (d := 0 + 2) (S := [aI 0]) [] dL_law_399 ml_L_27 ok_X12_mount vi_X12_mount rfl rfl (by decide) rfl (Nat.le_of_ble_eq_true rfl) (by decide) ?_
  refine c_no_mount (d := 0) hg (fun g2 => ?_)
  exact l_eqs 1993 dL_law_402 (by decide) rfl (tail _)
set_option maxRecDepth 100000 in
theorem p_fault {n : Nat} {xs : Nat → Int32} {i : Nat} (hn : n ≤ 100000) (hi : i + 6 ≤ n) (tail : ∀ h, lWP n xs 1993 (lLs i) [] h) : lWP n xs 407 (lLs i) [] h00 := by
  refine l_aload dL_law_407 rfl ?_
  refine l_aload dL_law_408 rfl ?_
  refine l_iload dL_law_409 rfl ?_
  refine l_iconst dL_law_410 ?_
  refine l_iadd dL_law_411 ?_
  refine l_sld (i + 1) dL_law_412 (by omega) (by omega) hn ?_
  refine l_callV (k := 0) (i := 0) (d := 0 + 0) (S := []) [aI (sv xs (i + 1))] dL_law_413 ml_L_28 ok_X11_fault vi_X11_fault rfl rfl (by decide) rfl (Nat.le_of_ble_eq_true rfl) (by decide) ?_
  refine c_X11_fault (d := 0) (h := h00) (sv xs (i + 1)) J0 (sv_rng _ _) (fun g hg => ?_)
  show lWP n xs 416 (lLs i) [aI (an_fault h00 (sv xs (i + 1)))] g
  refine l_aload dL_law_416 rfl ?_
  refine l_aload dL_law_417 rfl ?_
  refine l_iload dL_law_418 rfl ?_
  refine l_iconst dL_law_419 ?_
  refine l_iadd dL_law_420 ?_
  refine l_sld (i + 1) dL_law_421 (by omega) (by omega) hn ?_
  refine l_callV (k := 12) (i := 0) (d := 0 + 0) (S := [aI (an_fault h00 (sv xs (i + 1)))]) [aI (sv xs (i + 1))] dL_law_422 ml_L_31 ok_X12_fault vi_X12_fault rfl rfl (by decide) rfl (Nat.le_of_ble_eq_true rfl) (by decide) ?_
  refine c_X12_fault (d := 0) (h := g) (sv xs (i + 1)) (sv_rng _ _) ?_
  exact l_eqs 1993 dL_law_425 (by decide) (by unfold an_fault; rw [hg.2.1.2.1, hg.2.1.2.2]; rfl) (tail _)
set_option maxRecDepth 100000 in
theorem p_folk {n : Nat} {xs : Nat → Int32} {i : Nat} (hn : n ≤ 100000) (hi : i + 6 ≤ n) (tail : ∀ h, lWP n xs 1993 (lLs i) [] h) : lWP n xs 430 (lLs i) [] h00 := by
  refine l_aload dL_law_430 rfl ?_
  refine l_aload dL_law_431 rfl ?_
  refine l_iload dL_law_432 rfl ?_
  refine l_iconst dL_law_433 ?_
  refine l_iadd dL_law_434 ?_
  refine l_sld (i + 1) dL_law_435 (by omega) (by omega) hn ?_
  refine l_aload dL_law_436 rfl ?_
  refine l_iload dL_law_437 rfl ?_
  refine l_iconst dL_law_438 ?_
  refine l_iadd dL_law_439 ?_
  refine l_sld (i + 2) dL_law_440 (by omega) (by omega) hn ?_
  refine l_callV (k := 0) (i := 0) (d := 0 + 1) (S := []) [aI (sv xs (i + 1)), aI (sv xs (i + 2))] dL_law_441 ml_L_32 ok_X11_folk vi_X11_folk rfl rfl (by decide) rfl (Nat.le_of_ble_eq_true rfl) (by decide) ?_
  refine c_X11_folk (d := 0) (h := h00) (sv xs (i + 1)) (sv xs (i + 2)) J0 (sv_rng _ _) (sv_rng _ _) (fun g hg => ?_)
  show lWP n xs 444 (lLs i) [aI (an_folk h00 (sv xs (i + 1)) (sv xs (i + 2)))] g
  refine l_aload dL_law_444 rfl ?_
  refine l_aload dL_law_445 rfl ?_
  refine l_iload dL_law_446 rfl ?_
  refine l_iconst dL_law_447 ?_
  refine l_iadd dL_law_448 ?_
  refine l_sld (i + 1) dL_law_449 (by omega) (by omega) hn ?_
  refine l_aload dL_law_450 rfl ?_
  refine l_iload dL_law_451 rfl ?_
  refine l_iconst dL_law_452 ?_
  refine l_iadd dL_law_453 ?_
  refine l_sld (i + 2) dL_law_454 (by omega) (by omega) hn ?_
  refine l_callV (k := 12) (i := 0) (d := 0 + 2) (S := [aI (an_folk h00 (sv xs (i + 1)) (sv xs (i + 2)))]) [aI (sv xs (i + 1)), aI (sv xs (i + 2))] dL_law_455 ml_L_36 ok_X12_folk vi_X12_folk rfl rfl (by decide) rfl (Nat.le_of_ble_eq_true rfl) (by decide) ?_
  refine c_X12_folk (d := 0) (gg := h00) (h := g) (sv xs (i + 1)) (sv xs (i + 2)) J0 (R0 (hg.1 36 0 rfl (by decide))) (K0 (hg.1 36 0 rfl (by decide))) hg.2.2 (sv_rng _ _) (sv_rng _ _) (fun g2 hg2 => ?_)
  exact l_eqs 1993 dL_law_458 (by decide) rfl (tail _)
set_option maxRecDepth 100000 in
theorem p_height {n : Nat} {xs : Nat → Int32} {i : Nat} (hn : n ≤ 100000) (hi : i + 6 ≤ n) (tail : ∀ h, lWP n xs 1993 (lLs i) [] h) : lWP n xs 463 (lLs i) [] h00 := by
  refine l_aload dL_law_463 rfl ?_
  refine l_aload dL_law_464 rfl ?_
  refine l_iload dL_law_465 rfl ?_
  refine l_iconst dL_law_466 ?_
  refine l_iadd dL_law_467 ?_
  refine l_sld (i + 1) dL_law_468 (by omega) (by omega) hn ?_
  refine l_callV (k := 0) (i := 0) (d := 0 + 1) (S := []) [aI (sv xs (i + 1))] dL_law_469 ml_L_37 ok_X11_height vi_X11_height rfl rfl (by decide) rfl (Nat.le_of_ble_eq_true rfl) (by decide) ?_
  refine c_X11_height (d := 0) (h := h00) (sv xs (i + 1)) J0 (sv_rng _ _) (fun g hg => ?_)
  show lWP n xs 472 (lLs i) [aI (an_height h00 (sv xs (i + 1)))] g
  refine l_aload dL_law_472 rfl ?_
  refine l_aload dL_law_473 rfl ?_
  refine l_iload dL_law_474 rfl ?_
  refine l_iconst dL_law_475 ?_
  refine l_iadd dL_law_476 ?_
  refine l_sld (i + 1) dL_law_477 (by omega) (by omega) hn ?_
  refine l_callV (k := 12) (i := 0) (d := 0 + 6) (S := [aI (an_height h00 (sv xs (i + 1)))]) [aI (sv xs (i + 1))] dL_law_478 ml_L_40 ok_X12_height vi_X12_height rfl rfl (by decide) rfl (Nat.le_of_ble_eq_true rfl) (by decide) ?_
  refine c_X12_height (d := 0) (gg := h00) (h := g) (sv xs (i + 1)) J0 (R0 (hg.1 36 0 rfl (by decide))) (K0 (hg.1 36 0 rfl (by decide))) hg.2.2 (sv_rng _ _) (fun g2 hg2 => ?_)
  exact l_eqs 1993 dL_law_481 (by decide) rfl (tail _)
set_option maxRecDepth 100000 in
theorem p_shade {n : Nat} {xs : Nat → Int32} {i : Nat} (hn : n ≤ 100000) (hi : i + 6 ≤ n) (tail : ∀ h, lWP n xs 1993 (lLs i) [] h) : lWP n xs 486 (lLs i) [] h00 := by
  refine l_aload dL_law_486 rfl ?_
  refine l_aload dL_law_487 rfl ?_
  refine l_iload dL_law_488 rfl ?_
  refine l_iconst dL_law_489 ?_
  refine l_iadd dL_law_490 ?_
  refine l_sld (i + 1) dL_law_491 (by omega) (by omega) hn ?_
  refine l_aload dL_law_492 rfl ?_
  refine l_iload dL_law_493 rfl ?_
  refine l_iconst dL_law_494 ?_
  refine l_iadd dL_law_495 ?_
  refine l_sld (i + 2) dL_law_496 (by omega) (by omega) hn ?_
  refine l_callV (k := 0) (i := 0) (d := 0 + 2) (S := []) [aI (sv xs (i + 1)), aI (sv xs (i + 2))] dL_law_497 ml_L_41 ok_X11_shade vi_X11_shade rfl rfl (by decide) rfl (Nat.le_of_ble_eq_true rfl) (by decide) ?_
  refine c_X11_shade (d := 0) (h := h00) (sv xs (i + 1)) (sv xs (i + 2)) J0 (sv_rng _ _) (sv_rng _ _) (fun g hg => ?_)
  show lWP n xs 500 (lLs i) [aI (an_shade h00 (sv xs (i + 1)) (sv xs (i + 2)))] g
  refine l_aload dL_law_500 rfl ?_
  refine l_aload dL_law_501 rfl ?_
  refine l_iload dL_law_502 rfl ?_
  refine l_iconst dL_law_503 ?_
  refine l_iadd dL_law_504 ?_
  refine l_sld (i + 1) dL_law_505 (by omega) (by omega) hn ?_
  refine l_aload dL_law_506 rfl ?_
  refine l_iload dL_law_507 rfl ?_
  refine l_iconst dL_law_508 ?_
  refine l_iadd dL_law_509 ?_
  refine l_sld (i + 2) dL_law_510 (by omega) (by omega) hn ?_
  refine l_callV (k := 12) (i := 0) (d := 0 + 6) (S := [aI (an_shade h00 (sv xs (i + 1)) (sv xs (i + 2)))]) [aI (sv xs (i + 1)), aI (sv xs (i + 2))] dL_law_511 ml_L_44 ok_X12_shade vi_X12_shade rfl rfl (by decide) rfl (Nat.le_of_ble_eq_true rfl) (by decide) ?_
  refine c_X12_shade (d := 0) (gg := h00) (h := g) (sv xs (i + 1)) (sv xs (i + 2)) J0 (R0 (hg.1 36 0 rfl (by decide))) (K0 (hg.1 36 0 rfl (by decide))) hg.2.2 (sv_rng _ _) (sv_rng _ _) (fun g2 hg2 => ?_)
  exact l_eqs 1993 dL_law_514 (by decide) rfl (tail _)
set_option maxRecDepth 100000 in
theorem p_light {n : Nat} {xs : Nat → Int32} {i : Nat} (hn : n ≤ 100000) (hi : i + 6 ≤ n) (tail : ∀ h, lWP n xs 1993 (lLs i) [] h) : lWP n xs 519 (lLs i) [] h00 := by
  refine l_aload dL_law_519 rfl ?_
  refine l_aload dL_law_520 rfl ?_
  refine l_iload dL_law_521 rfl ?_
  refine l_iconst dL_law_522 ?_
  refine l_iadd dL_law_523 ?_
  refine l_sld (i + 1) dL_law_524 (by omega) (by omega) hn ?_
  refine l_callV (k := 0) (i := 0) (d := 0 + 2) (S := []) [aI (sv xs (i + 1))] dL_law_525 ml_L_45 ok_X11_light vi_X11_light rfl rfl (by decide) rfl (Nat.le_of_ble_eq_true rfl) (by decide) ?_
  refine c_X11_light (d := 0) (h := h00) (sv xs (i + 1)) J0 (sv_rng _ _) (fun g hg => ?_)
  show lWP n xs 528 (lLs i) [aI (an_light h00 (sv xs (i + 1)))] g
  refine l_aload dL_law_528 rfl ?_
  refine l_aload dL_law_529 rfl ?_
  refine l_iload dL_law_530 rfl ?_
  refine l_iconst dL_law_531 ?_
  refine l_iadd dL_law_532 ?_
  refine l_sld (i + 1) dL_law_533 (by omega) (by omega) hn ?_
  refine l_callV (k := 12) (i := 0) (d := 0 + 6) (S := [aI (an_light h00 (sv xs (i + 1)))]) [aI (sv xs (i + 1))] dL_law_534 ml_L_48 ok_X12_light vi_X12_light rfl rfl (by decide) rfl (Nat.le_of_ble_eq_true rfl) (by decide) ?_
  refine c_X12_light (d := 0) (gg := h00) (h := g) (sv xs (i + 1)) J0 (R0 (hg.1 36 0 rfl (by decide))) (K0 (hg.1 36 0 rfl (by decide))) hg.2.2 (sv_rng _ _) (fun g2 hg2 => ?_)
  exact l_eqs 1993 dL_law_537 (by decide) rfl (tail _)
set_option maxRecDepth 100000 in
theorem p_dark {n : Nat} {xs : Nat → Int32} {i : Nat} (hn : n ≤ 100000) (hi : i + 6 ≤ n) (tail : ∀ h, lWP n xs 1993 (lLs i) [] h) : lWP n xs 542 (lLs i) [] h00 := by
  refine l_aload dL_law_542 rfl ?_
  refine l_aload dL_law_543 rfl ?_
  refine l_iload dL_law_544 rfl ?_
  refine l_iconst dL_law_545 ?_
  refine l_iadd dL_law_546 ?_
  refine l_sld (i + 1) dL_law_547 (by omega) (by omega) hn ?_
  refine l_callV (k := 0) (i := 0) (d := 0 + 3) (S := []) [aI (sv xs (i + 1))] dL_law_548 ml_L_49 ok_X11_dark vi_X11_dark rfl rfl (by decide) rfl (Nat.le_of_ble_eq_true rfl) (by decide) ?_
  refine c_X11_dark (d := 0) (h := h00) (sv xs (i + 1)) J0 (sv_rng _ _) (fun g hg => ?_)
  show lWP n xs 551 (lLs i) [aI (an_dark h00 (sv xs (i + 1)))] g
  refine l_aload dL_law_551 rfl ?_
  refine l_aload dL_law_552 rfl ?_
  refine l_iload dL_law_553 rfl ?_
  refine l_iconst dL_law_554 ?_
  refine l_iadd dL_law_555 ?_
  refine l_sld (i + 1) dL_law_556 (by omega) (by omega) hn ?_
  refine l_callV (k := 12) (i := 0) (d := 0 + 6) (S := [aI (an_dark h00 (sv xs (i + 1)))]) [aI (sv xs (i + 1))] dL_law_557 ml_L_52 ok_X12_dark vi_X12_dark rfl rfl (by decide) rfl (Nat.le_of_ble_eq_true rfl) (by decide) ?_
  refine c_X12_dark (d := 0) (gg := h00) (h := g) (sv xs (i + 1)) J0 (R0 (hg.1 36 0 rfl (by decide))) (K0 (hg.1 36 0 rfl (by decide))) hg.2.2 (sv_rng _ _) (fun g2 hg2 => ?_)
  exact l_eqs 1993 dL_law_560 (by decide) rfl (tail _)
set_option maxRecDepth 100000 in
theorem p_snow {n : Nat} {xs : Nat → Int32} {i : Nat} (hn : n ≤ 100000) (hi : i + 6 ≤ n) (tail : ∀ h, lWP n xs 1993 (lLs i) [] h) : lWP n xs 565 (lLs i) [] h00 := by
  refine l_aload dL_law_565 rfl ?_
  refine l_callV (k := 0) (i := 0) (d := 0 + 2) (S := []) [] dL_law_566 ml_L_53 ok_X11_snow vi_X11_snow rfl rfl (by decide) rfl (Nat.le_of_ble_eq_true rfl) (by decide) ?_
  refine c_X11_snow (d := 0) (h := h00) J0 (fun g hg => ?_)
  show lWP n xs 569 (lLs i) [aI (an_snow h00)] g
  refine l_aload dL_law_569 rfl ?_
  refine l_callV (k := 12) (i := 0) (d := 0 + 6) (S := [aI (an_snow h00)]) [] dL_law_570 ml_L_56 ok_X12_snow vi_X12_snow rfl rfl (by decide) rfl (Nat.le_of_ble_eq_true rfl) (by decide) ?_
  refine c_X12_snow (d := 0) (gg := h00) (h := g) J0 (R0 (hg.1 36 0 rfl (by decide))) (K0 (hg.1 36 0 rfl (by decide))) hg.2.2 (fun g2 hg2 => ?_)
  exact l_eqs 1993 dL_law_573 (by decide) rfl (tail _)
set_option maxRecDepth 100000 in
theorem p_top {n : Nat} {xs : Nat → Int32} {i : Nat} (hn : n ≤ 100000) (hi : i + 6 ≤ n) (tail : ∀ h, lWP n xs 1993 (lLs i) [] h) : lWP n xs 578 (lLs i) [] h00 := by
  refine l_aload dL_law_578 rfl ?_
  refine l_callV (k := 0) (i := 0) (d := 0 + 2) (S := []) [] dL_law_579 ml_L_57 ok_X11_top vi_X11_top rfl rfl (by decide) rfl (Nat.le_of_ble_eq_true rfl) (by decide) ?_
  refine c_X11_top (d := 0) (h := h00) J0 (fun g hg => ?_)
  show lWP n xs 582 (lLs i) [aI (an_top h00)] g
  refine l_aload dL_law_582 rfl ?_
  refine l_callV (k := 12) (i := 0) (d := 0 + 6) (S := [aI (an_top h00)]) [] dL_law_583 ml_L_60 ok_X12_top vi_X12_top rfl rfl (by decide) rfl (Nat.le_of_ble_eq_true rfl) (by decide) ?_
  refine c_X12_top (d := 0) (gg := h00) (h := g) J0 (R0 (hg.1 36 0 rfl (by decide))) (K0 (hg.1 36 0 rfl (by decide))) hg.2.2 (fun g2 hg2 => ?_)
  exact l_eqs 1993 dL_law_586 (by decide) rfl (tail _)
set_option maxRecDepth 100000 in
theorem p_gain {n : Nat} {xs : Nat → Int32} {i : Nat} (hn : n ≤ 100000) (hi : i + 6 ≤ n) (tail : ∀ h, lWP n xs 1993 (lLs i) [] h) : lWP n xs 591 (lLs i) [] h00 := by
  refine l_aload dL_law_591 rfl ?_
  refine l_aload dL_law_592 rfl ?_
  refine l_iload dL_law_593 rfl ?_
  refine l_iconst dL_law_594 ?_
  refine l_iadd dL_law_595 ?_
  refine l_sld (i + 1) dL_law_596 (by omega) (by omega) hn ?_
  refine l_callV (k := 0) (i := 0) (d := 0 + 4) (S := []) [aI (sv xs (i + 1))] dL_law_597 ml_L_61 ok_X11_gain vi_X11_gain rfl rfl (by decide) rfl (Nat.le_of_ble_eq_true rfl) (by decide) ?_
  refine c_X11_gain (d := 0) (h := h00) (sv xs (i + 1)) J0 (sv_rng _ _) (fun g hg => ?_)
  show lWP n xs 600 (lLs i) [aI (an_gain h00 (sv xs (i + 1)))] g
  refine l_aload dL_law_600 rfl ?_
  refine l_aload dL_law_601 rfl ?_
  refine l_iload dL_law_602 rfl ?_
  refine l_iconst dL_law_603 ?_
  refine l_iadd dL_law_604 ?_
  refine l_sld (i + 1) dL_law_605 (by omega) (by omega) hn ?_
  refine l_callV (k := 12) (i := 0) (d := 0 + 6) (S := [aI (an_gain h00 (sv xs (i + 1)))]) [aI (sv xs (i + 1))] dL_law_606 ml_L_64 ok_X12_gain vi_X12_gain rfl rfl (by decide) rfl (Nat.le_of_ble_eq_true rfl) (by decide) ?_
  refine c_X12_gain (d := 0) (gg := h00) (h := g) (sv xs (i + 1)) J0 (R0 (hg.1 36 0 rfl (by decide))) (K0 (hg.1 36 0 rfl (by decide))) hg.2.2 (sv_rng _ _) (fun g2 hg2 => ?_)
  exact l_eqs 1993 dL_law_609 (by decide) rfl (tail _)
set_option maxRecDepth 100000 in
theorem p_hopes {n : Nat} {xs : Nat → Int32} {i : Nat} (hn : n ≤ 100000) (hi : i + 6 ≤ n) (tail : ∀ h, lWP n xs 1993 (lLs i) [] h) : lWP n xs 614 (lLs i) [] h00 := by
  refine l_aload dL_law_614 rfl ?_
  refine l_aload dL_law_615 rfl ?_
  refine l_iload dL_law_616 rfl ?_
  refine l_iconst dL_law_617 ?_
  refine l_iadd dL_law_618 ?_
  refine l_sld (i + 1) dL_law_619 (by omega) (by omega) hn ?_
  refine l_aload dL_law_620 rfl ?_
  refine l_iload dL_law_621 rfl ?_
  refine l_iconst dL_law_622 ?_
  refine l_iadd dL_law_623 ?_
  refine l_sld (i + 2) dL_law_624 (by omega) (by omega) hn ?_
  refine l_callV (k := 0) (i := 0) (d := 0 + 5) (S := []) [aI (sv xs (i + 1)), aI (sv xs (i + 2))] dL_law_625 ml_L_65 ok_X11_hopes vi_X11_hopes rfl rfl (by decide) rfl (Nat.le_of_ble_eq_true rfl) (by decide) ?_
  refine c_X11_hopes (d := 0) (h := h00) (sv xs (i + 1)) (sv xs (i + 2)) J0 (sv_rng _ _) (sv_rng _ _) (fun g hg => ?_)
  show lWP n xs 628 (lLs i) [aI (an_hopes h00 (sv xs (i + 1)) (sv xs (i + 2)))] g
  refine l_aload dL_law_628 rfl ?_
  refine l_aload dL_law_629 rfl ?_
  refine l_iload dL_law_630 rfl ?_
  refine l_iconst dL_law_631 ?_
  refine l_iadd dL_law_632 ?_
  refine l_sld (i + 1) dL_law_633 (by omega) (by omega) hn ?_
  refine l_aload dL_law_634 rfl ?_
  refine l_iload dL_law_635 rfl ?_
  refine l_iconst dL_law_636 ?_
  refine l_iadd dL_law_637 ?_
  refine l_sld (i + 2) dL_law_638 (by omega) (by omega) hn ?_
  refine l_callV (k := 12) (i := 0) (d := 0 + 7) (S := [aI (an_hopes h00 (sv xs (i + 1)) (sv xs (i + 2)))]) [aI (sv xs (i + 1)), aI (sv xs (i + 2))] dL_law_639 ml_L_68 ok_X12_hopes vi_X12_hopes rfl rfl (by decide) rfl (Nat.le_of_ble_eq_true rfl) (by decide) ?_
  refine c_X12_hopes (d := 0) (gg := h00) (h := g) (sv xs (i + 1)) (sv xs (i + 2)) J0 (R0 (hg.1 36 0 rfl (by decide))) (K0 (hg.1 36 0 rfl (by decide))) hg.2.2 (sv_rng _ _) (sv_rng _ _) (fun g2 hg2 => ?_)
  exact l_eqs 1993 dL_law_642 (by decide) rfl (tail _)
set_option maxRecDepth 100000 in
theorem p_wishes {n : Nat} {xs : Nat → Int32} {i : Nat} (hn : n ≤ 100000) (hi : i + 6 ≤ n) (tail : ∀ h, lWP n xs 1993 (lLs i) [] h) : lWP n xs 647 (lLs i) [] h00 := by
  refine l_aload dL_law_647 rfl ?_
  refine l_aload dL_law_648 rfl ?_
  refine l_iload dL_law_649 rfl ?_
  refine l_iconst dL_law_650 ?_
  refine l_iadd dL_law_651 ?_
  refine l_sld (i + 1) dL_law_652 (by omega) (by omega) hn ?_
  refine l_callV (k := 0) (i := 0) (d := 0 + 5) (S := []) [aI (sv xs (i + 1))] dL_law_653 ml_L_69 ok_X11_wishes vi_X11_wishes rfl rfl (by decide) rfl (Nat.le_of_ble_eq_true rfl) (by decide) ?_
  refine c_X11_wishes (d := 0) (h := h00) (sv xs (i + 1)) J0 (sv_rng _ _) (fun g hg => ?_)
  show lWP n xs 656 (lLs i) [aI (an_wishes h00 (sv xs (i + 1)))] g
  refine l_aload dL_law_656 rfl ?_
  refine l_aload dL_law_657 rfl ?_
  refine l_iload dL_law_658 rfl ?_
  refine l_iconst dL_law_659 ?_
  refine l_iadd dL_law_660 ?_
  refine l_sld (i + 1) dL_law_661 (by omega) (by omega) hn ?_
  refine l_callV (k := 12) (i := 0) (d := 0 + 7) (S := [aI (an_wishes h00 (sv xs (i + 1)))]) [aI (sv xs (i + 1))] dL_law_662 ml_L_72 ok_X12_wishes vi_X12_wishes rfl rfl (by decide) rfl (Nat.le_of_ble_eq_true rfl) (by decide) ?_
  refine c_X12_wishes (d := 0) (gg := h00) (h := g) (sv xs (i + 1)) J0 (R0 (hg.1 36 0 rfl (by decide))) (K0 (hg.1 36 0 rfl (by decide))) hg.2.2 (sv_rng _ _) (fun g2 hg2 => ?_)
  exact l_eqs 1993 dL_law_665 (by decide) rfl (tail _)
set_option maxRecDepth 100000 in
theorem p_gains {n : Nat} {xs : Nat → Int32} {i : Nat} (hn : n ≤ 100000) (hi : i + 6 ≤ n) (tail : ∀ h, lWP n xs 1993 (lLs i) [] h) : lWP n xs 670 (lLs i) [] h00 := by
  refine l_aload dL_law_670 rfl ?_
  refine l_callV (k := 0) (i := 0) (d := 0 + 4) (S := []) [] dL_law_671 ml_L_73 ok_X11_gains vi_X11_gains rfl rfl (by decide) rfl (Nat.le_of_ble_eq_true rfl) (by decide) ?_
  refine c_X11_gains (d := 0) (h := h00) J0 (fun g hg => ?_)
  show lWP n xs 674 (lLs i) [aI (an_gains h00)] g
  refine l_aload dL_law_674 rfl ?_
  refine l_callV (k := 12) (i := 0) (d := 0 + 6) (S := [aI (an_gains h00)]) [] dL_law_675 ml_L_76 ok_X12_gains vi_X12_gains rfl rfl (by decide) rfl (Nat.le_of_ble_eq_true rfl) (by decide) ?_
  refine c_X12_gains (d := 0) (gg := h00) (h := g) J0 (R0 (hg.1 36 0 rfl (by decide))) (K0 (hg.1 36 0 rfl (by decide))) hg.2.2 (fun g2 hg2 => ?_)
  exact l_eqs 1993 dL_law_678 (by decide) rfl (tail _)
set_option maxRecDepth 100000 in
theorem p_take {n : Nat} {xs : Nat → Int32} {i : Nat} (hn : n ≤ 100000) (hi : i + 6 ≤ n) (tail : ∀ h, lWP n xs 1993 (lLs i) [] h) : lWP n xs 683 (lLs i) [] h00 := by
  refine l_aload dL_law_683 rfl ?_
  refine l_callV (k := 0) (i := 0) (d := 0 + 3) (S := []) [] dL_law_684 ml_L_77 ok_X11_take vi_X11_take rfl rfl (by decide) rfl (Nat.le_of_ble_eq_true rfl) (by decide) ?_
  have n41 : h00 4 0 1 = 0 := rfl
  have n53 : h00 5 0 3 = 0 := rfl
  have n36 : ¬ 0 < h00 3 0 6 := n36
  have n11 : h00 1 0 1 = 0 := rfl
  refine c_X11_take (d := 0) (h := h00) J0 ⟨fun q0 => ?_, fun q0 q1 => ?_, fun q0 q1 => ?_⟩
  · show lWP n xs 687 (lLs i) [aI (-2)] h00
    refine l_aload dL_law_687 rfl ?_
    refine l_callV (k := 12) (i := 0) (d := 0 + 6) (S := [aI (-2)]) [] dL_law_688 ml_L_80 ok_X12_take vi_X12_take rfl rfl (by decide) rfl (Nat.le_of_ble_eq_true rfl) (by decide) ?_
    refine c_X12_take (d := 0) (gg := h00) (h := h00) J0 (R0 (rfl)) (K0 (rfl)) ⟨fun z0 => ?_, fun z0 z1 z2 => ?_, fun z0 z1 z2 => ?_⟩
    · first | (exact l_eqs 1993 dL_law_691 (by decide) rfl (tail _)) | (exact l_eqs 1993 dL_law_691 (by decide) (by omega) (tail _)) | (exfalso; omega) | (exact absurd z0 n36) | (exact absurd rfl z1) | (exact absurd (e46 _ (by omega)) z1)
    · first | (exact l_eqs 1993 dL_law_691 (by decide) rfl (tail _)) | (exact l_eqs 1993 dL_law_691 (by decide) (by omega) (tail _)) | (exfalso; omega) | (exact absurd z0 n36) | (exact absurd rfl z1) | (exact absurd (e46 _ (by omega)) z1)
    · first | (exact l_eqs 1993 dL_law_691 (by decide) rfl (tail _)) | (exact l_eqs 1993 dL_law_691 (by decide) (by omega) (tail _)) | (exfalso; omega) | (exact absurd z0 n36) | (exact absurd rfl z1) | (exact absurd (e46 _ (by omega)) z1)
  · exact absurd q0 n36
  · exact absurd q0 n36
set_option maxRecDepth 100000 in
theorem p_heap {n : Nat} {xs : Nat → Int32} {i : Nat} (hn : n ≤ 100000) (hi : i + 6 ≤ n) (tail : ∀ h, lWP n xs 1993 (lLs i) [] h) : lWP n xs 696 (lLs i) [] h00 := by
  refine l_aload dL_law_696 rfl ?_
  refine l_aload dL_law_697 rfl ?_
  refine l_iload dL_law_698 rfl ?_
  refine l_iconst dL_law_699 ?_
  refine l_iadd dL_law_700 ?_
  refine l_sld (i + 1) dL_law_701 (by omega) (by omega) hn ?_
  refine l_callV (k := 0) (i := 0) (d := 0 + 4) (S := []) [aI (sv xs (i + 1))] dL_law_702 ml_L_81 ok_X11_heap vi_X11_heap rfl rfl (by decide) rfl (Nat.le_of_ble_eq_true rfl) (by decide) ?_
  have n41 : h00 4 0 1 = 0 := rfl
  have n53 : h00 5 0 3 = 0 := rfl
  have n36 : ¬ 0 < h00 3 0 6 := n36
  have n11 : h00 1 0 1 = 0 := rfl
  refine c_X11_heap (d := 0) (h := h00) (sv xs (i + 1)) J0 (sv_rng _ _) ⟨fun q0 => ?_, fun q0 q1 => ?_, fun q0 q1 => ?_⟩
  · show lWP n xs 705 (lLs i) [aI (-2)] h00
    refine l_aload dL_law_705 rfl ?_
    refine l_aload dL_law_706 rfl ?_
    refine l_iload dL_law_707 rfl ?_
    refine l_iconst dL_law_708 ?_
    refine l_iadd dL_law_709 ?_
    refine l_sld (i + 1) dL_law_710 (by omega) (by omega) hn ?_
    refine l_callV (k := 12) (i := 0) (d := 0 + 6) (S := [aI (-2)]) [aI (sv xs (i + 1))] dL_law_711 ml_L_84 ok_X12_heap vi_X12_heap rfl rfl (by decide) rfl (Nat.le_of_ble_eq_true rfl) (by decide) ?_
    refine c_X12_heap (d := 0) (gg := h00) (h := h00) (sv xs (i + 1)) J0 (R0 (rfl)) (K0 (rfl)) (sv_rng _ _) ⟨fun z0 => ?_, fun z0 z1 z2 => ?_, fun z0 z1 z2 => ?_⟩
    · first | (exact l_eqs 1993 dL_law_714 (by decide) rfl (tail _)) | (exact l_eqs 1993 dL_law_714 (by decide) (by omega) (tail _)) | (exfalso; omega) | (exact absurd z0 n36) | (exact absurd rfl z1) | (exact absurd (e46 _ (by omega)) z1)
    · first | (exact l_eqs 1993 dL_law_714 (by decide) rfl (tail _)) | (exact l_eqs 1993 dL_law_714 (by decide) (by omega) (tail _)) | (exfalso; omega) | (exact absurd z0 n36) | (exact absurd rfl z1) | (exact absurd (e46 _ (by omega)) z1)
    · first | (exact l_eqs 1993 dL_law_714 (by decide) rfl (tail _)) | (exact l_eqs 1993 dL_law_714 (by decide) (by omega) (tail _)) | (exfalso; omega) | (exact absurd z0 n36) | (exact absurd rfl z1) | (exact absurd (e46 _ (by omega)) z1)
  · (exfalso; omega)
  · (exfalso; omega)
set_option maxRecDepth 100000 in
theorem p_slides {n : Nat} {xs : Nat → Int32} {i : Nat} (hn : n ≤ 100000) (hi : i + 6 ≤ n) (tail : ∀ h, lWP n xs 1993 (lLs i) [] h) : lWP n xs 719 (lLs i) [] h00 := by
  refine l_aload dL_law_719 rfl ?_
  refine l_aload dL_law_720 rfl ?_
  refine l_iload dL_law_721 rfl ?_
  refine l_iconst dL_law_722 ?_
  refine l_iadd dL_law_723 ?_
  refine l_sld (i + 1) dL_law_724 (by omega) (by omega) hn ?_
  refine l_callV (k := 0) (i := 0) (d := 0 + 4) (S := []) [aI (sv xs (i + 1))] dL_law_725 ml_L_85 ok_X11_slides vi_X11_slides rfl rfl (by decide) rfl (Nat.le_of_ble_eq_true rfl) (by decide) ?_
  refine c_X11_slides (d := 0) (h := h00) (sv xs (i + 1)) J0 (sv_rng _ _) (fun g hg => ?_)
  show lWP n xs 728 (lLs i) [aI (an_slides h00 (sv xs (i + 1)))] g
  refine l_aload dL_law_728 rfl ?_
  refine l_aload dL_law_729 rfl ?_
  refine l_iload dL_law_730 rfl ?_
  refine l_iconst dL_law_731 ?_
  refine l_iadd dL_law_732 ?_
  refine l_sld (i + 1) dL_law_733 (by omega) (by omega) hn ?_
  refine l_callV (k := 12) (i := 0) (d := 0 + 6) (S := [aI (an_slides h00 (sv xs (i + 1)))]) [aI (sv xs (i + 1))] dL_law_734 ml_L_88 ok_X12_slides vi_X12_slides rfl rfl (by decide) rfl (Nat.le_of_ble_eq_true rfl) (by decide) ?_
  refine c_X12_slides (d := 0) (gg := h00) (h := g) (sv xs (i + 1)) J0 (R0 (hg.1 36 0 rfl (by decide))) (K0 (hg.1 36 0 rfl (by decide))) hg.2.2 (sv_rng _ _) (fun g2 hg2 => ?_)
  exact l_eqs 1993 dL_law_737 (by decide) rfl (tail _)
set_option maxRecDepth 100000 in
theorem p_undo {n : Nat} {xs : Nat → Int32} {i : Nat} (hn : n ≤ 100000) (hi : i + 6 ≤ n) (tail : ∀ h, lWP n xs 1993 (lLs i) [] h) : lWP n xs 742 (lLs i) [] h00 := by
  refine l_aload dL_law_742 rfl ?_
  refine l_callV (k := 0) (i := 0) (d := 0 + 3) (S := []) [] dL_law_743 ml_L_89 ok_X11_undo vi_X11_undo rfl rfl (by decide) rfl (Nat.le_of_ble_eq_true rfl) (by decide) ?_
  have n41 : h00 4 0 1 = 0 := rfl
  have n53 : h00 5 0 3 = 0 := rfl
  have n36 : ¬ 0 < h00 3 0 6 := n36
  have n11 : h00 1 0 1 = 0 := rfl
  refine c_X11_undo (d := 0) (h := h00) J0 (fun q => absurd q (by decide)) ⟨fun q0 => ?_, fun q0 q1 => ?_, fun q0 q1 => ?_⟩
  · show lWP n xs 746 (lLs i) [aI (-2)] h00
    refine l_aload dL_law_746 rfl ?_
    refine l_callV (k := 12) (i := 0) (d := 0 + 1) (S := [aI (-2)]) [] dL_law_747 ml_L_92 ok_X12_undo vi_X12_undo rfl rfl (by decide) rfl (Nat.le_of_ble_eq_true rfl) (by decide) ?_
    refine c_X12_undo (d := 0) (gg := h00) (h := h00) J0 (R0 (rfl)) (K0 (rfl)) ⟨fun z0 => ?_, fun z0 z1 => ?_, fun z0 z1 => ?_⟩
    · first | (exact l_eqs 1993 dL_law_750 (by decide) rfl (tail _)) | (exact l_eqs 1993 dL_law_750 (by decide) (by omega) (tail _)) | (exfalso; omega) | (exact absurd z0 n36) | (exact absurd rfl z1) | (exact absurd (e46 _ (by omega)) z1)
    · first | (exact l_eqs 1993 dL_law_750 (by decide) rfl (tail _)) | (exact l_eqs 1993 dL_law_750 (by decide) (by omega) (tail _)) | (exfalso; omega) | (exact absurd z0 n36) | (exact absurd rfl z1) | (exact absurd (e46 _ (by omega)) z1)
    · first | (exact l_eqs 1993 dL_law_750 (by decide) rfl (tail _)) | (exact l_eqs 1993 dL_law_750 (by decide) (by omega) (tail _)) | (exfalso; omega) | (exact absurd z0 n36) | (exact absurd rfl z1) | (exact absurd (e46 _ (by omega)) z1)
  · exact absurd q0 n36
  · exact absurd q0 n36
set_option maxRecDepth 100000 in
theorem p_anew {n : Nat} {xs : Nat → Int32} {i : Nat} (hn : n ≤ 100000) (hi : i + 6 ≤ n) (tail : ∀ h, lWP n xs 1993 (lLs i) [] h) : lWP n xs 755 (lLs i) [] h00 := by
  refine l_aload dL_law_755 rfl ?_
  refine l_callV (k := 0) (i := 0) (d := 0 + 3) (S := []) [] dL_law_756 ml_L_93 ok_X11_anew vi_X11_anew rfl rfl (by decide) rfl (Nat.le_of_ble_eq_true rfl) (by decide) ?_
  have n41 : h00 4 0 1 = 0 := rfl
  have n53 : h00 5 0 3 = 0 := rfl
  have n36 : ¬ 0 < h00 3 0 6 := n36
  have n11 : h00 1 0 1 = 0 := rfl
  refine c_X11_anew (d := 0) (h := h00) J0 (fun i hi => absurd hi (Nat.not_lt_zero _)) ⟨fun q0 => ?_, fun q0 => ?_⟩
  · show lWP n xs 759 (lLs i) [aI (-2)] h00
    refine l_aload dL_law_759 rfl ?_
    refine l_callV (k := 12) (i := 0) (d := 0 + 1) (S := [aI (-2)]) [] dL_law_760 ml_L_96 ok_X12_anew vi_X12_anew rfl rfl (by decide) rfl (Nat.le_of_ble_eq_true rfl) (by decide) ?_
    refine c_X12_anew (d := 0) (gg := h00) (h := h00) J0 (R0 (rfl)) (K0 (rfl)) ⟨fun z0 => ?_, fun z0 => ?_⟩
    · first | (exact l_eqs 1993 dL_law_763 (by decide) rfl (tail _)) | (exact l_eqs 1993 dL_law_763 (by decide) (by omega) (tail _)) | (exfalso; omega) | (exact absurd z0 n36) | (exact absurd rfl z1) | (exact absurd (e46 _ (by omega)) z1)
    · first | (exact l_eqs 1993 dL_law_763 (by decide) rfl (tail _)) | (exact l_eqs 1993 dL_law_763 (by decide) (by omega) (tail _)) | (exfalso; omega) | (exact absurd z0 n36) | (exact absurd rfl z1) | (exact absurd (e46 _ (by omega)) z1)
  · exact absurd q0 n36
set_option maxRecDepth 100000 in
theorem p_willing {n : Nat} {xs : Nat → Int32} {i : Nat} (hn : n ≤ 100000) (hi : i + 6 ≤ n) (tail : ∀ h, lWP n xs 1993 (lLs i) [] h) : lWP n xs 768 (lLs i) [] h00 := by
  refine l_aload dL_law_768 rfl ?_
  refine l_callV (k := 0) (i := 0) (d := 0 + 4) (S := []) [] dL_law_769 ml_L_97 ok_X11_willing vi_X11_willing rfl rfl (by decide) rfl (Nat.le_of_ble_eq_true rfl) (by decide) ?_
  refine c_X11_willing (d := 0) (h := h00) J0 (fun g hg => ?_)
  show lWP n xs 772 (lLs i) [aI (an_willing h00)] g
  refine l_aload dL_law_772 rfl ?_
  refine l_callV (k := 12) (i := 0) (d := 0 + 6) (S := [aI (an_willing h00)]) [] dL_law_773 ml_L_100 ok_X12_willing vi_X12_willing rfl rfl (by decide) rfl (Nat.le_of_ble_eq_true rfl) (by decide) ?_
  refine c_X12_willing (d := 0) (gg := h00) (h := g) J0 (R0 (hg.1 36 0 rfl (by decide))) (K0 (hg.1 36 0 rfl (by decide))) hg.2.2 (fun g2 hg2 => ?_)
  exact l_eqs 1993 dL_law_776 (by decide) rfl (tail _)
set_option maxRecDepth 100000 in
theorem p_signers {n : Nat} {xs : Nat → Int32} {i : Nat} (hn : n ≤ 100000) (hi : i + 6 ≤ n) (tail : ∀ h, lWP n xs 1993 (lLs i) [] h) : lWP n xs 781 (lLs i) [] h00 := by
  refine l_aload dL_law_781 rfl ?_
  refine l_aload dL_law_782 rfl ?_
  refine l_iload dL_law_783 rfl ?_
  refine l_iconst dL_law_784 ?_
  refine l_iadd dL_law_785 ?_
  refine l_sld (i + 1) dL_law_786 (by omega) (by omega) hn ?_
  refine l_callV (k := 0) (i := 0) (d := 0 + 5) (S := []) [aI (sv xs (i + 1))] dL_law_787 ml_L_101 ok_X11_signers vi_X11_signers rfl rfl (by decide) rfl (Nat.le_of_ble_eq_true rfl) (by decide) ?_
  refine c_X11_signers (d := 0) (h := h00) (sv xs (i + 1)) J0 (sv_rng _ _) (fun g hg => ?_)
  show lWP n xs 790 (lLs i) [aI (an_signers h00 (sv xs (i + 1)))] g
  refine l_aload dL_law_790 rfl ?_
  refine l_aload dL_law_791 rfl ?_
  refine l_iload dL_law_792 rfl ?_
  refine l_iconst dL_law_793 ?_
  refine l_iadd dL_law_794 ?_
  refine l_sld (i + 1) dL_law_795 (by omega) (by omega) hn ?_
  refine l_callV (k := 12) (i := 0) (d := 0 + 6) (S := [aI (an_signers h00 (sv xs (i + 1)))]) [aI (sv xs (i + 1))] dL_law_796 ml_L_104 ok_X12_signers vi_X12_signers rfl rfl (by decide) rfl (Nat.le_of_ble_eq_true rfl) (by decide) ?_
  refine c_X12_signers (d := 0) (gg := h00) (h := g) (sv xs (i + 1)) J0 (R0 (hg.1 36 0 rfl (by decide))) (K0 (hg.1 36 0 rfl (by decide))) hg.2.2 (sv_rng _ _) (fun g2 hg2 => ?_)
  exact l_eqs 1993 dL_law_799 (by decide) rfl (tail _)
set_option maxRecDepth 100000 in
theorem p_names {n : Nat} {xs : Nat → Int32} {i : Nat} (hn : n ≤ 100000) (hi : i + 6 ≤ n) (tail : ∀ h, lWP n xs 1993 (lLs i) [] h) : lWP n xs 804 (lLs i) [] h00 := by
  refine l_aload dL_law_804 rfl ?_
  refine l_aload dL_law_805 rfl ?_
  refine l_iload dL_law_806 rfl ?_
  refine l_iconst dL_law_807 ?_
  refine l_iadd dL_law_808 ?_
  refine l_sld (i + 1) dL_law_809 (by omega) (by omega) hn ?_
  refine l_callV (k := 0) (i := 0) (d := 0 + 5) (S := []) [aI (sv xs (i + 1))] dL_law_810 ml_L_105 ok_X11_names vi_X11_names rfl rfl (by decide) rfl (Nat.le_of_ble_eq_true rfl) (by decide) ?_
  refine c_X11_names (d := 0) (h := h00) (sv xs (i + 1)) J0 (sv_rng _ _) (fun g hg => ?_)
  show lWP n xs 813 (lLs i) [aI (an_names h00 (sv xs (i + 1)))] g
  refine l_aload dL_law_813 rfl ?_
  refine l_aload dL_law_814 rfl ?_
  refine l_iload dL_law_815 rfl ?_
  refine l_iconst dL_law_816 ?_
  refine l_iadd dL_law_817 ?_
  refine l_sld (i + 1) dL_law_818 (by omega) (by omega) hn ?_
  refine l_callV (k := 12) (i := 0) (d := 0 + 6) (S := [aI (an_names h00 (sv xs (i + 1)))]) [aI (sv xs (i + 1))] dL_law_819 ml_L_108 ok_X12_names vi_X12_names rfl rfl (by decide) rfl (Nat.le_of_ble_eq_true rfl) (by decide) ?_
  refine c_X12_names (d := 0) (gg := h00) (h := g) (sv xs (i + 1)) J0 (R0 (hg.1 36 0 rfl (by decide))) (K0 (hg.1 36 0 rfl (by decide))) hg.2.2 (sv_rng _ _) (fun g2 hg2 => ?_)
  exact l_eqs 1993 dL_law_822 (by decide) rfl (tail _)
set_option maxRecDepth 100000 in
theorem p_first {n : Nat} {xs : Nat → Int32} {i : Nat} (hn : n ≤ 100000) (hi : i + 6 ≤ n) (tail : ∀ h, lWP n xs 1993 (lLs i) [] h) : lWP n xs 827 (lLs i) [] h00 := by
  refine l_aload dL_law_827 rfl ?_
  refine l_callV (k := 0) (i := 0) (d := 0 + 5) (S := []) [] dL_law_828 ml_L_109 ok_X11_first vi_X11_first rfl rfl (by decide) rfl (Nat.le_of_ble_eq_true rfl) (by decide) ?_
  refine c_X11_first (d := 0) (h := h00) J0 (fun g hg => ?_)
  show lWP n xs 831 (lLs i) [aI (an_first h00)] g
  refine l_aload dL_law_831 rfl ?_
  refine l_callV (k := 12) (i := 0) (d := 0 + 7) (S := [aI (an_first h00)]) [] dL_law_832 ml_L_112 ok_X12_first vi_X12_first rfl rfl (by decide) rfl (Nat.le_of_ble_eq_true rfl) (by decide) ?_
  refine c_X12_first (d := 0) (gg := h00) (h := g) J0 (R0 (hg.1 36 0 rfl (by decide))) (K0 (hg.1 36 0 rfl (by decide))) hg.2.2 (fun g2 hg2 => ?_)
  exact l_eqs 1993 dL_law_835 (by decide) rfl (tail _)
set_option maxRecDepth 100000 in
theorem p_firsts {n : Nat} {xs : Nat → Int32} {i : Nat} (hn : n ≤ 100000) (hi : i + 6 ≤ n) (tail : ∀ h, lWP n xs 1993 (lLs i) [] h) : lWP n xs 840 (lLs i) [] h00 := by
  refine l_aload dL_law_840 rfl ?_
  refine l_callV (k := 0) (i := 0) (d := 0 + 5) (S := []) [] dL_law_841 ml_L_113 ok_X11_firsts vi_X11_firsts rfl rfl (by decide) rfl (Nat.le_of_ble_eq_true rfl) (by decide) ?_
  refine c_X11_firsts (d := 0) (h := h00) J0 (fun g hg => ?_)
  show lWP n xs 844 (lLs i) [aI (an_firsts h00)] g
  refine l_aload dL_law_844 rfl ?_
  refine l_callV (k := 12) (i := 0) (d := 0 + 7) (S := [aI (an_firsts h00)]) [] dL_law_845 ml_L_116 ok_X12_firsts vi_X12_firsts rfl rfl (by decide) rfl (Nat.le_of_ble_eq_true rfl) (by decide) ?_
  refine c_X12_firsts (d := 0) (gg := h00) (h := g) J0 (R0 (hg.1 36 0 rfl (by decide))) (K0 (hg.1 36 0 rfl (by decide))) hg.2.2 (fun g2 hg2 => ?_)
  exact l_eqs 1993 dL_law_848 (by decide) rfl (tail _)
set_option maxRecDepth 100000 in
theorem p_next {n : Nat} {xs : Nat → Int32} {i : Nat} (hn : n ≤ 100000) (hi : i + 6 ≤ n) (tail : ∀ h, lWP n xs 1993 (lLs i) [] h) : lWP n xs 853 (lLs i) [] h00 := by
  refine l_aload dL_law_853 rfl ?_
  refine l_aload dL_law_854 rfl ?_
  refine l_iload dL_law_855 rfl ?_
  refine l_iconst dL_law_856 ?_
  refine l_iadd dL_law_857 ?_
  refine l_sld (i + 1) dL_law_858 (by omega) (by omega) hn ?_
  refine l_callV (k := 0) (i := 0) (d := 0 + 5) (S := []) [aI (sv xs (i + 1))] dL_law_859 ml_L_117 ok_X11_next vi_X11_next rfl rfl (by decide) rfl (Nat.le_of_ble_eq_true rfl) (by decide) ?_
  refine c_X11_next (d := 0) (h := h00) (sv xs (i + 1)) J0 (sv_rng _ _) (fun g hg => ?_)
  show lWP n xs 862 (lLs i) [aI (an_next h00 (sv xs (i + 1)))] g
  refine l_aload dL_law_862 rfl ?_
  refine l_aload dL_law_863 rfl ?_
  refine l_iload dL_law_864 rfl ?_
  refine l_iconst dL_law_865 ?_
  refine l_iadd dL_law_866 ?_
  refine l_sld (i + 1) dL_law_867 (by omega) (by omega) hn ?_
  refine l_callV (k := 12) (i := 0) (d := 0 + 6) (S := [aI (an_next h00 (sv xs (i + 1)))]) [aI (sv xs (i + 1))] dL_law_868 ml_L_120 ok_X12_next vi_X12_next rfl rfl (by decide) rfl (Nat.le_of_ble_eq_true rfl) (by decide) ?_
  refine c_X12_next (d := 0) (gg := h00) (h := g) (sv xs (i + 1)) J0 (R0 (hg.1 36 0 rfl (by decide))) (K0 (hg.1 36 0 rfl (by decide))) hg.2.2 (sv_rng _ _) (fun g2 hg2 => ?_)
  exact l_eqs 1993 dL_law_871 (by decide) rfl (tail _)
set_option maxRecDepth 100000 in
theorem p_needed {n : Nat} {xs : Nat → Int32} {i : Nat} (hn : n ≤ 100000) (hi : i + 6 ≤ n) (tail : ∀ h, lWP n xs 1993 (lLs i) [] h) : lWP n xs 876 (lLs i) [] h00 := by
  refine l_aload dL_law_876 rfl ?_
  refine l_callV (k := 0) (i := 0) (d := 0 + 5) (S := []) [] dL_law_877 ml_L_121 ok_X11_needed vi_X11_needed rfl rfl (by decide) rfl (Nat.le_of_ble_eq_true rfl) (by decide) ?_
  refine c_X11_needed (d := 0) (h := h00) J0 (fun g hg => ?_)
  show lWP n xs 880 (lLs i) [aI (an_needed h00)] g
  refine l_aload dL_law_880 rfl ?_
  refine l_callV (k := 12) (i := 0) (d := 0 + 6) (S := [aI (an_needed h00)]) [] dL_law_881 ml_L_124 ok_X12_needed vi_X12_needed rfl rfl (by decide) rfl (Nat.le_of_ble_eq_true rfl) (by decide) ?_
  refine c_X12_needed (d := 0) (gg := h00) (h := g) J0 (R0 (hg.1 36 0 rfl (by decide))) (K0 (hg.1 36 0 rfl (by decide))) hg.2.2 (fun g2 hg2 => ?_)
  exact l_eqs 1993 dL_law_884 (by decide) rfl (tail _)
set_option maxRecDepth 100000 in
theorem p_play {n : Nat} {xs : Nat → Int32} {i : Nat} (hn : n ≤ 100000) (hi : i + 6 ≤ n) (tail : ∀ h, lWP n xs 1993 (lLs i) [] h) : lWP n xs 889 (lLs i) [] h00 := by
  refine l_aload dL_law_889 rfl ?_
  refine l_aload dL_law_890 rfl ?_
  refine l_iload dL_law_891 rfl ?_
  refine l_iconst dL_law_892 ?_
  refine l_iadd dL_law_893 ?_
  refine l_sld (i + 1) dL_law_894 (by omega) (by omega) hn ?_
  refine l_aload dL_law_895 rfl ?_
  refine l_iload dL_law_896 rfl ?_
  refine l_iconst dL_law_897 ?_
  refine l_iadd dL_law_898 ?_
  refine l_sld (i + 2) dL_law_899 (by omega) (by omega) hn ?_
  refine l_callV (k := 0) (i := 0) (d := 0 + 30) (S := []) [aI (sv xs (i + 1)), aI (sv xs (i + 2))] dL_law_900 ml_L_125 ok_X11_play vi_X11_play rfl rfl (by decide) rfl (Nat.le_of_ble_eq_true rfl) (by decide) ?_
  refine c_X11_play (d := 0) (h := h00) (sv xs (i + 1)) (sv xs (i + 2)) J0 (sv_rng _ _) (sv_rng _ _) (fun g hg => ?_)
  show lWP n xs 903 (lLs i) [aI (an_play h00 (sv xs (i + 1)) (sv xs (i + 2)))] g
  refine l_aload dL_law_903 rfl ?_
  refine l_aload dL_law_904 rfl ?_
  refine l_iload dL_law_905 rfl ?_
  refine l_iconst dL_law_906 ?_
  refine l_iadd dL_law_907 ?_
  refine l_sld (i + 1) dL_law_908 (by omega) (by omega) hn ?_
  refine l_aload dL_law_909 rfl ?_
  refine l_iload dL_law_910 rfl ?_
  refine l_iconst dL_law_911 ?_
  refine l_iadd dL_law_912 ?_
  refine l_sld (i + 2) dL_law_913 (by omega) (by omega) hn ?_
  refine l_callV (k := 12) (i := 0) (d := 0 + 2) (S := [aI (an_play h00 (sv xs (i + 1)) (sv xs (i + 2)))]) [aI (sv xs (i + 1)), aI (sv xs (i + 2))] dL_law_914 ml_L_128 ok_X12_play vi_X12_play rfl rfl (by decide) rfl (Nat.le_of_ble_eq_true rfl) (by decide) ?_
  refine c_no_play (d := 0) (gg := h00) (h := g) (sv xs (i + 1)) (sv xs (i + 2)) J0 (R0 (hg.1 36 0 rfl (by decide))) n36 (sv_rng _ _) (sv_rng _ _) ?_
  exact l_eqs 1993 dL_law_917 (by decide) rfl (tail _)
set_option maxRecDepth 100000 in
theorem p_moves {n : Nat} {xs : Nat → Int32} {i : Nat} (hn : n ≤ 100000) (hi : i + 6 ≤ n) (tail : ∀ h, lWP n xs 1993 (lLs i) [] h) : lWP n xs 922 (lLs i) [] h00 := by
  refine l_aload dL_law_922 rfl ?_
  refine l_aload dL_law_923 rfl ?_
  refine l_iload dL_law_924 rfl ?_
  refine l_iconst dL_law_925 ?_
  refine l_iadd dL_law_926 ?_
  refine l_sld (i + 1) dL_law_927 (by omega) (by omega) hn ?_
  refine l_aload dL_law_928 rfl ?_
  refine l_iload dL_law_929 rfl ?_
  refine l_iconst dL_law_930 ?_
  refine l_iadd dL_law_931 ?_
  refine l_sld (i + 2) dL_law_932 (by omega) (by omega) hn ?_
  refine l_callV (k := 0) (i := 0) (d := 0 + 31) (S := []) [aI (sv xs (i + 1)), aI (sv xs (i + 2))] dL_law_933 ml_L_129 ok_X11_moves vi_X11_moves rfl rfl (by decide) rfl (Nat.le_of_ble_eq_true rfl) (by decide) ?_
  refine c_X11_moves (d := 0) (h := h00) (sv xs (i + 1)) (sv xs (i + 2)) J0 (sv_rng _ _) (sv_rng _ _) (fun g hg => ?_)
  show lWP n xs 936 (lLs i) [aI (an_moves h00 (sv xs (i + 1)) (sv xs (i + 2)))] g
  refine l_aload dL_law_936 rfl ?_
  refine l_aload dL_law_937 rfl ?_
  refine l_iload dL_law_938 rfl ?_
  refine l_iconst dL_law_939 ?_
  refine l_iadd dL_law_940 ?_
  refine l_sld (i + 1) dL_law_941 (by omega) (by omega) hn ?_
  refine l_aload dL_law_942 rfl ?_
  refine l_iload dL_law_943 rfl ?_
  refine l_iconst dL_law_944 ?_
  refine l_iadd dL_law_945 ?_
  refine l_sld (i + 2) dL_law_946 (by omega) (by omega) hn ?_
  refine l_callV (k := 12) (i := 0) (d := 0 + 2) (S := [aI (an_moves h00 (sv xs (i + 1)) (sv xs (i + 2)))]) [aI (sv xs (i + 1)), aI (sv xs (i + 2))] dL_law_947 ml_L_132 ok_X12_moves vi_X12_moves rfl rfl (by decide) rfl (Nat.le_of_ble_eq_true rfl) (by decide) ?_
  refine c_no_moves (d := 0) (gg := h00) (h := g) (sv xs (i + 1)) (sv xs (i + 2)) J0 (R0 (hg.1 36 0 rfl (by decide))) n36 (sv_rng _ _) (sv_rng _ _) ?_
  exact l_eqs 1993 dL_law_950 (by decide) rfl (tail _)
set_option maxRecDepth 100000 in
theorem p_round {n : Nat} {xs : Nat → Int32} {i : Nat} (hn : n ≤ 100000) (hi : i + 6 ≤ n) (tail : ∀ h, lWP n xs 1993 (lLs i) [] h) : lWP n xs 955 (lLs i) [] h00 := by
  refine l_aload dL_law_955 rfl ?_
  refine l_aload dL_law_956 rfl ?_
  refine l_iload dL_law_957 rfl ?_
  refine l_iconst dL_law_958 ?_
  refine l_iadd dL_law_959 ?_
  refine l_sld (i + 1) dL_law_960 (by omega) (by omega) hn ?_
  refine l_aload dL_law_961 rfl ?_
  refine l_iload dL_law_962 rfl ?_
  refine l_iconst dL_law_963 ?_
  refine l_iadd dL_law_964 ?_
  refine l_sld (i + 2) dL_law_965 (by omega) (by omega) hn ?_
  refine l_callV (k := 0) (i := 0) (d := 0 + 6) (S := []) [aI (sv xs (i + 1)), aI (sv xs (i + 2))] dL_law_966 ml_L_133 ok_X11_round vi_X11_round rfl rfl (by decide) rfl (Nat.le_of_ble_eq_true rfl) (by decide) ?_
  refine c_X11_round (d := 0) (h := h00) (sv xs (i + 1)) (sv xs (i + 2)) J0 (sv_rng _ _) (sv_rng _ _) (fun g hg => ?_)
  show lWP n xs 969 (lLs i) [aI (an_round h00 (sv xs (i + 1)) (sv xs (i + 2)))] g
  refine l_aload dL_law_969 rfl ?_
  refine l_aload dL_law_970 rfl ?_
  refine l_iload dL_law_971 rfl ?_
  refine l_iconst dL_law_972 ?_
  refine l_iadd dL_law_973 ?_
  refine l_sld (i + 1) dL_law_974 (by omega) (by omega) hn ?_
  refine l_aload dL_law_975 rfl ?_
  refine l_iload dL_law_976 rfl ?_
  refine l_iconst dL_law_977 ?_
  refine l_iadd dL_law_978 ?_
  refine l_sld (i + 2) dL_law_979 (by omega) (by omega) hn ?_
  refine l_callV (k := 12) (i := 0) (d := 0 + 3) (S := [aI (an_round h00 (sv xs (i + 1)) (sv xs (i + 2)))]) [aI (sv xs (i + 1)), aI (sv xs (i + 2))] dL_law_980 ml_L_136 ok_X12_round vi_X12_round rfl rfl (by decide) rfl (Nat.le_of_ble_eq_true rfl) (by decide) ?_
  refine c_no_round (d := 0) (gg := h00) (h := g) (sv xs (i + 1)) (sv xs (i + 2)) J0 (R0 (hg.1 36 0 rfl (by decide))) n36 (sv_rng _ _) (sv_rng _ _) ?_
  exact l_eqs 1993 dL_law_983 (by decide) (by unfold an_round; rw [if_neg (by have n41 : h00 4 0 1 = 0 := rfl; omega)]) (tail _)
set_option maxRecDepth 100000 in
theorem p_goes {n : Nat} {xs : Nat → Int32} {i : Nat} (hn : n ≤ 100000) (hi : i + 6 ≤ n) (tail : ∀ h, lWP n xs 1993 (lLs i) [] h) : lWP n xs 988 (lLs i) [] h00 := by
  refine l_aload dL_law_988 rfl ?_
  refine l_aload dL_law_989 rfl ?_
  refine l_iload dL_law_990 rfl ?_
  refine l_iconst dL_law_991 ?_
  refine l_iadd dL_law_992 ?_
  refine l_sld (i + 1) dL_law_993 (by omega) (by omega) hn ?_
  refine l_aload dL_law_994 rfl ?_
  refine l_iload dL_law_995 rfl ?_
  refine l_iconst dL_law_996 ?_
  refine l_iadd dL_law_997 ?_
  refine l_sld (i + 2) dL_law_998 (by omega) (by omega) hn ?_
  refine l_aload dL_law_999 rfl ?_
  refine l_iload dL_law_1000 rfl ?_
  refine l_iconst dL_law_1001 ?_
  refine l_iadd dL_law_1002 ?_
  refine l_sld (i + 3) dL_law_1003 (by omega) (by omega) hn ?_
  refine l_callV (k := 0) (i := 0) (d := 0 + 6) (S := []) [aI (sv xs (i + 1)), aI (sv xs (i + 2)), aI (sv xs (i + 3))] dL_law_1004 ml_L_137 ok_X11_goes vi_X11_goes rfl rfl (by decide) rfl (Nat.le_of_ble_eq_true rfl) (by decide) ?_
  refine c_X11_goes (d := 0) (h := h00) (sv xs (i + 1)) (sv xs (i + 2)) (sv xs (i + 3)) J0 (sv_rng _ _) (sv_rng _ _) (sv_rng _ _) (fun g hg => ?_)
  show lWP n xs 1007 (lLs i) [aI (an_goes h00 (sv xs (i + 1)) (sv xs (i + 2)) (sv xs (i + 3)))] g
  refine l_aload dL_law_1007 rfl ?_
  refine l_aload dL_law_1008 rfl ?_
  refine l_iload dL_law_1009 rfl ?_
  refine l_iconst dL_law_1010 ?_
  refine l_iadd dL_law_1011 ?_
  refine l_sld (i + 1) dL_law_1012 (by omega) (by omega) hn ?_
  refine l_aload dL_law_1013 rfl ?_
  refine l_iload dL_law_1014 rfl ?_
  refine l_iconst dL_law_1015 ?_
  refine l_iadd dL_law_1016 ?_
  refine l_sld (i + 2) dL_law_1017 (by omega) (by omega) hn ?_
  refine l_aload dL_law_1018 rfl ?_
  refine l_iload dL_law_1019 rfl ?_
  refine l_iconst dL_law_1020 ?_
  refine l_iadd dL_law_1021 ?_
  refine l_sld (i + 3) dL_law_1022 (by omega) (by omega) hn ?_
  refine l_callV (k := 12) (i := 0) (d := 0 + 3) (S := [aI (an_goes h00 (sv xs (i + 1)) (sv xs (i + 2)) (sv xs (i + 3)))]) [aI (sv xs (i + 1)), aI (sv xs (i + 2)), aI (sv xs (i + 3))] dL_law_1023 ml_L_141 ok_X12_goes vi_X12_goes rfl rfl (by decide) rfl (Nat.le_of_ble_eq_true rfl) (by decide) ?_
  refine c_no_goes (d := 0) (gg := h00) (h := g) (sv xs (i + 1)) (sv xs (i + 2)) (sv xs (i + 3)) J0 (R0 (hg.1 36 0 rfl (by decide))) n36 (sv_rng _ _) (sv_rng _ _) (sv_rng _ _) ?_
  exact l_eqs 1993 dL_law_1026 (by decide) (by unfold an_goes; rw [if_neg (by have n41 : h00 4 0 1 = 0 := rfl; omega)]) (tail _)
set_option maxRecDepth 100000 in
theorem p_two {n : Nat} {xs : Nat → Int32} {i : Nat} (hn : n ≤ 100000) (hi : i + 6 ≤ n) (tail : ∀ h, lWP n xs 1993 (lLs i) [] h) : lWP n xs 1031 (lLs i) [] h00 := by
  refine l_aload dL_law_1031 rfl ?_
  refine l_aload dL_law_1032 rfl ?_
  refine l_iload dL_law_1033 rfl ?_
  refine l_iconst dL_law_1034 ?_
  refine l_iadd dL_law_1035 ?_
  refine l_sld (i + 1) dL_law_1036 (by omega) (by omega) hn ?_
  refine l_aload dL_law_1037 rfl ?_
  refine l_iload dL_law_1038 rfl ?_
  refine l_iconst dL_law_1039 ?_
  refine l_iadd dL_law_1040 ?_
  refine l_sld (i + 2) dL_law_1041 (by omega) (by omega) hn ?_
  refine l_aload dL_law_1042 rfl ?_
  refine l_iload dL_law_1043 rfl ?_
  refine l_iconst dL_law_1044 ?_
  refine l_iadd dL_law_1045 ?_
  refine l_sld (i + 3) dL_law_1046 (by omega) (by omega) hn ?_
  refine l_callV (k := 0) (i := 0) (d := 0 + 6) (S := []) [aI (sv xs (i + 1)), aI (sv xs (i + 2)), aI (sv xs (i + 3))] dL_law_1047 ml_L_142 ok_X11_two vi_X11_two rfl rfl (by decide) rfl (Nat.le_of_ble_eq_true rfl) (by decide) ?_
  refine c_X11_two (d := 0) (h := h00) (sv xs (i + 1)) (sv xs (i + 2)) (sv xs (i + 3)) J0 (sv_rng _ _) (sv_rng _ _) (sv_rng _ _) (fun g hg => ?_)
  show lWP n xs 1050 (lLs i) [aI (an_two h00 (sv xs (i + 1)) (sv xs (i + 2)) (sv xs (i + 3)))] g
  refine l_aload dL_law_1050 rfl ?_
  refine l_aload dL_law_1051 rfl ?_
  refine l_iload dL_law_1052 rfl ?_
  refine l_iconst dL_law_1053 ?_
  refine l_iadd dL_law_1054 ?_
  refine l_sld (i + 1) dL_law_1055 (by omega) (by omega) hn ?_
  refine l_aload dL_law_1056 rfl ?_
  refine l_iload dL_law_1057 rfl ?_
  refine l_iconst dL_law_1058 ?_
  refine l_iadd dL_law_1059 ?_
  refine l_sld (i + 2) dL_law_1060 (by omega) (by omega) hn ?_
  refine l_aload dL_law_1061 rfl ?_
  refine l_iload dL_law_1062 rfl ?_
  refine l_iconst dL_law_1063 ?_
  refine l_iadd dL_law_1064 ?_
  refine l_sld (i + 3) dL_law_1065 (by omega) (by omega) hn ?_
  refine l_callV (k := 12) (i := 0) (d := 0 + 3) (S := [aI (an_two h00 (sv xs (i + 1)) (sv xs (i + 2)) (sv xs (i + 3)))]) [aI (sv xs (i + 1)), aI (sv xs (i + 2)), aI (sv xs (i + 3))] dL_law_1066 ml_L_145 ok_X12_two vi_X12_two rfl rfl (by decide) rfl (Nat.le_of_ble_eq_true rfl) (by decide) ?_
  refine c_no_two (d := 0) (gg := h00) (h := g) (sv xs (i + 1)) (sv xs (i + 2)) (sv xs (i + 3)) J0 (R0 (hg.1 36 0 rfl (by decide))) n36 (sv_rng _ _) (sv_rng _ _) (sv_rng _ _) ?_
  exact l_eqs 1993 dL_law_1069 (by decide) (by unfold an_two; rw [if_neg (by have n41 : h00 4 0 1 = 0 := rfl; omega)]) (tail _)
set_option maxRecDepth 100000 in
theorem p_flows {n : Nat} {xs : Nat → Int32} {i : Nat} (hn : n ≤ 100000) (hi : i + 6 ≤ n) (tail : ∀ h, lWP n xs 1993 (lLs i) [] h) : lWP n xs 1074 (lLs i) [] h00 := by
  refine l_aload dL_law_1074 rfl ?_
  refine l_aload dL_law_1075 rfl ?_
  refine l_iload dL_law_1076 rfl ?_
  refine l_iconst dL_law_1077 ?_
  refine l_iadd dL_law_1078 ?_
  refine l_sld (i + 1) dL_law_1079 (by omega) (by omega) hn ?_
  refine l_callV (k := 0) (i := 0) (d := 0 + 4) (S := []) [aI (sv xs (i + 1))] dL_law_1080 ml_L_146 ok_X11_flows vi_X11_flows rfl rfl (by decide) rfl (Nat.le_of_ble_eq_true rfl) (by decide) ?_
  refine c_X11_flows (d := 0) (h := h00) (sv xs (i + 1)) J0 (sv_rng _ _) (fun g hg => ?_)
  show lWP n xs 1083 (lLs i) [aI (an_flows h00 (sv xs (i + 1)))] g
  refine l_aload dL_law_1083 rfl ?_
  refine l_aload dL_law_1084 rfl ?_
  refine l_iload dL_law_1085 rfl ?_
  refine l_iconst dL_law_1086 ?_
  refine l_iadd dL_law_1087 ?_
  refine l_sld (i + 1) dL_law_1088 (by omega) (by omega) hn ?_
  refine l_callV (k := 12) (i := 0) (d := 0 + 6) (S := [aI (an_flows h00 (sv xs (i + 1)))]) [aI (sv xs (i + 1))] dL_law_1089 ml_L_149 ok_X12_flows vi_X12_flows rfl rfl (by decide) rfl (Nat.le_of_ble_eq_true rfl) (by decide) ?_
  refine c_X12_flows (d := 0) (gg := h00) (h := g) (sv xs (i + 1)) J0 (R0 (hg.1 36 0 rfl (by decide))) (K0 (hg.1 36 0 rfl (by decide))) hg.2.2 (sv_rng _ _) (fun g2 hg2 => ?_)
  exact l_eqs 1993 dL_law_1092 (by decide) rfl (tail _)
set_option maxRecDepth 100000 in
theorem p_basin {n : Nat} {xs : Nat → Int32} {i : Nat} (hn : n ≤ 100000) (hi : i + 6 ≤ n) (tail : ∀ h, lWP n xs 1993 (lLs i) [] h) : lWP n xs 1097 (lLs i) [] h00 := by
  refine l_aload dL_law_1097 rfl ?_
  refine l_aload dL_law_1098 rfl ?_
  refine l_iload dL_law_1099 rfl ?_
  refine l_iconst dL_law_1100 ?_
  refine l_iadd dL_law_1101 ?_
  refine l_sld (i + 1) dL_law_1102 (by omega) (by omega) hn ?_
  refine l_callV (k := 0) (i := 0) (d := 0 + 5) (S := []) [aI (sv xs (i + 1))] dL_law_1103 ml_L_150 ok_X11_basin vi_X11_basin rfl rfl (by decide) rfl (Nat.le_of_ble_eq_true rfl) (by decide) ?_
  refine c_X11_basin (d := 0) (h := h00) (sv xs (i + 1)) J0 (sv_rng _ _) (fun g hg => ?_)
  show lWP n xs 1106 (lLs i) [aI (an_basin h00 (sv xs (i + 1)))] g
  refine l_aload dL_law_1106 rfl ?_
  refine l_aload dL_law_1107 rfl ?_
  refine l_iload dL_law_1108 rfl ?_
  refine l_iconst dL_law_1109 ?_
  refine l_iadd dL_law_1110 ?_
  refine l_sld (i + 1) dL_law_1111 (by omega) (by omega) hn ?_
  refine l_callV (k := 12) (i := 0) (d := 0 + 6) (S := [aI (an_basin h00 (sv xs (i + 1)))]) [aI (sv xs (i + 1))] dL_law_1112 ml_L_153 ok_X12_basin vi_X12_basin rfl rfl (by decide) rfl (Nat.le_of_ble_eq_true rfl) (by decide) ?_
  refine c_X12_basin (d := 0) (gg := h00) (h := g) (sv xs (i + 1)) J0 (R0 (hg.1 36 0 rfl (by decide))) (K0 (hg.1 36 0 rfl (by decide))) hg.2.2 (sv_rng _ _) (fun g2 hg2 => ?_)
  exact l_eqs 1993 dL_law_1115 (by decide) rfl (tail _)
set_option maxRecDepth 100000 in
theorem p_cliffs {n : Nat} {xs : Nat → Int32} {i : Nat} (hn : n ≤ 100000) (hi : i + 6 ≤ n) (tail : ∀ h, lWP n xs 1993 (lLs i) [] h) : lWP n xs 1120 (lLs i) [] h00 := by
  refine l_aload dL_law_1120 rfl ?_
  refine l_callV (k := 0) (i := 0) (d := 0 + 2) (S := []) [] dL_law_1121 ml_L_154 ok_X11_cliffs vi_X11_cliffs rfl rfl (by decide) rfl (Nat.le_of_ble_eq_true rfl) (by decide) ?_
  refine c_X11_cliffs (d := 0) (h := h00) J0 (fun g hg => ?_)
  show lWP n xs 1124 (lLs i) [aI (an_cliffs h00)] g
  refine l_aload dL_law_1124 rfl ?_
  refine l_callV (k := 12) (i := 0) (d := 0 + 6) (S := [aI (an_cliffs h00)]) [] dL_law_1125 ml_L_157 ok_X12_cliffs vi_X12_cliffs rfl rfl (by decide) rfl (Nat.le_of_ble_eq_true rfl) (by decide) ?_
  refine c_X12_cliffs (d := 0) (gg := h00) (h := g) J0 (R0 (hg.1 36 0 rfl (by decide))) (K0 (hg.1 36 0 rfl (by decide))) hg.2.2 (fun g2 hg2 => ?_)
  exact l_eqs 1993 dL_law_1128 (by decide) rfl (tail _)
set_option maxRecDepth 100000 in
theorem p_springs {n : Nat} {xs : Nat → Int32} {i : Nat} (hn : n ≤ 100000) (hi : i + 6 ≤ n) (tail : ∀ h, lWP n xs 1993 (lLs i) [] h) : lWP n xs 1133 (lLs i) [] h00 := by
  refine l_aload dL_law_1133 rfl ?_
  refine l_callV (k := 0) (i := 0) (d := 0 + 5) (S := []) [] dL_law_1134 ml_L_158 ok_X11_springs vi_X11_springs rfl rfl (by decide) rfl (Nat.le_of_ble_eq_true rfl) (by decide) ?_
  refine c_X11_springs (d := 0) (h := h00) J0 (fun g hg => ?_)
  show lWP n xs 1137 (lLs i) [aI (an_springs h00)] g
  refine l_aload dL_law_1137 rfl ?_
  refine l_callV (k := 12) (i := 0) (d := 0 + 6) (S := [aI (an_springs h00)]) [] dL_law_1138 ml_L_161 ok_X12_springs vi_X12_springs rfl rfl (by decide) rfl (Nat.le_of_ble_eq_true rfl) (by decide) ?_
  refine c_X12_springs (d := 0) (gg := h00) (h := g) J0 (R0 (hg.1 36 0 rfl (by decide))) (K0 (hg.1 36 0 rfl (by decide))) hg.2.2 (fun g2 hg2 => ?_)
  exact l_eqs 1993 dL_law_1141 (by decide) rfl (tail _)
set_option maxRecDepth 100000 in
theorem p_sees {n : Nat} {xs : Nat → Int32} {i : Nat} (hn : n ≤ 100000) (hi : i + 6 ≤ n) (tail : ∀ h, lWP n xs 1993 (lLs i) [] h) : lWP n xs 1146 (lLs i) [] h00 := by
  refine l_aload dL_law_1146 rfl ?_
  refine l_aload dL_law_1147 rfl ?_
  refine l_iload dL_law_1148 rfl ?_
  refine l_iconst dL_law_1149 ?_
  refine l_iadd dL_law_1150 ?_
  refine l_sld (i + 1) dL_law_1151 (by omega) (by omega) hn ?_
  refine l_callV (k := 0) (i := 0) (d := 0 + 3) (S := []) [aI (sv xs (i + 1))] dL_law_1152 ml_L_162 ok_X11_sees vi_X11_sees rfl rfl (by decide) rfl (Nat.le_of_ble_eq_true rfl) (by decide) ?_
  refine c_X11_sees (d := 0) (h := h00) (sv xs (i + 1)) J0 (sv_rng _ _) (fun g hg => ?_)
  show lWP n xs 1155 (lLs i) [aI (an_sees h00 (sv xs (i + 1)))] g
  refine l_aload dL_law_1155 rfl ?_
  refine l_aload dL_law_1156 rfl ?_
  refine l_iload dL_law_1157 rfl ?_
  refine l_iconst dL_law_1158 ?_
  refine l_iadd dL_law_1159 ?_
  refine l_sld (i + 1) dL_law_1160 (by omega) (by omega) hn ?_
  refine l_callV (k := 12) (i := 0) (d := 0 + 6) (S := [aI (an_sees h00 (sv xs (i + 1)))]) [aI (sv xs (i + 1))] dL_law_1161 ml_L_165 ok_X12_sees vi_X12_sees rfl rfl (by decide) rfl (Nat.le_of_ble_eq_true rfl) (by decide) ?_
  refine c_X12_sees (d := 0) (gg := h00) (h := g) (sv xs (i + 1)) J0 (R0 (hg.1 36 0 rfl (by decide))) (K0 (hg.1 36 0 rfl (by decide))) hg.2.2 (sv_rng _ _) (fun g2 hg2 => ?_)
  exact l_eqs 1993 dL_law_1164 (by decide) rfl (tail _)
set_option maxRecDepth 100000 in
theorem p_lookout {n : Nat} {xs : Nat → Int32} {i : Nat} (hn : n ≤ 100000) (hi : i + 6 ≤ n) (tail : ∀ h, lWP n xs 1993 (lLs i) [] h) : lWP n xs 1169 (lLs i) [] h00 := by
  refine l_aload dL_law_1169 rfl ?_
  refine l_callV (k := 0) (i := 0) (d := 0 + 4) (S := []) [] dL_law_1170 ml_L_166 ok_X11_lookout vi_X11_lookout rfl rfl (by decide) rfl (Nat.le_of_ble_eq_true rfl) (by decide) ?_
  refine c_X11_lookout (d := 0) (h := h00) J0 (fun g hg => ?_)
  show lWP n xs 1173 (lLs i) [aI (an_lookout h00)] g
  refine l_aload dL_law_1173 rfl ?_
  refine l_callV (k := 12) (i := 0) (d := 0 + 6) (S := [aI (an_lookout h00)]) [] dL_law_1174 ml_L_169 ok_X12_lookout vi_X12_lookout rfl rfl (by decide) rfl (Nat.le_of_ble_eq_true rfl) (by decide) ?_
  refine c_X12_lookout (d := 0) (gg := h00) (h := g) J0 (R0 (hg.1 36 0 rfl (by decide))) (K0 (hg.1 36 0 rfl (by decide))) hg.2.2 (fun g2 hg2 => ?_)
  exact l_eqs 1993 dL_law_1177 (by decide) rfl (tail _)
set_option maxRecDepth 100000 in
theorem p_votes {n : Nat} {xs : Nat → Int32} {i : Nat} (hn : n ≤ 100000) (hi : i + 6 ≤ n) (tail : ∀ h, lWP n xs 1993 (lLs i) [] h) : lWP n xs 1182 (lLs i) [] h00 := by
  refine l_aload dL_law_1182 rfl ?_
  refine l_aload dL_law_1183 rfl ?_
  refine l_iload dL_law_1184 rfl ?_
  refine l_iconst dL_law_1185 ?_
  refine l_iadd dL_law_1186 ?_
  refine l_sld (i + 1) dL_law_1187 (by omega) (by omega) hn ?_
  refine l_aload dL_law_1188 rfl ?_
  refine l_iload dL_law_1189 rfl ?_
  refine l_iconst dL_law_1190 ?_
  refine l_iadd dL_law_1191 ?_
  refine l_sld (i + 2) dL_law_1192 (by omega) (by omega) hn ?_
  refine l_callV (k := 0) (i := 0) (d := 0 + 4) (S := []) [aI (sv xs (i + 1)), aI (sv xs (i + 2))] dL_law_1193 ml_L_170 ok_X11_votes vi_X11_votes rfl rfl (by decide) rfl (Nat.le_of_ble_eq_true rfl) (by decide) ?_
  refine c_X11_votes (d := 0) (h := h00) (sv xs (i + 1)) (sv xs (i + 2)) J0 (sv_rng _ _) (sv_rng _ _) (fun g hg => ?_)
  show lWP n xs 1196 (lLs i) [aI (an_votes h00 (sv xs (i + 1)) (sv xs (i + 2)))] g
  refine l_aload dL_law_1196 rfl ?_
  refine l_aload dL_law_1197 rfl ?_
  refine l_iload dL_law_1198 rfl ?_
  refine l_iconst dL_law_1199 ?_
  refine l_iadd dL_law_1200 ?_
  refine l_sld (i + 1) dL_law_1201 (by omega) (by omega) hn ?_
  refine l_aload dL_law_1202 rfl ?_
  refine l_iload dL_law_1203 rfl ?_
  refine l_iconst dL_law_1204 ?_
  refine l_iadd dL_law_1205 ?_
  refine l_sld (i + 2) dL_law_1206 (by omega) (by omega) hn ?_
  refine l_callV (k := 12) (i := 0) (d := 0 + 6) (S := [aI (an_votes h00 (sv xs (i + 1)) (sv xs (i + 2)))]) [aI (sv xs (i + 1)), aI (sv xs (i + 2))] dL_law_1207 ml_L_173 ok_X12_votes vi_X12_votes rfl rfl (by decide) rfl (Nat.le_of_ble_eq_true rfl) (by decide) ?_
  refine c_X12_votes (d := 0) (gg := h00) (h := g) (sv xs (i + 1)) (sv xs (i + 2)) J0 (R0 (hg.1 36 0 rfl (by decide))) (K0 (hg.1 36 0 rfl (by decide))) hg.2.2 (sv_rng _ _) (sv_rng _ _) (fun g2 hg2 => ?_)
  exact l_eqs 1993 dL_law_1210 (by decide) rfl (tail _)
set_option maxRecDepth 100000 in
theorem p_elected {n : Nat} {xs : Nat → Int32} {i : Nat} (hn : n ≤ 100000) (hi : i + 6 ≤ n) (tail : ∀ h, lWP n xs 1993 (lLs i) [] h) : lWP n xs 1215 (lLs i) [] h00 := by
  refine l_aload dL_law_1215 rfl ?_
  refine l_callV (k := 0) (i := 0) (d := 0 + 5) (S := []) [] dL_law_1216 ml_L_174 ok_X11_elected vi_X11_elected rfl rfl (by decide) rfl (Nat.le_of_ble_eq_true rfl) (by decide) ?_
  refine c_X11_elected (d := 0) (h := h00) J0 (fun g hg => ?_)
  show lWP n xs 1219 (lLs i) [aI (an_elected h00)] g
  refine l_aload dL_law_1219 rfl ?_
  refine l_callV (k := 12) (i := 0) (d := 0 + 1) (S := [aI (an_elected h00)]) [] dL_law_1220 ml_L_177 ok_X12_elected vi_X12_elected rfl rfl (by decide) rfl (Nat.le_of_ble_eq_true rfl) (by decide) ?_
  refine c_no_elected (d := 0) (gg := h00) (h := g) J0 (R0 (hg.1 36 0 rfl (by decide))) n36 ?_
  exact l_eqs 1993 dL_law_1223 (by decide) rfl (tail _)
set_option maxRecDepth 100000 in
theorem p_best {n : Nat} {xs : Nat → Int32} {i : Nat} (hn : n ≤ 100000) (hi : i + 6 ≤ n) (tail : ∀ h, lWP n xs 1993 (lLs i) [] h) : lWP n xs 1228 (lLs i) [] h00 := by
  refine l_aload dL_law_1228 rfl ?_
  refine l_callV (k := 0) (i := 0) (d := 0 + 10) (S := []) [] dL_law_1229 ml_L_178 ok_X11_best vi_X11_best rfl rfl (by decide) rfl (Nat.le_of_ble_eq_true rfl) (by decide) ?_
  refine c_X11_best (d := 0) (h := h00) J0 (fun g hg => ?_)
  show lWP n xs 1232 (lLs i) [aI (an_best h00)] g
  refine l_aload dL_law_1232 rfl ?_
  refine l_callV (k := 12) (i := 0) (d := 0 + 6) (S := [aI (an_best h00)]) [] dL_law_1233 ml_L_181 ok_X12_best vi_X12_best rfl rfl (by decide) rfl (Nat.le_of_ble_eq_true rfl) (by decide) ?_
  refine c_X12_best (d := 0) (gg := h00) (h := g) J0 (R0 (hg.1 36 0 rfl (by decide))) (K0 (hg.1 36 0 rfl (by decide))) hg.2.2 (fun g2 hg2 => ?_)
  exact l_eqs 1993 dL_law_1236 (by decide) rfl (tail _)
set_option maxRecDepth 100000 in
theorem p_shape {n : Nat} {xs : Nat → Int32} {i : Nat} (hn : n ≤ 100000) (hi : i + 6 ≤ n) (tail : ∀ h, lWP n xs 1993 (lLs i) [] h) : lWP n xs 1241 (lLs i) [] h00 := by
  refine l_aload dL_law_1241 rfl ?_
  refine l_aload dL_law_1242 rfl ?_
  refine l_iload dL_law_1243 rfl ?_
  refine l_iconst dL_law_1244 ?_
  refine l_iadd dL_law_1245 ?_
  refine l_sld (i + 1) dL_law_1246 (by omega) (by omega) hn ?_
  refine l_callV (k := 0) (i := 0) (d := 0 + 10) (S := []) [aI (sv xs (i + 1))] dL_law_1247 ml_L_182 ok_X11_shape vi_X11_shape rfl rfl (by decide) rfl (Nat.le_of_ble_eq_true rfl) (by decide) ?_
  refine c_X11_shape (d := 0) (h := h00) (sv xs (i + 1)) J0 (sv_rng _ _) (fun g hg => ?_)
  show lWP n xs 1250 (lLs i) [aI (an_shape h00 (sv xs (i + 1)))] g
  refine l_aload dL_law_1250 rfl ?_
  refine l_aload dL_law_1251 rfl ?_
  refine l_iload dL_law_1252 rfl ?_
  refine l_iconst dL_law_1253 ?_
  refine l_iadd dL_law_1254 ?_
  refine l_sld (i + 1) dL_law_1255 (by omega) (by omega) hn ?_
  refine l_callV (k := 12) (i := 0) (d := 0 + 2) (S := [aI (an_shape h00 (sv xs (i + 1)))]) [aI (sv xs (i + 1))] dL_law_1256 ml_L_185 ok_X12_shape vi_X12_shape rfl rfl (by decide) rfl (Nat.le_of_ble_eq_true rfl) (by decide) ?_
  refine c_no_shape (d := 0) (gg := h00) (h := g) (sv xs (i + 1)) J0 (R0 (hg.1 36 0 rfl (by decide))) n36 (sv_rng _ _) ?_
  exact l_eqs 1993 dL_law_1259 (by decide) rfl (tail _)
set_option maxRecDepth 100000 in
theorem p_shaped {n : Nat} {xs : Nat → Int32} {i : Nat} (hn : n ≤ 100000) (hi : i + 6 ≤ n) (tail : ∀ h, lWP n xs 1993 (lLs i) [] h) : lWP n xs 1264 (lLs i) [] h00 := by
  refine l_aload dL_law_1264 rfl ?_
  refine l_aload dL_law_1265 rfl ?_
  refine l_iload dL_law_1266 rfl ?_
  refine l_iconst dL_law_1267 ?_
  refine l_iadd dL_law_1268 ?_
  refine l_sld (i + 1) dL_law_1269 (by omega) (by omega) hn ?_
  refine l_aload dL_law_1270 rfl ?_
  refine l_iload dL_law_1271 rfl ?_
  refine l_iconst dL_law_1272 ?_
  refine l_iadd dL_law_1273 ?_
  refine l_sld (i + 2) dL_law_1274 (by omega) (by omega) hn ?_
  refine l_callV (k := 0) (i := 0) (d := 0 + 10) (S := []) [aI (sv xs (i + 1)), aI (sv xs (i + 2))] dL_law_1275 ml_L_186 ok_X11_shaped vi_X11_shaped rfl rfl (by decide) rfl (Nat.le_of_ble_eq_true rfl) (by decide) ?_
  refine c_X11_shaped (d := 0) (h := h00) (sv xs (i + 1)) (sv xs (i + 2)) J0 (sv_rng _ _) (sv_rng _ _) (fun g hg => ?_)
  show lWP n xs 1278 (lLs i) [aI (an_shaped h00 (sv xs (i + 1)) (sv xs (i + 2)))] g
  refine l_aload dL_law_1278 rfl ?_
  refine l_aload dL_law_1279 rfl ?_
  refine l_iload dL_law_1280 rfl ?_
  refine l_iconst dL_law_1281 ?_
  refine l_iadd dL_law_1282 ?_
  refine l_sld (i + 1) dL_law_1283 (by omega) (by omega) hn ?_
  refine l_aload dL_law_1284 rfl ?_
  refine l_iload dL_law_1285 rfl ?_
  refine l_iconst dL_law_1286 ?_
  refine l_iadd dL_law_1287 ?_
  refine l_sld (i + 2) dL_law_1288 (by omega) (by omega) hn ?_
  refine l_callV (k := 12) (i := 0) (d := 0 + 2) (S := [aI (an_shaped h00 (sv xs (i + 1)) (sv xs (i + 2)))]) [aI (sv xs (i + 1)), aI (sv xs (i + 2))] dL_law_1289 ml_L_189 ok_X12_shaped vi_X12_shaped rfl rfl (by decide) rfl (Nat.le_of_ble_eq_true rfl) (by decide) ?_
  refine c_no_shaped (d := 0) (gg := h00) (h := g) (sv xs (i + 1)) (sv xs (i + 2)) J0 (R0 (hg.1 36 0 rfl (by decide))) n36 (sv_rng _ _) (sv_rng _ _) ?_
  exact l_eqs 1993 dL_law_1292 (by decide) rfl (tail _)
set_option maxRecDepth 100000 in
theorem p_spoil {n : Nat} {xs : Nat → Int32} {i : Nat} (hn : n ≤ 100000) (hi : i + 6 ≤ n) (tail : ∀ h, lWP n xs 1993 (lLs i) [] h) : lWP n xs 1297 (lLs i) [] h00 := by
  refine l_aload dL_law_1297 rfl ?_
  refine l_callV (k := 0) (i := 0) (d := 0 + 5) (S := []) [] dL_law_1298 ml_L_190 ok_X11_spoil vi_X11_spoil rfl rfl (by decide) rfl (Nat.le_of_ble_eq_true rfl) (by decide) ?_
  refine c_X11_spoil (d := 0) (h := h00) J0 (fun g hg => ?_)
  show lWP n xs 1301 (lLs i) [aI (an_spoil h00)] g
  refine l_aload dL_law_1301 rfl ?_
  refine l_callV (k := 12) (i := 0) (d := 0 + 6) (S := [aI (an_spoil h00)]) [] dL_law_1302 ml_L_193 ok_X12_spoil vi_X12_spoil rfl rfl (by decide) rfl (Nat.le_of_ble_eq_true rfl) (by decide) ?_
  refine c_X12_spoil (d := 0) (gg := h00) (h := g) J0 (R0 (hg.1 36 0 rfl (by decide))) (K0 (hg.1 36 0 rfl (by decide))) hg.2.2 (fun g2 hg2 => ?_)
  exact l_eqs 1993 dL_law_1305 (by decide) rfl (tail _)
set_option maxRecDepth 100000 in
theorem p_course {n : Nat} {xs : Nat → Int32} {i : Nat} (hn : n ≤ 100000) (hi : i + 6 ≤ n) (tail : ∀ h, lWP n xs 1993 (lLs i) [] h) : lWP n xs 1310 (lLs i) [] h00 := by
  refine l_aload dL_law_1310 rfl ?_
  refine l_aload dL_law_1311 rfl ?_
  refine l_iload dL_law_1312 rfl ?_
  refine l_iconst dL_law_1313 ?_
  refine l_iadd dL_law_1314 ?_
  refine l_sld (i + 1) dL_law_1315 (by omega) (by omega) hn ?_
  refine l_callV (k := 0) (i := 0) (d := 0 + 6) (S := []) [aI (sv xs (i + 1))] dL_law_1316 ml_L_194 ok_X11_course vi_X11_course rfl rfl (by decide) rfl (Nat.le_of_ble_eq_true rfl) (by decide) ?_
  refine c_X11_course (d := 0) (h := h00) (sv xs (i + 1)) J0 (sv_rng _ _) (fun g hg => ?_)
  show lWP n xs 1319 (lLs i) [aI (an_course h00 (sv xs (i + 1)))] g
  refine l_aload dL_law_1319 rfl ?_
  refine l_aload dL_law_1320 rfl ?_
  refine l_iload dL_law_1321 rfl ?_
  refine l_iconst dL_law_1322 ?_
  refine l_iadd dL_law_1323 ?_
  refine l_sld (i + 1) dL_law_1324 (by omega) (by omega) hn ?_
  refine l_callV (k := 12) (i := 0) (d := 0 + 7) (S := [aI (an_course h00 (sv xs (i + 1)))]) [aI (sv xs (i + 1))] dL_law_1325 ml_L_197 ok_X12_course vi_X12_course rfl rfl (by decide) rfl (Nat.le_of_ble_eq_true rfl) (by decide) ?_
  refine c_X12_course (d := 0) (gg := h00) (h := g) (sv xs (i + 1)) J0 (R0 (hg.1 36 0 rfl (by decide))) (K0 (hg.1 36 0 rfl (by decide))) hg.2.2 (sv_rng _ _) (fun g2 hg2 => ?_)
  exact l_eqs 1993 dL_law_1328 (by decide) rfl (tail _)
set_option maxRecDepth 100000 in
theorem p_ends {n : Nat} {xs : Nat → Int32} {i : Nat} (hn : n ≤ 100000) (hi : i + 6 ≤ n) (tail : ∀ h, lWP n xs 1993 (lLs i) [] h) : lWP n xs 1333 (lLs i) [] h00 := by
  refine l_aload dL_law_1333 rfl ?_
  refine l_aload dL_law_1334 rfl ?_
  refine l_iload dL_law_1335 rfl ?_
  refine l_iconst dL_law_1336 ?_
  refine l_iadd dL_law_1337 ?_
  refine l_sld (i + 1) dL_law_1338 (by omega) (by omega) hn ?_
  refine l_callV (k := 0) (i := 0) (d := 0 + 6) (S := []) [aI (sv xs (i + 1))] dL_law_1339 ml_L_198 ok_X11_ends vi_X11_ends rfl rfl (by decide) rfl (Nat.le_of_ble_eq_true rfl) (by decide) ?_
  refine c_X11_ends (d := 0) (h := h00) (sv xs (i + 1)) J0 (sv_rng _ _) (fun g hg => ?_)
  show lWP n xs 1342 (lLs i) [aI (an_ends h00 (sv xs (i + 1)))] g
  refine l_aload dL_law_1342 rfl ?_
  refine l_aload dL_law_1343 rfl ?_
  refine l_iload dL_law_1344 rfl ?_
  refine l_iconst dL_law_1345 ?_
  refine l_iadd dL_law_1346 ?_
  refine l_sld (i + 1) dL_law_1347 (by omega) (by omega) hn ?_
  refine l_callV (k := 12) (i := 0) (d := 0 + 7) (S := [aI (an_ends h00 (sv xs (i + 1)))]) [aI (sv xs (i + 1))] dL_law_1348 ml_L_201 ok_X12_ends vi_X12_ends rfl rfl (by decide) rfl (Nat.le_of_ble_eq_true rfl) (by decide) ?_
  refine c_X12_ends (d := 0) (gg := h00) (h := g) (sv xs (i + 1)) J0 (R0 (hg.1 36 0 rfl (by decide))) (K0 (hg.1 36 0 rfl (by decide))) hg.2.2 (sv_rng _ _) (fun g2 hg2 => ?_)
  exact l_eqs 1993 dL_law_1351 (by decide) rfl (tail _)
set_option maxRecDepth 100000 in
theorem p_left {n : Nat} {xs : Nat → Int32} {i : Nat} (hn : n ≤ 100000) (hi : i + 6 ≤ n) (tail : ∀ h, lWP n xs 1993 (lLs i) [] h) : lWP n xs 1356 (lLs i) [] h00 := by
  refine l_aload dL_law_1356 rfl ?_
  refine l_aload dL_law_1357 rfl ?_
  refine l_iload dL_law_1358 rfl ?_
  refine l_iconst dL_law_1359 ?_
  refine l_iadd dL_law_1360 ?_
  refine l_sld (i + 1) dL_law_1361 (by omega) (by omega) hn ?_
  refine l_aload dL_law_1362 rfl ?_
  refine l_iload dL_law_1363 rfl ?_
  refine l_iconst dL_law_1364 ?_
  refine l_iadd dL_law_1365 ?_
  refine l_sld (i + 2) dL_law_1366 (by omega) (by omega) hn ?_
  refine l_callV (k := 0) (i := 0) (d := 0 + 6) (S := []) [aI (sv xs (i + 1)), aI (sv xs (i + 2))] dL_law_1367 ml_L_202 ok_X11_left vi_X11_left rfl rfl (by decide) rfl (Nat.le_of_ble_eq_true rfl) (by decide) ?_
  refine c_X11_left (d := 0) (h := h00) (sv xs (i + 1)) (sv xs (i + 2)) J0 (sv_rng _ _) (sv_rng _ _) (fun g hg => ?_)
  show lWP n xs 1370 (lLs i) [aI (an_left h00 (sv xs (i + 1)) (sv xs (i + 2)))] g
  refine l_aload dL_law_1370 rfl ?_
  refine l_aload dL_law_1371 rfl ?_
  refine l_iload dL_law_1372 rfl ?_
  refine l_iconst dL_law_1373 ?_
  refine l_iadd dL_law_1374 ?_
  refine l_sld (i + 1) dL_law_1375 (by omega) (by omega) hn ?_
  refine l_aload dL_law_1376 rfl ?_
  refine l_iload dL_law_1377 rfl ?_
  refine l_iconst dL_law_1378 ?_
  refine l_iadd dL_law_1379 ?_
  refine l_sld (i + 2) dL_law_1380 (by omega) (by omega) hn ?_
  refine l_callV (k := 12) (i := 0) (d := 0 + 7) (S := [aI (an_left h00 (sv xs (i + 1)) (sv xs (i + 2)))]) [aI (sv xs (i + 1)), aI (sv xs (i + 2))] dL_law_1381 ml_L_205 ok_X12_left vi_X12_left rfl rfl (by decide) rfl (Nat.le_of_ble_eq_true rfl) (by decide) ?_
  refine c_X12_left (d := 0) (gg := h00) (h := g) (sv xs (i + 1)) (sv xs (i + 2)) J0 (R0 (hg.1 36 0 rfl (by decide))) (K0 (hg.1 36 0 rfl (by decide))) hg.2.2 (sv_rng _ _) (sv_rng _ _) (fun g2 hg2 => ?_)
  exact l_eqs 1993 dL_law_1384 (by decide) rfl (tail _)
set_option maxRecDepth 100000 in
theorem p_law {n : Nat} {xs : Nat → Int32} {i : Nat} (hn : n ≤ 100000) (hi : i + 6 ≤ n) (tail : ∀ h, lWP n xs 1993 (lLs i) [] h) : lWP n xs 1389 (lLs i) [] h00 := by
  refine l_aload dL_law_1389 rfl ?_
  refine l_aload dL_law_1390 rfl ?_
  refine l_iload dL_law_1391 rfl ?_
  refine l_iconst dL_law_1392 ?_
  refine l_iadd dL_law_1393 ?_
  refine l_sld (i + 1) dL_law_1394 (by omega) (by omega) hn ?_
  refine l_callV (k := 0) (i := 0) (d := 0 + 6) (S := []) [aI (sv xs (i + 1))] dL_law_1395 ml_L_206 ok_X11_law vi_X11_law rfl rfl (by decide) rfl (Nat.le_of_ble_eq_true rfl) (by decide) ?_
  refine c_X11_law (d := 0) (h := h00) (sv xs (i + 1)) J0 (sv_rng _ _) (fun g hg => ?_)
  show lWP n xs 1398 (lLs i) [aI (an_law h00 (sv xs (i + 1)))] g
  refine l_aload dL_law_1398 rfl ?_
  refine l_aload dL_law_1399 rfl ?_
  refine l_iload dL_law_1400 rfl ?_
  refine l_iconst dL_law_1401 ?_
  refine l_iadd dL_law_1402 ?_
  refine l_sld (i + 1) dL_law_1403 (by omega) (by omega) hn ?_
  refine l_callV (k := 12) (i := 0) (d := 0 + 7) (S := [aI (an_law h00 (sv xs (i + 1)))]) [aI (sv xs (i + 1))] dL_law_1404 ml_L_209 ok_X12_law vi_X12_law rfl rfl (by decide) rfl (Nat.le_of_ble_eq_true rfl) (by decide) ?_
  refine c_X12_law (d := 0) (gg := h00) (h := g) (sv xs (i + 1)) J0 (R0 (hg.1 36 0 rfl (by decide))) (K0 (hg.1 36 0 rfl (by decide))) hg.2.2 (sv_rng _ _) (fun g2 hg2 => ?_)
  exact l_eqs 1993 dL_law_1407 (by decide) rfl (tail _)
set_option maxRecDepth 100000 in
theorem p_raisers {n : Nat} {xs : Nat → Int32} {i : Nat} (hn : n ≤ 100000) (hi : i + 6 ≤ n) (tail : ∀ h, lWP n xs 1993 (lLs i) [] h) : lWP n xs 1412 (lLs i) [] h00 := by
  refine l_aload dL_law_1412 rfl ?_
  refine l_callV (k := 0) (i := 0) (d := 0 + 4) (S := []) [] dL_law_1413 ml_L_210 ok_X11_raisers vi_X11_raisers rfl rfl (by decide) rfl (Nat.le_of_ble_eq_true rfl) (by decide) ?_
  refine c_X11_raisers (d := 0) (h := h00) J0 (fun g hg => ?_)
  show lWP n xs 1416 (lLs i) [aI (an_raisers h00)] g
  refine l_aload dL_law_1416 rfl ?_
  refine l_callV (k := 12) (i := 0) (d := 0 + 6) (S := [aI (an_raisers h00)]) [] dL_law_1417 ml_L_213 ok_X12_raisers vi_X12_raisers rfl rfl (by decide) rfl (Nat.le_of_ble_eq_true rfl) (by decide) ?_
  refine c_X12_raisers (d := 0) (gg := h00) (h := g) J0 (R0 (hg.1 36 0 rfl (by decide))) (K0 (hg.1 36 0 rfl (by decide))) hg.2.2 (fun g2 hg2 => ?_)
  exact l_eqs 1993 dL_law_1420 (by decide) rfl (tail _)
set_option maxRecDepth 100000 in
theorem p_old {n : Nat} {xs : Nat → Int32} {i : Nat} (hn : n ≤ 100000) (hi : i + 6 ≤ n) (tail : ∀ h, lWP n xs 1993 (lLs i) [] h) : lWP n xs 1425 (lLs i) [] h00 := by
  refine l_aload dL_law_1425 rfl ?_
  refine l_aload dL_law_1426 rfl ?_
  refine l_iload dL_law_1427 rfl ?_
  refine l_iconst dL_law_1428 ?_
  refine l_iadd dL_law_1429 ?_
  refine l_sld (i + 1) dL_law_1430 (by omega) (by omega) hn ?_
  refine l_callV (k := 0) (i := 0) (d := 0 + 5) (S := []) [aI (sv xs (i + 1))] dL_law_1431 ml_L_214 ok_X11_old vi_X11_old rfl rfl (by decide) rfl (Nat.le_of_ble_eq_true rfl) (by decide) ?_
  refine c_X11_old (d := 0) (h := h00) (sv xs (i + 1)) J0 (sv_rng _ _) (fun g hg => ?_)
  show lWP n xs 1434 (lLs i) [aI (an_old h00 (sv xs (i + 1)))] g
  refine l_aload dL_law_1434 rfl ?_
  refine l_aload dL_law_1435 rfl ?_
  refine l_iload dL_law_1436 rfl ?_
  refine l_iconst dL_law_1437 ?_
  refine l_iadd dL_law_1438 ?_
  refine l_sld (i + 1) dL_law_1439 (by omega) (by omega) hn ?_
  refine l_callV (k := 12) (i := 0) (d := 0 + 7) (S := [aI (an_old h00 (sv xs (i + 1)))]) [aI (sv xs (i + 1))] dL_law_1440 ml_L_217 ok_X12_old vi_X12_old rfl rfl (by decide) rfl (Nat.le_of_ble_eq_true rfl) (by decide) ?_
  refine c_no_old (d := 0) (gg := h00) (h := g) (sv xs (i + 1)) J0 (R0 (hg.1 36 0 rfl (by decide))) (K0 (hg.1 36 0 rfl (by decide))) (S0 (hg.1 46 0 rfl (by decide)) (hg.1 47 0 rfl (by decide)) (hg.1 48 0 rfl (by decide))) n36 (sv_rng _ _) ?_
  exact l_eqs 1993 dL_law_1443 (by decide) (by unfold an_old; rw [if_neg (fun q => n36 q.2.1)]; unfold mLdR; rw [if_neg (fun q => n36 q.2.1)]) (tail _)
set_option maxRecDepth 100000 in
theorem p_ask {n : Nat} {xs : Nat → Int32} {i : Nat} (hn : n ≤ 100000) (hi : i + 6 ≤ n) (tail : ∀ h, lWP n xs 1993 (lLs i) [] h) : lWP n xs 1448 (lLs i) [] h00 := by
  refine l_aload dL_law_1448 rfl ?_
  refine l_aload dL_law_1449 rfl ?_
  refine l_iload dL_law_1450 rfl ?_
  refine l_iconst dL_law_1451 ?_
  refine l_iadd dL_law_1452 ?_
  refine l_sld (i + 1) dL_law_1453 (by omega) (by omega) hn ?_
  refine l_aload dL_law_1454 rfl ?_
  refine l_iload dL_law_1455 rfl ?_
  refine l_iconst dL_law_1456 ?_
  refine l_iadd dL_law_1457 ?_
  refine l_sld (i + 2) dL_law_1458 (by omega) (by omega) hn ?_
  refine l_callV (k := 0) (i := 0) (d := 0 + 5) (S := []) [aI (sv xs (i + 1)), aI (sv xs (i + 2))] dL_law_1459 ml_L_218 ok_X11_ask vi_X11_ask rfl rfl (by decide) rfl (Nat.le_of_ble_eq_true rfl) (by decide) ?_
  refine c_X11_ask (d := 0) (h := h00) (sv xs (i + 1)) (sv xs (i + 2)) J0 (sv_rng _ _) (sv_rng _ _) (fun g hg => ?_)
  show lWP n xs 1462 (lLs i) [aI (an_ask h00 (sv xs (i + 1)) (sv xs (i + 2)))] g
  refine l_aload dL_law_1462 rfl ?_
  refine l_aload dL_law_1463 rfl ?_
  refine l_iload dL_law_1464 rfl ?_
  refine l_iconst dL_law_1465 ?_
  refine l_iadd dL_law_1466 ?_
  refine l_sld (i + 1) dL_law_1467 (by omega) (by omega) hn ?_
  refine l_aload dL_law_1468 rfl ?_
  refine l_iload dL_law_1469 rfl ?_
  refine l_iconst dL_law_1470 ?_
  refine l_iadd dL_law_1471 ?_
  refine l_sld (i + 2) dL_law_1472 (by omega) (by omega) hn ?_
  refine l_callV (k := 12) (i := 0) (d := 0 + 7) (S := [aI (an_ask h00 (sv xs (i + 1)) (sv xs (i + 2)))]) [aI (sv xs (i + 1)), aI (sv xs (i + 2))] dL_law_1473 ml_L_221 ok_X12_ask vi_X12_ask rfl rfl (by decide) rfl (Nat.le_of_ble_eq_true rfl) (by decide) ?_
  refine c_no_ask (d := 0) (gg := h00) (h := g) (sv xs (i + 1)) (sv xs (i + 2)) J0 (R0 (hg.1 36 0 rfl (by decide))) (K0 (hg.1 36 0 rfl (by decide))) (S0 (hg.1 46 0 rfl (by decide)) (hg.1 47 0 rfl (by decide)) (hg.1 48 0 rfl (by decide))) n36 (sv_rng _ _) (sv_rng _ _) ?_
  exact l_eqs 1993 dL_law_1476 (by decide) (by unfold an_ask; rw [if_neg (by have n41 : h00 4 0 1 = 0 := rfl; omega)]) (tail _)
set_option maxRecDepth 100000 in
theorem p_leaves {n : Nat} {xs : Nat → Int32} {i : Nat} (hn : n ≤ 100000) (hi : i + 6 ≤ n) (tail : ∀ h, lWP n xs 1993 (lLs i) [] h) : lWP n xs 1481 (lLs i) [] h00 := by
  refine l_aload dL_law_1481 rfl ?_
  refine l_aload dL_law_1482 rfl ?_
  refine l_iload dL_law_1483 rfl ?_
  refine l_iconst dL_law_1484 ?_
  refine l_iadd dL_law_1485 ?_
  refine l_sld (i + 1) dL_law_1486 (by omega) (by omega) hn ?_
  refine l_aload dL_law_1487 rfl ?_
  refine l_iload dL_law_1488 rfl ?_
  refine l_iconst dL_law_1489 ?_
  refine l_iadd dL_law_1490 ?_
  refine l_sld (i + 2) dL_law_1491 (by omega) (by omega) hn ?_
  refine l_callV (k := 0) (i := 0) (d := 0 + 5) (S := []) [aI (sv xs (i + 1)), aI (sv xs (i + 2))] dL_law_1492 ml_L_222 ok_X11_leaves vi_X11_leaves rfl rfl (by decide) rfl (Nat.le_of_ble_eq_true rfl) (by decide) ?_
  refine c_X11_leaves (d := 0) (h := h00) (sv xs (i + 1)) (sv xs (i + 2)) J0 (sv_rng _ _) (sv_rng _ _) (fun g hg => ?_)
  show lWP n xs 1495 (lLs i) [aI (an_leaves h00 (sv xs (i + 1)) (sv xs (i + 2)))] g
  refine l_aload dL_law_1495 rfl ?_
  refine l_aload dL_law_1496 rfl ?_
  refine l_iload dL_law_1497 rfl ?_
  refine l_iconst dL_law_1498 ?_
  refine l_iadd dL_law_1499 ?_
  refine l_sld (i + 1) dL_law_1500 (by omega) (by omega) hn ?_
  refine l_aload dL_law_1501 rfl ?_
  refine l_iload dL_law_1502 rfl ?_
  refine l_iconst dL_law_1503 ?_
  refine l_iadd dL_law_1504 ?_
  refine l_sld (i + 2) dL_law_1505 (by omega) (by omega) hn ?_
  refine l_callV (k := 12) (i := 0) (d := 0 + 7) (S := [aI (an_leaves h00 (sv xs (i + 1)) (sv xs (i + 2)))]) [aI (sv xs (i + 1)), aI (sv xs (i + 2))] dL_law_1506 ml_L_225 ok_X12_leaves vi_X12_leaves rfl rfl (by decide) rfl (Nat.le_of_ble_eq_true rfl) (by decide) ?_
  refine c_no_leaves (d := 0) (gg := h00) (h := g) (sv xs (i + 1)) (sv xs (i + 2)) J0 (R0 (hg.1 36 0 rfl (by decide))) (K0 (hg.1 36 0 rfl (by decide))) (S0 (hg.1 46 0 rfl (by decide)) (hg.1 47 0 rfl (by decide)) (hg.1 48 0 rfl (by decide))) n36 (sv_rng _ _) (sv_rng _ _) ?_
  exact l_eqs 1993 dL_law_1509 (by decide) (by unfold an_leaves; rw [if_neg (by have n41 : h00 4 0 1 = 0 := rfl; omega)]) (tail _)
set_option maxRecDepth 100000 in
theorem p_doubts {n : Nat} {xs : Nat → Int32} {i : Nat} (hn : n ≤ 100000) (hi : i + 6 ≤ n) (tail : ∀ h, lWP n xs 1993 (lLs i) [] h) : lWP n xs 1514 (lLs i) [] h00 := by
  refine l_aload dL_law_1514 rfl ?_
  refine l_aload dL_law_1515 rfl ?_
  refine l_iload dL_law_1516 rfl ?_
  refine l_iconst dL_law_1517 ?_
  refine l_iadd dL_law_1518 ?_
  refine l_sld (i + 1) dL_law_1519 (by omega) (by omega) hn ?_
  refine l_callV (k := 0) (i := 0) (d := 0 + 5) (S := []) [aI (sv xs (i + 1))] dL_law_1520 ml_L_226 ok_X11_doubts vi_X11_doubts rfl rfl (by decide) rfl (Nat.le_of_ble_eq_true rfl) (by decide) ?_
  refine c_X11_doubts (d := 0) (h := h00) (sv xs (i + 1)) J0 (sv_rng _ _) (fun g hg => ?_)
  show lWP n xs 1523 (lLs i) [aI (an_doubts h00 (sv xs (i + 1)))] g
  refine l_aload dL_law_1523 rfl ?_
  refine l_aload dL_law_1524 rfl ?_
  refine l_iload dL_law_1525 rfl ?_
  refine l_iconst dL_law_1526 ?_
  refine l_iadd dL_law_1527 ?_
  refine l_sld (i + 1) dL_law_1528 (by omega) (by omega) hn ?_
  refine l_callV (k := 12) (i := 0) (d := 0 + 7) (S := [aI (an_doubts h00 (sv xs (i + 1)))]) [aI (sv xs (i + 1))] dL_law_1529 ml_L_229 ok_X12_doubts vi_X12_doubts rfl rfl (by decide) rfl (Nat.le_of_ble_eq_true rfl) (by decide) ?_
  refine c_no_doubts (d := 0) (gg := h00) (h := g) (sv xs (i + 1)) J0 (R0 (hg.1 36 0 rfl (by decide))) (K0 (hg.1 36 0 rfl (by decide))) (S0 (hg.1 46 0 rfl (by decide)) (hg.1 47 0 rfl (by decide)) (hg.1 48 0 rfl (by decide))) n36 (sv_rng _ _) ?_
  exact l_eqs 1993 dL_law_1532 (by decide) (by unfold an_doubts; rw [if_neg (fun q => n36 q.2.1)]; unfold mLdR; rw [if_neg (fun q => n36 q.2.1)]) (tail _)
set_option maxRecDepth 100000 in
theorem p_stands {n : Nat} {xs : Nat → Int32} {i : Nat} (hn : n ≤ 100000) (hi : i + 6 ≤ n) (tail : ∀ h, lWP n xs 1993 (lLs i) [] h) : lWP n xs 1537 (lLs i) [] h00 := by
  refine l_aload dL_law_1537 rfl ?_
  refine l_aload dL_law_1538 rfl ?_
  refine l_iload dL_law_1539 rfl ?_
  refine l_iconst dL_law_1540 ?_
  refine l_iadd dL_law_1541 ?_
  refine l_sld (i + 1) dL_law_1542 (by omega) (by omega) hn ?_
  refine l_callV (k := 0) (i := 0) (d := 0 + 4) (S := []) [aI (sv xs (i + 1))] dL_law_1543 ml_L_230 ok_X11_stands vi_X11_stands rfl rfl (by decide) rfl (Nat.le_of_ble_eq_true rfl) (by decide) ?_
  refine c_X11_stands (d := 0) (h := h00) (sv xs (i + 1)) J0 (sv_rng _ _) (fun g hg => ?_)
  show lWP n xs 1546 (lLs i) [aI (an_stands h00 (sv xs (i + 1)))] g
  refine l_aload dL_law_1546 rfl ?_
  refine l_aload dL_law_1547 rfl ?_
  refine l_iload dL_law_1548 rfl ?_
  refine l_iconst dL_law_1549 ?_
  refine l_iadd dL_law_1550 ?_
  refine l_sld (i + 1) dL_law_1551 (by omega) (by omega) hn ?_
  refine l_callV (k := 12) (i := 0) (d := 0 + 3) (S := [aI (an_stands h00 (sv xs (i + 1)))]) [aI (sv xs (i + 1))] dL_law_1552 ml_L_233 ok_X12_stands vi_X12_stands rfl rfl (by decide) rfl (Nat.le_of_ble_eq_true rfl) (by decide) ?_
  refine c_X12_stands (d := 0) (gg := h00) (h := g) (sv xs (i + 1)) J0 (R0 (hg.1 36 0 rfl (by decide))) (S0 (hg.1 46 0 rfl (by decide)) (hg.1 47 0 rfl (by decide)) (hg.1 48 0 rfl (by decide))) (sv_rng _ _) ?_
  exact l_eqs 1993 dL_law_1555 (by decide) rfl (tail _)
set_option maxRecDepth 100000 in
theorem p_struck {n : Nat} {xs : Nat → Int32} {i : Nat} (hn : n ≤ 100000) (hi : i + 6 ≤ n) (tail : ∀ h, lWP n xs 1993 (lLs i) [] h) : lWP n xs 1560 (lLs i) [] h00 := by
  refine l_aload dL_law_1560 rfl ?_
  refine l_aload dL_law_1561 rfl ?_
  refine l_iload dL_law_1562 rfl ?_
  refine l_iconst dL_law_1563 ?_
  refine l_iadd dL_law_1564 ?_
  refine l_sld (i + 1) dL_law_1565 (by omega) (by omega) hn ?_
  refine l_aload dL_law_1566 rfl ?_
  refine l_iload dL_law_1567 rfl ?_
  refine l_iconst dL_law_1568 ?_
  refine l_iadd dL_law_1569 ?_
  refine l_sld (i + 2) dL_law_1570 (by omega) (by omega) hn ?_
  refine l_callV (k := 0) (i := 0) (d := 0 + 4) (S := []) [aI (sv xs (i + 1)), aI (sv xs (i + 2))] dL_law_1571 ml_L_234 ok_X11_struck vi_X11_struck rfl rfl (by decide) rfl (Nat.le_of_ble_eq_true rfl) (by decide) ?_
  refine c_X11_struck (d := 0) (h := h00) (sv xs (i + 1)) (sv xs (i + 2)) J0 (sv_rng _ _) (sv_rng _ _) (fun g hg => ?_)
  show lWP n xs 1574 (lLs i) [aI (an_struck h00 (sv xs (i + 1)) (sv xs (i + 2)))] g
  refine l_aload dL_law_1574 rfl ?_
  refine l_aload dL_law_1575 rfl ?_
  refine l_iload dL_law_1576 rfl ?_
  refine l_iconst dL_law_1577 ?_
  refine l_iadd dL_law_1578 ?_
  refine l_sld (i + 1) dL_law_1579 (by omega) (by omega) hn ?_
  refine l_aload dL_law_1580 rfl ?_
  refine l_iload dL_law_1581 rfl ?_
  refine l_iconst dL_law_1582 ?_
  refine l_iadd dL_law_1583 ?_
  refine l_sld (i + 2) dL_law_1584 (by omega) (by omega) hn ?_
  refine l_callV (k := 12) (i := 0) (d := 0 + 3) (S := [aI (an_struck h00 (sv xs (i + 1)) (sv xs (i + 2)))]) [aI (sv xs (i + 1)), aI (sv xs (i + 2))] dL_law_1585 ml_L_237 ok_X12_struck vi_X12_struck rfl rfl (by decide) rfl (Nat.le_of_ble_eq_true rfl) (by decide) ?_
  refine c_no_struck (d := 0) (gg := h00) (h := g) (sv xs (i + 1)) (sv xs (i + 2)) J0 (R0 (hg.1 36 0 rfl (by decide))) n36 (sv_rng _ _) (sv_rng _ _) ?_
  exact l_eqs 1993 dL_law_1588 (by decide) (by unfold an_struck; split <;> first | rfl | (rw [if_neg (fun q => n36 q.2.1)]; unfold mRlR; rw [if_neg (fun q => n36 q.2.1)])) (tail _)
set_option maxRecDepth 100000 in
theorem p_drawn {n : Nat} {xs : Nat → Int32} {i : Nat} (hn : n ≤ 100000) (hi : i + 6 ≤ n) (tail : ∀ h, lWP n xs 1993 (lLs i) [] h) : lWP n xs 1593 (lLs i) [] h00 := by
  refine l_aload dL_law_1593 rfl ?_
  refine l_aload dL_law_1594 rfl ?_
  refine l_iload dL_law_1595 rfl ?_
  refine l_iconst dL_law_1596 ?_
  refine l_iadd dL_law_1597 ?_
  refine l_sld (i + 1) dL_law_1598 (by omega) (by omega) hn ?_
  refine l_aload dL_law_1599 rfl ?_
  refine l_iload dL_law_1600 rfl ?_
  refine l_iconst dL_law_1601 ?_
  refine l_iadd dL_law_1602 ?_
  refine l_sld (i + 2) dL_law_1603 (by omega) (by omega) hn ?_
  refine l_aload dL_law_1604 rfl ?_
  refine l_iload dL_law_1605 rfl ?_
  refine l_iconst dL_law_1606 ?_
  refine l_iadd dL_law_1607 ?_
  refine l_sld (i + 3) dL_law_1608 (by omega) (by omega) hn ?_
  refine l_callV (k := 0) (i := 0) (d := 0 + 5) (S := []) [aI (sv xs (i + 1)), aI (sv xs (i + 2)), aI (sv xs (i + 3))] dL_law_1609 ml_L_238 ok_X11_drawn vi_X11_drawn rfl rfl (by decide) rfl (Nat.le_of_ble_eq_true rfl) (by decide) ?_
  refine c_X11_drawn (d := 0) (h := h00) (sv xs (i + 1)) (sv xs (i + 2)) (sv xs (i + 3)) J0 (sv_rng _ _) (sv_rng _ _) (sv_rng _ _) (fun g hg => ?_)
  show lWP n xs 1612 (lLs i) [aI (an_drawn h00 (sv xs (i + 1)) (sv xs (i + 2)) (sv xs (i + 3)))] g
  refine l_aload dL_law_1612 rfl ?_
  refine l_aload dL_law_1613 rfl ?_
  refine l_iload dL_law_1614 rfl ?_
  refine l_iconst dL_law_1615 ?_
  refine l_iadd dL_law_1616 ?_
  refine l_sld (i + 1) dL_law_1617 (by omega) (by omega) hn ?_
  refine l_aload dL_law_1618 rfl ?_
  refine l_iload dL_law_1619 rfl ?_
  refine l_iconst dL_law_1620 ?_
  refine l_iadd dL_law_1621 ?_
  refine l_sld (i + 2) dL_law_1622 (by omega) (by omega) hn ?_
  refine l_aload dL_law_1623 rfl ?_
  refine l_iload dL_law_1624 rfl ?_
  refine l_iconst dL_law_1625 ?_
  refine l_iadd dL_law_1626 ?_
  refine l_sld (i + 3) dL_law_1627 (by omega) (by omega) hn ?_
  refine l_callV (k := 12) (i := 0) (d := 0 + 7) (S := [aI (an_drawn h00 (sv xs (i + 1)) (sv xs (i + 2)) (sv xs (i + 3)))]) [aI (sv xs (i + 1)), aI (sv xs (i + 2)), aI (sv xs (i + 3))] dL_law_1628 ml_L_241 ok_X12_drawn vi_X12_drawn rfl rfl (by decide) rfl (Nat.le_of_ble_eq_true rfl) (by decide) ?_
  refine c_X12_drawn (d := 0) (gg := h00) (h := g) (sv xs (i + 1)) (sv xs (i + 2)) (sv xs (i + 3)) J0 (R0 (hg.1 36 0 rfl (by decide))) (K0 (hg.1 36 0 rfl (by decide))) hg.2.2 (sv_rng _ _) (sv_rng _ _) (sv_rng _ _) (fun g2 hg2 => ?_)
  exact l_eqs 1993 dL_law_1631 (by decide) rfl (tail _)
set_option maxRecDepth 100000 in
theorem p_luck {n : Nat} {xs : Nat → Int32} {i : Nat} (hn : n ≤ 100000) (hi : i + 6 ≤ n) (tail : ∀ h, lWP n xs 1993 (lLs i) [] h) : lWP n xs 1636 (lLs i) [] h00 := by
  refine l_aload dL_law_1636 rfl ?_
  refine l_aload dL_law_1637 rfl ?_
  refine l_iload dL_law_1638 rfl ?_
  refine l_iconst dL_law_1639 ?_
  refine l_iadd dL_law_1640 ?_
  refine l_sld (i + 1) dL_law_1641 (by omega) (by omega) hn ?_
  refine l_aload dL_law_1642 rfl ?_
  refine l_iload dL_law_1643 rfl ?_
  refine l_iconst dL_law_1644 ?_
  refine l_iadd dL_law_1645 ?_
  refine l_sld (i + 2) dL_law_1646 (by omega) (by omega) hn ?_
  refine l_aload dL_law_1647 rfl ?_
  refine l_iload dL_law_1648 rfl ?_
  refine l_iconst dL_law_1649 ?_
  refine l_iadd dL_law_1650 ?_
  refine l_sld (i + 3) dL_law_1651 (by omega) (by omega) hn ?_
  refine l_callV (k := 0) (i := 0) (d := 0 + 5) (S := []) [aI (sv xs (i + 1)), aI (sv xs (i + 2)), aI (sv xs (i + 3))] dL_law_1652 ml_L_242 ok_X11_luck vi_X11_luck rfl rfl (by decide) rfl (Nat.le_of_ble_eq_true rfl) (by decide) ?_
  refine c_X11_luck (d := 0) (h := h00) (sv xs (i + 1)) (sv xs (i + 2)) (sv xs (i + 3)) J0 (sv_rng _ _) (sv_rng _ _) (sv_rng _ _) (fun g hg => ?_)
  show lWP n xs 1655 (lLs i) [aI (an_luck h00 (sv xs (i + 1)) (sv xs (i + 2)) (sv xs (i + 3)))] g
  refine l_aload dL_law_1655 rfl ?_
  refine l_aload dL_law_1656 rfl ?_
  refine l_iload dL_law_1657 rfl ?_
  refine l_iconst dL_law_1658 ?_
  refine l_iadd dL_law_1659 ?_
  refine l_sld (i + 1) dL_law_1660 (by omega) (by omega) hn ?_
  refine l_aload dL_law_1661 rfl ?_
  refine l_iload dL_law_1662 rfl ?_
  refine l_iconst dL_law_1663 ?_
  refine l_iadd dL_law_1664 ?_
  refine l_sld (i + 2) dL_law_1665 (by omega) (by omega) hn ?_
  refine l_aload dL_law_1666 rfl ?_
  refine l_iload dL_law_1667 rfl ?_
  refine l_iconst dL_law_1668 ?_
  refine l_iadd dL_law_1669 ?_
  refine l_sld (i + 3) dL_law_1670 (by omega) (by omega) hn ?_
  refine l_callV (k := 12) (i := 0) (d := 0 + 7) (S := [aI (an_luck h00 (sv xs (i + 1)) (sv xs (i + 2)) (sv xs (i + 3)))]) [aI (sv xs (i + 1)), aI (sv xs (i + 2)), aI (sv xs (i + 3))] dL_law_1671 ml_L_245 ok_X12_luck vi_X12_luck rfl rfl (by decide) rfl (Nat.le_of_ble_eq_true rfl) (by decide) ?_
  refine c_X12_luck (d := 0) (gg := h00) (h := g) (sv xs (i + 1)) (sv xs (i + 2)) (sv xs (i + 3)) J0 (R0 (hg.1 36 0 rfl (by decide))) (K0 (hg.1 36 0 rfl (by decide))) hg.2.2 (sv_rng _ _) (sv_rng _ _) (sv_rng _ _) (fun g2 hg2 => ?_)
  exact l_eqs 1993 dL_law_1674 (by decide) rfl (tail _)
set_option maxRecDepth 100000 in
theorem p_tell {n : Nat} {xs : Nat → Int32} {i : Nat} (hn : n ≤ 100000) (hi : i + 6 ≤ n) (tail : ∀ h, lWP n xs 1993 (lLs i) [] h) : lWP n xs 1679 (lLs i) [] h00 := by
  refine l_aload dL_law_1679 rfl ?_
  refine l_aload dL_law_1680 rfl ?_
  refine l_iload dL_law_1681 rfl ?_
  refine l_iconst dL_law_1682 ?_
  refine l_iadd dL_law_1683 ?_
  refine l_sld (i + 1) dL_law_1684 (by omega) (by omega) hn ?_
  refine l_callV (k := 0) (i := 0) (d := 0 + 2) (S := []) [aI (sv xs (i + 1))] dL_law_1685 ml_L_246 ok_X11_tell vi_X11_tell rfl rfl (by decide) rfl (Nat.le_of_ble_eq_true rfl) (by decide) ?_
  have n41 : h00 4 0 1 = 0 := rfl
  have n53 : h00 5 0 3 = 0 := rfl
  have n36 : ¬ 0 < h00 3 0 6 := n36
  have n11 : h00 1 0 1 = 0 := rfl
  refine c_X11_tell (d := 0) (h := h00) (sv xs (i + 1)) J0 (sv_rng _ _) ⟨fun q0 => ?_, fun q0 q1 => ?_, fun q0 q1 => ?_⟩
  · show lWP n xs 1688 (lLs i) [aI (-2)] h00
    refine l_aload dL_law_1688 rfl ?_
    refine l_aload dL_law_1689 rfl ?_
    refine l_iload dL_law_1690 rfl ?_
    refine l_iconst dL_law_1691 ?_
    refine l_iadd dL_law_1692 ?_
    refine l_sld (i + 1) dL_law_1693 (by omega) (by omega) hn ?_
    refine l_callV (k := 12) (i := 0) (d := 0 + 2) (S := [aI (-2)]) [aI (sv xs (i + 1))] dL_law_1694 ml_L_249 ok_X12_tell vi_X12_tell rfl rfl (by decide) rfl (Nat.le_of_ble_eq_true rfl) (by decide) ?_
    refine c_X12_tell (d := 0) (gg := h00) (h := h00) (sv xs (i + 1)) J0 (R0 (rfl)) (K0 (rfl)) (sv_rng _ _) ⟨fun z0 => ?_, fun z0 z1 => ?_, fun z0 z1 => ?_⟩
    · first | (exact l_eqs 1993 dL_law_1697 (by decide) rfl (tail _)) | (exact l_eqs 1993 dL_law_1697 (by decide) (by omega) (tail _)) | (exfalso; omega) | (exact absurd z0 n36) | (exact absurd rfl z1) | (exact absurd (e46 _ (by omega)) z1)
    · first | (exact l_eqs 1993 dL_law_1697 (by decide) rfl (tail _)) | (exact l_eqs 1993 dL_law_1697 (by decide) (by omega) (tail _)) | (exfalso; omega) | (exact absurd z0 n36) | (exact absurd rfl z1) | (exact absurd (e46 _ (by omega)) z1)
    · first | (exact l_eqs 1993 dL_law_1697 (by decide) rfl (tail _)) | (exact l_eqs 1993 dL_law_1697 (by decide) (by omega) (tail _)) | (exfalso; omega) | (exact absurd z0 n36) | (exact absurd rfl z1) | (exact absurd (e46 _ (by omega)) z1)
  · (exfalso; omega)
  · (exfalso; omega)
set_option maxRecDepth 100000 in
theorem p_likes {n : Nat} {xs : Nat → Int32} {i : Nat} (hn : n ≤ 100000) (hi : i + 6 ≤ n) (tail : ∀ h, lWP n xs 1993 (lLs i) [] h) : lWP n xs 1702 (lLs i) [] h00 := by
  refine l_aload dL_law_1702 rfl ?_
  refine l_aload dL_law_1703 rfl ?_
  refine l_iload dL_law_1704 rfl ?_
  refine l_iconst dL_law_1705 ?_
  refine l_iadd dL_law_1706 ?_
  refine l_sld (i + 1) dL_law_1707 (by omega) (by omega) hn ?_
  refine l_aload dL_law_1708 rfl ?_
  refine l_iload dL_law_1709 rfl ?_
  refine l_iconst dL_law_1710 ?_
  refine l_iadd dL_law_1711 ?_
  refine l_sld (i + 2) dL_law_1712 (by omega) (by omega) hn ?_
  refine l_aload dL_law_1713 rfl ?_
  refine l_iload dL_law_1714 rfl ?_
  refine l_iconst dL_law_1715 ?_
  refine l_iadd dL_law_1716 ?_
  refine l_sld (i + 3) dL_law_1717 (by omega) (by omega) hn ?_
  refine l_callV (k := 0) (i := 0) (d := 0 + 1) (S := []) [aI (sv xs (i + 1)), aI (sv xs (i + 2)), aI (sv xs (i + 3))] dL_law_1718 ml_L_250 ok_X11_likes vi_X11_likes rfl rfl (by decide) rfl (Nat.le_of_ble_eq_true rfl) (by decide) ?_
  have n41 : h00 4 0 1 = 0 := rfl
  have n53 : h00 5 0 3 = 0 := rfl
  have n36 : ¬ 0 < h00 3 0 6 := n36
  have n11 : h00 1 0 1 = 0 := rfl
  refine c_X11_likes (d := 0) (h := h00) (sv xs (i + 1)) (sv xs (i + 2)) (sv xs (i + 3)) J0 (sv_rng _ _) (sv_rng _ _) (sv_rng _ _) ⟨fun q0 => ?_, fun q0 q1 => ?_, fun q0 q1 => ?_⟩
  · show lWP n xs 1721 (lLs i) [aI (-2)] h00
    refine l_aload dL_law_1721 rfl ?_
    refine l_aload dL_law_1722 rfl ?_
    refine l_iload dL_law_1723 rfl ?_
    refine l_iconst dL_law_1724 ?_
    refine l_iadd dL_law_1725 ?_
    refine l_sld (i + 1) dL_law_1726 (by omega) (by omega) hn ?_
    refine l_aload dL_law_1727 rfl ?_
    refine l_iload dL_law_1728 rfl ?_
    refine l_iconst dL_law_1729 ?_
    refine l_iadd dL_law_1730 ?_
    refine l_sld (i + 2) dL_law_1731 (by omega) (by omega) hn ?_
    refine l_aload dL_law_1732 rfl ?_
    refine l_iload dL_law_1733 rfl ?_
    refine l_iconst dL_law_1734 ?_
    refine l_iadd dL_law_1735 ?_
    refine l_sld (i + 3) dL_law_1736 (by omega) (by omega) hn ?_
    refine l_callV (k := 12) (i := 0) (d := 0 + 2) (S := [aI (-2)]) [aI (sv xs (i + 1)), aI (sv xs (i + 2)), aI (sv xs (i + 3))] dL_law_1737 ml_L_253 ok_X12_likes vi_X12_likes rfl rfl (by decide) rfl (Nat.le_of_ble_eq_true rfl) (by decide) ?_
    refine c_X12_likes (d := 0) (gg := h00) (h := h00) (sv xs (i + 1)) (sv xs (i + 2)) (sv xs (i + 3)) J0 (R0 (rfl)) (K0 (rfl)) (sv_rng _ _) (sv_rng _ _) (sv_rng _ _) ⟨fun z0 => ?_, fun z0 z1 => ?_, fun z0 z1 => ?_⟩
    · first | (exact l_eqs 1993 dL_law_1740 (by decide) rfl (tail _)) | (exact l_eqs 1993 dL_law_1740 (by decide) (by omega) (tail _)) | (exfalso; omega) | (exact absurd z0 n36) | (exact absurd rfl z1) | (exact absurd (e46 _ (by omega)) z1)
    · first | (exact l_eqs 1993 dL_law_1740 (by decide) rfl (tail _)) | (exact l_eqs 1993 dL_law_1740 (by decide) (by omega) (tail _)) | (exfalso; omega) | (exact absurd z0 n36) | (exact absurd rfl z1) | (exact absurd (e46 _ (by omega)) z1)
    · first | (exact l_eqs 1993 dL_law_1740 (by decide) rfl (tail _)) | (exact l_eqs 1993 dL_law_1740 (by decide) (by omega) (tail _)) | (exfalso; omega) | (exact absurd z0 n36) | (exact absurd rfl z1) | (exact absurd (e46 _ (by omega)) z1)
  · (exfalso; omega)
  · (exfalso; omega)
set_option maxRecDepth 100000 in
theorem p_count {n : Nat} {xs : Nat → Int32} {i : Nat} (hn : n ≤ 100000) (hi : i + 6 ≤ n) (tail : ∀ h, lWP n xs 1993 (lLs i) [] h) : lWP n xs 1745 (lLs i) [] h00 := by
  refine l_aload dL_law_1745 rfl ?_
  refine l_aload dL_law_1746 rfl ?_
  refine l_iload dL_law_1747 rfl ?_
  refine l_iconst dL_law_1748 ?_
  refine l_iadd dL_law_1749 ?_
  refine l_sld (i + 1) dL_law_1750 (by omega) (by omega) hn ?_
  refine l_callV (k := 0) (i := 0) (d := 0 + 3) (S := []) [aI (sv xs (i + 1))] dL_law_1751 ml_L_254 ok_X11_count vi_X11_count rfl rfl (by decide) rfl (Nat.le_of_ble_eq_true rfl) (by decide) ?_
  refine c_X11_count (d := 0) (h := h00) (sv xs (i + 1)) J0 (sv_rng _ _) (fun g hg => ?_)
  show lWP n xs 1754 (lLs i) [aI (an_count h00 (sv xs (i + 1)))] g
  refine l_aload dL_law_1754 rfl ?_
  refine l_aload dL_law_1755 rfl ?_
  refine l_iload dL_law_1756 rfl ?_
  refine l_iconst dL_law_1757 ?_
  refine l_iadd dL_law_1758 ?_
  refine l_sld (i + 1) dL_law_1759 (by omega) (by omega) hn ?_
  refine l_callV (k := 12) (i := 0) (d := 0 + 1) (S := [aI (an_count h00 (sv xs (i + 1)))]) [aI (sv xs (i + 1))] dL_law_1760 ml_L_257 ok_X12_count vi_X12_count rfl rfl (by decide) rfl (Nat.le_of_ble_eq_true rfl) (by decide) ?_
  refine c_X12_count (d := 0) (gg := h00) (h := g) (sv xs (i + 1)) J0 (R0 (hg.1 36 0 rfl (by decide))) (S0 (hg.1 46 0 rfl (by decide)) (hg.1 47 0 rfl (by decide)) (hg.1 48 0 rfl (by decide))) (by rw [hg.2.1.1]; rfl) (sv_rng _ _) ?_
  exact l_eqs 1993 dL_law_1763 (by decide) rfl (tail _)
set_option maxRecDepth 100000 in
theorem p_image {n : Nat} {xs : Nat → Int32} {i : Nat} (hn : n ≤ 100000) (hi : i + 6 ≤ n) (tail : ∀ h, lWP n xs 1993 (lLs i) [] h) : lWP n xs 1768 (lLs i) [] h00 := by
  refine l_aload dL_law_1768 rfl ?_
  refine l_aload dL_law_1769 rfl ?_
  refine l_iload dL_law_1770 rfl ?_
  refine l_iconst dL_law_1771 ?_
  refine l_iadd dL_law_1772 ?_
  refine l_sld (i + 1) dL_law_1773 (by omega) (by omega) hn ?_
  refine l_callV (k := 0) (i := 0) (d := 0 + 2) (S := []) [aI (sv xs (i + 1))] dL_law_1774 ml_L_258 ok_X11_image vi_X11_image rfl rfl (by decide) rfl (Nat.le_of_ble_eq_true rfl) (by decide) ?_
  have n41 : h00 4 0 1 = 0 := rfl
  have n53 : h00 5 0 3 = 0 := rfl
  have n36 : ¬ 0 < h00 3 0 6 := n36
  have n11 : h00 1 0 1 = 0 := rfl
  refine c_X11_image (d := 0) (h := h00) (sv xs (i + 1)) J0 (sv_rng _ _) ⟨fun q0 => ?_, fun q0 => ?_⟩
  · show lWP n xs 1777 (lLs i) [aI (-2)] h00
    refine l_aload dL_law_1777 rfl ?_
    refine l_aload dL_law_1778 rfl ?_
    refine l_iload dL_law_1779 rfl ?_
    refine l_iconst dL_law_1780 ?_
    refine l_iadd dL_law_1781 ?_
    refine l_sld (i + 1) dL_law_1782 (by omega) (by omega) hn ?_
    refine l_callV (k := 12) (i := 0) (d := 0 + 1) (S := [aI (-2)]) [aI (sv xs (i + 1))] dL_law_1783 ml_L_261 ok_X12_image vi_X12_image rfl rfl (by decide) rfl (Nat.le_of_ble_eq_true rfl) (by decide) ?_
    refine c_X12_image (d := 0) (h := h00) (sv xs (i + 1)) (sv_rng _ _) ⟨fun z0 => ?_, fun z0 => ?_⟩
    · first | (exact l_eqs 1993 dL_law_1786 (by decide) rfl (tail _)) | (exact l_eqs 1993 dL_law_1786 (by decide) (by omega) (tail _)) | (exfalso; omega) | (exact absurd z0 n36) | (exact absurd rfl z1) | (exact absurd (e46 _ (by omega)) z1)
    · first | (exact l_eqs 1993 dL_law_1786 (by decide) rfl (tail _)) | (exact l_eqs 1993 dL_law_1786 (by decide) (by omega) (tail _)) | (exfalso; omega) | (exact absurd z0 n36) | (exact absurd rfl z1) | (exact absurd (e46 _ (by omega)) z1)
  · show lWP n xs 1777 (lLs i) [aI 0] ((fwUp (mtCopy h00 (2 + (sv xs (i + 1)).toNat) 0) 23 0 (sv xs (i + 1)).toNat 1))
    refine l_aload dL_law_1777 rfl ?_
    refine l_aload dL_law_1778 rfl ?_
    refine l_iload dL_law_1779 rfl ?_
    refine l_iconst dL_law_1780 ?_
    refine l_iadd dL_law_1781 ?_
    refine l_sld (i + 1) dL_law_1782 (by omega) (by omega) hn ?_
    refine l_callV (k := 12) (i := 0) (d := 0 + 1) (S := [aI 0]) [aI (sv xs (i + 1))] dL_law_1783 ml_L_261 ok_X12_image vi_X12_image rfl rfl (by decide) rfl (Nat.le_of_ble_eq_true rfl) (by decide) ?_
    refine c_X12_image (d := 0) (h := (fwUp (mtCopy h00 (2 + (sv xs (i + 1)).toNat) 0) 23 0 (sv xs (i + 1)).toNat 1)) (sv xs (i + 1)) (sv_rng _ _) ⟨fun z0 => ?_, fun z0 => ?_⟩
    · first | (exact l_eqs 1993 dL_law_1786 (by decide) rfl (tail _)) | (exact l_eqs 1993 dL_law_1786 (by decide) (by omega) (tail _)) | (exfalso; omega) | (exact absurd z0 n36) | (exact absurd rfl z1) | (exact absurd (e46 _ (by omega)) z1)
    · first | (exact l_eqs 1993 dL_law_1786 (by decide) rfl (tail _)) | (exact l_eqs 1993 dL_law_1786 (by decide) (by omega) (tail _)) | (exfalso; omega) | (exact absurd z0 n36) | (exact absurd rfl z1) | (exact absurd (e46 _ (by omega)) z1)
set_option maxRecDepth 100000 in
theorem p_back {n : Nat} {xs : Nat → Int32} {i : Nat} (hn : n ≤ 100000) (hi : i + 6 ≤ n) (tail : ∀ h, lWP n xs 1993 (lLs i) [] h) : lWP n xs 1791 (lLs i) [] h00 := by
  refine l_aload dL_law_1791 rfl ?_
  refine l_aload dL_law_1792 rfl ?_
  refine l_iload dL_law_1793 rfl ?_
  refine l_iconst dL_law_1794 ?_
  refine l_iadd dL_law_1795 ?_
  refine l_sld (i + 1) dL_law_1796 (by omega) (by omega) hn ?_
  refine l_callV (k := 0) (i := 0) (d := 0 + 2) (S := []) [aI (sv xs (i + 1))] dL_law_1797 ml_L_262 ok_X11_back vi_X11_back rfl rfl (by decide) rfl (Nat.le_of_ble_eq_true rfl) (by decide) ?_
  have n41 : h00 4 0 1 = 0 := rfl
  have n53 : h00 5 0 3 = 0 := rfl
  have n36 : ¬ 0 < h00 3 0 6 := n36
  have n11 : h00 1 0 1 = 0 := rfl
  refine c_X11_back (d := 0) (h := h00) (sv xs (i + 1)) J0 (sv_rng _ _) (fun k hk => Or.inl rfl) (fun k hk q => absurd rfl q) ⟨fun q0 => ?_, fun q0 q1 => ?_, fun q0 q1 => ?_⟩
  · show lWP n xs 1800 (lLs i) [aI (-2)] h00
    refine l_aload dL_law_1800 rfl ?_
    refine l_aload dL_law_1801 rfl ?_
    refine l_iload dL_law_1802 rfl ?_
    refine l_iconst dL_law_1803 ?_
    refine l_iadd dL_law_1804 ?_
    refine l_sld (i + 1) dL_law_1805 (by omega) (by omega) hn ?_
    refine l_callV (k := 12) (i := 0) (d := 0 + 1) (S := [aI (-2)]) [aI (sv xs (i + 1))] dL_law_1806 ml_L_265 ok_X12_back vi_X12_back rfl rfl (by decide) rfl (Nat.le_of_ble_eq_true rfl) (by decide) ?_
    refine c_X12_back (d := 0) (h := h00) (sv xs (i + 1)) (sv_rng _ _) (fun k hk => Or.inl rfl) ⟨fun z0 => ?_, fun z0 z1 => ?_, fun z0 z1 => ?_⟩
    · first | (exact l_eqs 1993 dL_law_1809 (by decide) rfl (tail _)) | (exact l_eqs 1993 dL_law_1809 (by decide) (by omega) (tail _)) | (exfalso; omega) | (exact absurd z0 n36) | (exact absurd rfl z1) | (exact absurd (e46 _ (by omega)) z1)
    · first | (exact l_eqs 1993 dL_law_1809 (by decide) rfl (tail _)) | (exact l_eqs 1993 dL_law_1809 (by decide) (by omega) (tail _)) | (exfalso; omega) | (exact absurd z0 n36) | (exact absurd rfl z1) | (exact absurd (e46 _ (by omega)) z1)
    · first | (exact l_eqs 1993 dL_law_1809 (by decide) rfl (tail _)) | (exact l_eqs 1993 dL_law_1809 (by decide) (by omega) (tail _)) | (exfalso; omega) | (exact absurd z0 n36) | (exact absurd rfl z1) | (exact absurd (e46 _ (by omega)) z1)
  · show lWP n xs 1800 (lLs i) [aI (-6)] h00
    refine l_aload dL_law_1800 rfl ?_
    refine l_aload dL_law_1801 rfl ?_
    refine l_iload dL_law_1802 rfl ?_
    refine l_iconst dL_law_1803 ?_
    refine l_iadd dL_law_1804 ?_
    refine l_sld (i + 1) dL_law_1805 (by omega) (by omega) hn ?_
    refine l_callV (k := 12) (i := 0) (d := 0 + 1) (S := [aI (-6)]) [aI (sv xs (i + 1))] dL_law_1806 ml_L_265 ok_X12_back vi_X12_back rfl rfl (by decide) rfl (Nat.le_of_ble_eq_true rfl) (by decide) ?_
    refine c_X12_back (d := 0) (h := h00) (sv xs (i + 1)) (sv_rng _ _) (fun k hk => Or.inl rfl) ⟨fun z0 => ?_, fun z0 z1 => ?_, fun z0 z1 => ?_⟩
    · first | (exact l_eqs 1993 dL_law_1809 (by decide) rfl (tail _)) | (exact l_eqs 1993 dL_law_1809 (by decide) (by omega) (tail _)) | (exfalso; omega) | (exact absurd z0 n36) | (exact absurd rfl z1) | (exact absurd (e46 _ (by omega)) z1)
    · first | (exact l_eqs 1993 dL_law_1809 (by decide) rfl (tail _)) | (exact l_eqs 1993 dL_law_1809 (by decide) (by omega) (tail _)) | (exfalso; omega) | (exact absurd z0 n36) | (exact absurd rfl z1) | (exact absurd (e46 _ (by omega)) z1)
    · first | (exact l_eqs 1993 dL_law_1809 (by decide) rfl (tail _)) | (exact l_eqs 1993 dL_law_1809 (by decide) (by omega) (tail _)) | (exfalso; omega) | (exact absurd z0 n36) | (exact absurd rfl z1) | (exact absurd (e46 _ (by omega)) z1)
  · exact absurd rfl q1
set_option maxRecDepth 100000 in
theorem p_row {n : Nat} {xs : Nat → Int32} {i : Nat} (hn : n ≤ 100000) (hi : i + 6 ≤ n) (tail : ∀ h, lWP n xs 1993 (lLs i) [] h) : lWP n xs 1814 (lLs i) [] h00 := by
  refine l_aload dL_law_1814 rfl ?_
  refine l_aload dL_law_1815 rfl ?_
  refine l_iload dL_law_1816 rfl ?_
  refine l_iconst dL_law_1817 ?_
  refine l_iadd dL_law_1818 ?_
  refine l_sld (i + 1) dL_law_1819 (by omega) (by omega) hn ?_
  refine l_aload dL_law_1820 rfl ?_
  refine l_iload dL_law_1821 rfl ?_
  refine l_iconst dL_law_1822 ?_
  refine l_iadd dL_law_1823 ?_
  refine l_sld (i + 2) dL_law_1824 (by omega) (by omega) hn ?_
  refine l_aload dL_law_1825 rfl ?_
  refine l_iload dL_law_1826 rfl ?_
  refine l_iconst dL_law_1827 ?_
  refine l_iadd dL_law_1828 ?_
  refine l_sld (i + 3) dL_law_1829 (by omega) (by omega) hn ?_
  refine l_callV (k := 0) (i := 0) (d := 0 + 2) (S := []) [aI (sv xs (i + 1)), aI (sv xs (i + 2)), aI (sv xs (i + 3))] dL_law_1830 ml_L_266 ok_X11_row vi_X11_row rfl rfl (by decide) rfl (Nat.le_of_ble_eq_true rfl) (by decide) ?_
  have n41 : h00 4 0 1 = 0 := rfl
  have n53 : h00 5 0 3 = 0 := rfl
  have n36 : ¬ 0 < h00 3 0 6 := n36
  have n11 : h00 1 0 1 = 0 := rfl
  refine c_X11_row (d := 0) (h := h00) (sv xs (i + 1)) (sv xs (i + 2)) (sv xs (i + 3)) J0 (sv_rng _ _) (sv_rng _ _) (sv_rng _ _) ⟨fun q0 => ?_, fun q0 q1 => ?_, fun q0 q1 => ?_⟩
  · show lWP n xs 1833 (lLs i) [aI (-2)] h00
    refine l_aload dL_law_1833 rfl ?_
    refine l_aload dL_law_1834 rfl ?_
    refine l_iload dL_law_1835 rfl ?_
    refine l_iconst dL_law_1836 ?_
    refine l_iadd dL_law_1837 ?_
    refine l_sld (i + 1) dL_law_1838 (by omega) (by omega) hn ?_
    refine l_aload dL_law_1839 rfl ?_
    refine l_iload dL_law_1840 rfl ?_
    refine l_iconst dL_law_1841 ?_
    refine l_iadd dL_law_1842 ?_
    refine l_sld (i + 2) dL_law_1843 (by omega) (by omega) hn ?_
    refine l_aload dL_law_1844 rfl ?_
    refine l_iload dL_law_1845 rfl ?_
    refine l_iconst dL_law_1846 ?_
    refine l_iadd dL_law_1847 ?_
    refine l_sld (i + 3) dL_law_1848 (by omega) (by omega) hn ?_
    refine l_callV (k := 12) (i := 0) (d := 0 + 2) (S := [aI (-2)]) [aI (sv xs (i + 1)), aI (sv xs (i + 2)), aI (sv xs (i + 3))] dL_law_1849 ml_L_269 ok_X12_row vi_X12_row rfl rfl (by decide) rfl (Nat.le_of_ble_eq_true rfl) (by decide) ?_
    refine c_X12_row (d := 0) (h := h00) (sv xs (i + 1)) (sv xs (i + 2)) (sv xs (i + 3)) (sv_rng _ _) (sv_rng _ _) (sv_rng _ _) ⟨fun z0 => ?_, fun z0 z1 => ?_, fun z0 z1 => ?_⟩
    · first | (exact l_eqs 1993 dL_law_1852 (by decide) rfl (tail _)) | (exact l_eqs 1993 dL_law_1852 (by decide) (by omega) (tail _)) | (exfalso; omega) | (exact absurd z0 n36) | (exact absurd rfl z1) | (exact absurd (e46 _ (by omega)) z1)
    · first | (exact l_eqs 1993 dL_law_1852 (by decide) rfl (tail _)) | (exact l_eqs 1993 dL_law_1852 (by decide) (by omega) (tail _)) | (exfalso; omega) | (exact absurd z0 n36) | (exact absurd rfl z1) | (exact absurd (e46 _ (by omega)) z1)
    · first | (exact l_eqs 1993 dL_law_1852 (by decide) rfl (tail _)) | (exact l_eqs 1993 dL_law_1852 (by decide) (by omega) (tail _)) | (exfalso; omega) | (exact absurd z0 n36) | (exact absurd rfl z1) | (exact absurd (e46 _ (by omega)) z1)
  · show lWP n xs 1833 (lLs i) [aI (-3)] h00
    refine l_aload dL_law_1833 rfl ?_
    refine l_aload dL_law_1834 rfl ?_
    refine l_iload dL_law_1835 rfl ?_
    refine l_iconst dL_law_1836 ?_
    refine l_iadd dL_law_1837 ?_
    refine l_sld (i + 1) dL_law_1838 (by omega) (by omega) hn ?_
    refine l_aload dL_law_1839 rfl ?_
    refine l_iload dL_law_1840 rfl ?_
    refine l_iconst dL_law_1841 ?_
    refine l_iadd dL_law_1842 ?_
    refine l_sld (i + 2) dL_law_1843 (by omega) (by omega) hn ?_
    refine l_aload dL_law_1844 rfl ?_
    refine l_iload dL_law_1845 rfl ?_
    refine l_iconst dL_law_1846 ?_
    refine l_iadd dL_law_1847 ?_
    refine l_sld (i + 3) dL_law_1848 (by omega) (by omega) hn ?_
    refine l_callV (k := 12) (i := 0) (d := 0 + 2) (S := [aI (-3)]) [aI (sv xs (i + 1)), aI (sv xs (i + 2)), aI (sv xs (i + 3))] dL_law_1849 ml_L_269 ok_X12_row vi_X12_row rfl rfl (by decide) rfl (Nat.le_of_ble_eq_true rfl) (by decide) ?_
    refine c_X12_row (d := 0) (h := h00) (sv xs (i + 1)) (sv xs (i + 2)) (sv xs (i + 3)) (sv_rng _ _) (sv_rng _ _) (sv_rng _ _) ⟨fun z0 => ?_, fun z0 z1 => ?_, fun z0 z1 => ?_⟩
    · first | (exact l_eqs 1993 dL_law_1852 (by decide) rfl (tail _)) | (exact l_eqs 1993 dL_law_1852 (by decide) (by omega) (tail _)) | (exfalso; omega) | (exact absurd z0 n36) | (exact absurd rfl z1) | (exact absurd (e46 _ (by omega)) z1)
    · first | (exact l_eqs 1993 dL_law_1852 (by decide) rfl (tail _)) | (exact l_eqs 1993 dL_law_1852 (by decide) (by omega) (tail _)) | (exfalso; omega) | (exact absurd z0 n36) | (exact absurd rfl z1) | (exact absurd (e46 _ (by omega)) z1)
    · first | (exact l_eqs 1993 dL_law_1852 (by decide) rfl (tail _)) | (exact l_eqs 1993 dL_law_1852 (by decide) (by omega) (tail _)) | (exfalso; omega) | (exact absurd z0 n36) | (exact absurd rfl z1) | (exact absurd (e46 _ (by omega)) z1)
  · show lWP n xs 1833 (lLs i) [aI 0] ((fwUc (fwUp (fwUp h00 34 0 (sv xs (i + 1)).toNat (sv xs (i + 2))) 35 0 (sv xs (i + 1)).toNat (sv xs (i + 3))) 33 (sv xs (i + 1)).toNat (fun _ => 0)))
    refine l_aload dL_law_1833 rfl ?_
    refine l_aload dL_law_1834 rfl ?_
    refine l_iload dL_law_1835 rfl ?_
    refine l_iconst dL_law_1836 ?_
    refine l_iadd dL_law_1837 ?_
    refine l_sld (i + 1) dL_law_1838 (by omega) (by omega) hn ?_
    refine l_aload dL_law_1839 rfl ?_
    refine l_iload dL_law_1840 rfl ?_
    refine l_iconst dL_law_1841 ?_
    refine l_iadd dL_law_1842 ?_
    refine l_sld (i + 2) dL_law_1843 (by omega) (by omega) hn ?_
    refine l_aload dL_law_1844 rfl ?_
    refine l_iload dL_law_1845 rfl ?_
    refine l_iconst dL_law_1846 ?_
    refine l_iadd dL_law_1847 ?_
    refine l_sld (i + 3) dL_law_1848 (by omega) (by omega) hn ?_
    refine l_callV (k := 12) (i := 0) (d := 0 + 2) (S := [aI 0]) [aI (sv xs (i + 1)), aI (sv xs (i + 2)), aI (sv xs (i + 3))] dL_law_1849 ml_L_269 ok_X12_row vi_X12_row rfl rfl (by decide) rfl (Nat.le_of_ble_eq_true rfl) (by decide) ?_
    refine c_X12_row (d := 0) (h := (fwUc (fwUp (fwUp h00 34 0 (sv xs (i + 1)).toNat (sv xs (i + 2))) 35 0 (sv xs (i + 1)).toNat (sv xs (i + 3))) 33 (sv xs (i + 1)).toNat (fun _ => 0))) (sv xs (i + 1)) (sv xs (i + 2)) (sv xs (i + 3)) (sv_rng _ _) (sv_rng _ _) (sv_rng _ _) ⟨fun z0 => ?_, fun z0 z1 => ?_, fun z0 z1 => ?_⟩
    · first | (exact l_eqs 1993 dL_law_1852 (by decide) rfl (tail _)) | (exact l_eqs 1993 dL_law_1852 (by decide) (by omega) (tail _)) | (exfalso; omega) | (exact absurd z0 n36) | (exact absurd rfl z1) | (exact absurd (e46 _ (by omega)) z1)
    · first | (exact l_eqs 1993 dL_law_1852 (by decide) rfl (tail _)) | (exact l_eqs 1993 dL_law_1852 (by decide) (by omega) (tail _)) | (exfalso; omega) | (exact absurd z0 n36) | (exact absurd rfl z1) | (exact absurd (e46 _ (by omega)) z1)
    · first | (exact l_eqs 1993 dL_law_1852 (by decide) rfl (tail _)) | (exact l_eqs 1993 dL_law_1852 (by decide) (by omega) (tail _)) | (exfalso; omega) | (exact absurd z0 n36) | (exact absurd rfl z1) | (exact absurd (e46 _ (by omega)) z1)
set_option maxRecDepth 100000 in
theorem p_write {n : Nat} {xs : Nat → Int32} {i : Nat} (hn : n ≤ 100000) (hi : i + 6 ≤ n) (tail : ∀ h, lWP n xs 1993 (lLs i) [] h) : lWP n xs 1857 (lLs i) [] h00 := by
  refine l_aload dL_law_1857 rfl ?_
  refine l_aload dL_law_1858 rfl ?_
  refine l_iload dL_law_1859 rfl ?_
  refine l_iconst dL_law_1860 ?_
  refine l_iadd dL_law_1861 ?_
  refine l_sld (i + 1) dL_law_1862 (by omega) (by omega) hn ?_
  refine l_aload dL_law_1863 rfl ?_
  refine l_iload dL_law_1864 rfl ?_
  refine l_iconst dL_law_1865 ?_
  refine l_iadd dL_law_1866 ?_
  refine l_sld (i + 2) dL_law_1867 (by omega) (by omega) hn ?_
  refine l_aload dL_law_1868 rfl ?_
  refine l_iload dL_law_1869 rfl ?_
  refine l_iconst dL_law_1870 ?_
  refine l_iadd dL_law_1871 ?_
  refine l_sld (i + 3) dL_law_1872 (by omega) (by omega) hn ?_
  refine l_i2l dL_law_1873 (sv_rng _ _) ?_
  refine l_bipush dL_law_1874 rfl ?_
  refine l_lshl dL_law_1876 ?_
  refine l_aload dL_law_1877 rfl ?_
  refine l_iload dL_law_1878 rfl ?_
  refine l_iconst dL_law_1879 ?_
  refine l_iadd dL_law_1880 ?_
  refine l_sld (i + 4) dL_law_1881 (by omega) (by omega) hn ?_
  refine l_i2l dL_law_1882 (sv_rng _ _) ?_
  refine l_ldc2 (z := 4294967295) dL_law_1883 cs_L_270 ?_
  refine l_land dL_law_1886 ?_
  refine l_lor dL_law_1887 ?_
  refine l_callV (k := 0) (i := 0) (d := 0 + 2) (S := []) [aI (sv xs (i + 1)), aI (sv xs (i + 2)), aJ (fwLor (fwLshl (sv xs (i + 3)) 32) (fwLand (sv xs (i + 4)) 4294967295))] dL_law_1888 ml_L_272 ok_X11_write vi_X11_write rfl rfl (by decide) rfl (Nat.le_of_ble_eq_true rfl) (by decide) ?_
  have n41 : h00 4 0 1 = 0 := rfl
  have n53 : h00 5 0 3 = 0 := rfl
  have n36 : ¬ 0 < h00 3 0 6 := n36
  have n11 : h00 1 0 1 = 0 := rfl
  have m0 : mSz (h00 35 0) (sv xs (i + 1)) = -1 := by unfold mSz; split <;> first | exact e35 _ (by omega) | rfl
  refine c_X11_write (d := 0) (h := h00) (sv xs (i + 1)) (sv xs (i + 2)) (fwLor (fwLshl (sv xs (i + 3)) 32) (fwLand (sv xs (i + 4)) 4294967295)) J0 (sv_rng _ _) (sv_rng _ _) ⟨fun q0 => ?_, fun q0 q1 => ?_, fun q0 q1 q2 => ?_, fun q0 q1 q2 => ?_⟩
  · show lWP n xs 1891 (lLs i) [aI (-2)] h00
    refine l_aload dL_law_1891 rfl ?_
    refine l_aload dL_law_1892 rfl ?_
    refine l_iload dL_law_1893 rfl ?_
    refine l_iconst dL_law_1894 ?_
    refine l_iadd dL_law_1895 ?_
    refine l_sld (i + 1) dL_law_1896 (by omega) (by omega) hn ?_
    refine l_aload dL_law_1897 rfl ?_
    refine l_iload dL_law_1898 rfl ?_
    refine l_iconst dL_law_1899 ?_
    refine l_iadd dL_law_1900 ?_
    refine l_sld (i + 2) dL_law_1901 (by omega) (by omega) hn ?_
    refine l_aload dL_law_1902 rfl ?_
    refine l_iload dL_law_1903 rfl ?_
    refine l_iconst dL_law_1904 ?_
    refine l_iadd dL_law_1905 ?_
    refine l_sld (i + 3) dL_law_1906 (by omega) (by omega) hn ?_
    refine l_i2l dL_law_1907 (sv_rng _ _) ?_
    refine l_bipush dL_law_1908 rfl ?_
    refine l_lshl dL_law_1910 ?_
    refine l_aload dL_law_1911 rfl ?_
    refine l_iload dL_law_1912 rfl ?_
    refine l_iconst dL_law_1913 ?_
    refine l_iadd dL_law_1914 ?_
    refine l_sld (i + 4) dL_law_1915 (by omega) (by omega) hn ?_
    refine l_i2l dL_law_1916 (sv_rng _ _) ?_
    refine l_ldc2 (z := 4294967295) dL_law_1917 cs_L_270 ?_
    refine l_land dL_law_1920 ?_
    refine l_lor dL_law_1921 ?_
    refine l_callV (k := 12) (i := 0) (d := 0 + 2) (S := [aI (-2)]) [aI (sv xs (i + 1)), aI (sv xs (i + 2)), aJ (fwLor (fwLshl (sv xs (i + 3)) 32) (fwLand (sv xs (i + 4)) 4294967295))] dL_law_1922 ml_L_276 ok_X12_write vi_X12_write rfl rfl (by decide) rfl (Nat.le_of_ble_eq_true rfl) (by decide) ?_
    refine c_X12_write (d := 0) (h := h00) (sv xs (i + 1)) (sv xs (i + 2)) (fwLor (fwLshl (sv xs (i + 3)) 32) (fwLand (sv xs (i + 4)) 4294967295)) (sv_rng _ _) (sv_rng _ _) (fun s hs => by rw [show (h00) 46 0 s = h00 46 0 s from rfl, e46 s hs]; decide) ⟨fun z0 => ?_, fun z0 z1 => ?_, fun z0 z1 z2 => ?_, fun z0 z1 z2 => ?_⟩
    · first | (exact l_eqs 1993 dL_law_1925 (by decide) rfl (tail _)) | (exact l_eqs 1993 dL_law_1925 (by decide) (by omega) (tail _)) | (exfalso; omega) | (exact absurd z0 n36) | (exact absurd rfl z1) | (exact absurd (e46 _ (by omega)) z1)
    · first | (exact l_eqs 1993 dL_law_1925 (by decide) rfl (tail _)) | (exact l_eqs 1993 dL_law_1925 (by decide) (by omega) (tail _)) | (exfalso; omega) | (exact absurd z0 n36) | (exact absurd rfl z1) | (exact absurd (e46 _ (by omega)) z1)
    · first | (exact l_eqs 1993 dL_law_1925 (by decide) rfl (tail _)) | (exact l_eqs 1993 dL_law_1925 (by decide) (by omega) (tail _)) | (exfalso; omega) | (exact absurd z0 n36) | (exact absurd rfl z1) | (exact absurd (e46 _ (by omega)) z1)
    · first | (exact l_eqs 1993 dL_law_1925 (by decide) rfl (tail _)) | (exact l_eqs 1993 dL_law_1925 (by decide) (by omega) (tail _)) | (exfalso; omega) | (exact absurd z0 n36) | (exact absurd rfl z1) | (exact absurd (e46 _ (by omega)) z1)
  · show lWP n xs 1891 (lLs i) [aI (-6)] h00
    refine l_aload dL_law_1891 rfl ?_
    refine l_aload dL_law_1892 rfl ?_
    refine l_iload dL_law_1893 rfl ?_
    refine l_iconst dL_law_1894 ?_
    refine l_iadd dL_law_1895 ?_
    refine l_sld (i + 1) dL_law_1896 (by omega) (by omega) hn ?_
    refine l_aload dL_law_1897 rfl ?_
    refine l_iload dL_law_1898 rfl ?_
    refine l_iconst dL_law_1899 ?_
    refine l_iadd dL_law_1900 ?_
    refine l_sld (i + 2) dL_law_1901 (by omega) (by omega) hn ?_
    refine l_aload dL_law_1902 rfl ?_
    refine l_iload dL_law_1903 rfl ?_
    refine l_iconst dL_law_1904 ?_
    refine l_iadd dL_law_1905 ?_
    refine l_sld (i + 3) dL_law_1906 (by omega) (by omega) hn ?_
    refine l_i2l dL_law_1907 (sv_rng _ _) ?_
    refine l_bipush dL_law_1908 rfl ?_
    refine l_lshl dL_law_1910 ?_
    refine l_aload dL_law_1911 rfl ?_
    refine l_iload dL_law_1912 rfl ?_
    refine l_iconst dL_law_1913 ?_
    refine l_iadd dL_law_1914 ?_
    refine l_sld (i + 4) dL_law_1915 (by omega) (by omega) hn ?_
    refine l_i2l dL_law_1916 (sv_rng _ _) ?_
    refine l_ldc2 (z := 4294967295) dL_law_1917 cs_L_270 ?_
    refine l_land dL_law_1920 ?_
    refine l_lor dL_law_1921 ?_
    refine l_callV (k := 12) (i := 0) (d := 0 + 2) (S := [aI (-6)]) [aI (sv xs (i + 1)), aI (sv xs (i + 2)), aJ (fwLor (fwLshl (sv xs (i + 3)) 32) (fwLand (sv xs (i + 4)) 4294967295))] dL_law_1922 ml_L_276 ok_X12_write vi_X12_write rfl rfl (by decide) rfl (Nat.le_of_ble_eq_true rfl) (by decide) ?_
    refine c_X12_write (d := 0) (h := h00) (sv xs (i + 1)) (sv xs (i + 2)) (fwLor (fwLshl (sv xs (i + 3)) 32) (fwLand (sv xs (i + 4)) 4294967295)) (sv_rng _ _) (sv_rng _ _) (fun s hs => by rw [show (h00) 46 0 s = h00 46 0 s from rfl, e46 s hs]; decide) ⟨fun z0 => ?_, fun z0 z1 => ?_, fun z0 z1 z2 => ?_, fun z0 z1 z2 => ?_⟩
    · first | (exact l_eqs 1993 dL_law_1925 (by decide) rfl (tail _)) | (exact l_eqs 1993 dL_law_1925 (by decide) (by omega) (tail _)) | (exfalso; omega) | (exact absurd z0 n36) | (exact absurd rfl z1) | (exact absurd (e46 _ (by omega)) z1)
    · first | (exact l_eqs 1993 dL_law_1925 (by decide) rfl (tail _)) | (exact l_eqs 1993 dL_law_1925 (by decide) (by omega) (tail _)) | (exfalso; omega) | (exact absurd z0 n36) | (exact absurd rfl z1) | (exact absurd (e46 _ (by omega)) z1)
    · first | (exact l_eqs 1993 dL_law_1925 (by decide) rfl (tail _)) | (exact l_eqs 1993 dL_law_1925 (by decide) (by omega) (tail _)) | (exfalso; omega) | (exact absurd z0 n36) | (exact absurd rfl z1) | (exact absurd (e46 _ (by omega)) z1)
    · first | (exact l_eqs 1993 dL_law_1925 (by decide) rfl (tail _)) | (exact l_eqs 1993 dL_law_1925 (by decide) (by omega) (tail _)) | (exfalso; omega) | (exact absurd z0 n36) | (exact absurd rfl z1) | (exact absurd (e46 _ (by omega)) z1)
  · exact absurd m0 q1
  · exact absurd m0 q1
set_option maxRecDepth 100000 in
theorem p_paste {n : Nat} {xs : Nat → Int32} {i : Nat} (hn : n ≤ 100000) (hi : i + 6 ≤ n) (tail : ∀ h, lWP n xs 1993 (lLs i) [] h) : lWP n xs 1930 (lLs i) [] h00 := by
  refine l_aload dL_law_1930 rfl ?_
  refine l_aload dL_law_1931 rfl ?_
  refine l_iload dL_law_1932 rfl ?_
  refine l_iconst dL_law_1933 ?_
  refine l_iadd dL_law_1934 ?_
  refine l_sld (i + 1) dL_law_1935 (by omega) (by omega) hn ?_
  refine l_aload dL_law_1936 rfl ?_
  refine l_iload dL_law_1937 rfl ?_
  refine l_iconst dL_law_1938 ?_
  refine l_iadd dL_law_1939 ?_
  refine l_sld (i + 2) dL_law_1940 (by omega) (by omega) hn ?_
  refine l_aload dL_law_1941 rfl ?_
  refine l_iload dL_law_1942 rfl ?_
  refine l_iconst dL_law_1943 ?_
  refine l_iadd dL_law_1944 ?_
  refine l_sld (i + 3) dL_law_1945 (by omega) (by omega) hn ?_
  refine l_aload dL_law_1946 rfl ?_
  refine l_iload dL_law_1947 rfl ?_
  refine l_iconst dL_law_1948 ?_
  refine l_iadd dL_law_1949 ?_
  refine l_sld (i + 4) dL_law_1950 (by omega) (by omega) hn ?_
  refine l_aload dL_law_1951 rfl ?_
  refine l_iload dL_law_1952 rfl ?_
  refine l_iconst dL_law_1953 ?_
  refine l_iadd dL_law_1954 ?_
  refine l_sld (i + 5) dL_law_1955 (by omega) (by omega) hn ?_
  refine l_callV (k := 0) (i := 0) (d := 0 + 3) (S := []) [aI (sv xs (i + 1)), aI (sv xs (i + 2)), aI (sv xs (i + 3)), aI (sv xs (i + 4)), aI (sv xs (i + 5))] dL_law_1956 ml_L_277 ok_X11_paste vi_X11_paste rfl rfl (by decide) rfl (Nat.le_of_ble_eq_true rfl) (by decide) ?_
  have n41 : h00 4 0 1 = 0 := rfl
  have n53 : h00 5 0 3 = 0 := rfl
  have n36 : ¬ 0 < h00 3 0 6 := n36
  have n11 : h00 1 0 1 = 0 := rfl
  have m0 : mSz (h00 35 0) (sv xs (i + 1)) = -1 := by unfold mSz; split <;> first | exact e35 _ (by omega) | rfl
  have m1 : mSz (h00 35 0) (sv xs (i + 3)) = -1 := by unfold mSz; split <;> first | exact e35 _ (by omega) | rfl
  refine c_X11_paste (d := 0) (h := h00) (sv xs (i + 1)) (sv xs (i + 2)) (sv xs (i + 3)) (sv xs (i + 4)) (sv xs (i + 5)) J0 (sv_rng _ _) (sv_rng _ _) (sv_rng _ _) (sv_rng _ _) (sv_rng _ _) ⟨fun q0 => ?_, fun q0 q1 => ?_, fun q0 q1 q2 => ?_, fun q0 q1 q2 q3 => ?_, fun q0 q1 q2 q3 => ?_⟩
  · show lWP n xs 1959 (lLs i) [aI (-2)] h00
    refine l_aload dL_law_1959 rfl ?_
    refine l_aload dL_law_1960 rfl ?_
    refine l_iload dL_law_1961 rfl ?_
    refine l_iconst dL_law_1962 ?_
    refine l_iadd dL_law_1963 ?_
    refine l_sld (i + 1) dL_law_1964 (by omega) (by omega) hn ?_
    refine l_aload dL_law_1965 rfl ?_
    refine l_iload dL_law_1966 rfl ?_
    refine l_iconst dL_law_1967 ?_
    refine l_iadd dL_law_1968 ?_
    refine l_sld (i + 2) dL_law_1969 (by omega) (by omega) hn ?_
    refine l_aload dL_law_1970 rfl ?_
    refine l_iload dL_law_1971 rfl ?_
    refine l_iconst dL_law_1972 ?_
    refine l_iadd dL_law_1973 ?_
    refine l_sld (i + 3) dL_law_1974 (by omega) (by omega) hn ?_
    refine l_aload dL_law_1975 rfl ?_
    refine l_iload dL_law_1976 rfl ?_
    refine l_iconst dL_law_1977 ?_
    refine l_iadd dL_law_1978 ?_
    refine l_sld (i + 4) dL_law_1979 (by omega) (by omega) hn ?_
    refine l_aload dL_law_1980 rfl ?_
    refine l_iload dL_law_1981 rfl ?_
    refine l_iconst dL_law_1982 ?_
    refine l_iadd dL_law_1983 ?_
    refine l_sld (i + 5) dL_law_1984 (by omega) (by omega) hn ?_
    refine l_callV (k := 12) (i := 0) (d := 0 + 2) (S := [aI (-2)]) [aI (sv xs (i + 1)), aI (sv xs (i + 2)), aI (sv xs (i + 3)), aI (sv xs (i + 4)), aI (sv xs (i + 5))] dL_law_1985 ml_L_280 ok_X12_paste vi_X12_paste rfl rfl (by decide) rfl (Nat.le_of_ble_eq_true rfl) (by decide) ?_
    refine c_no_paste (d := 0) (h := h00) (sv xs (i + 1)) (sv xs (i + 2)) (sv xs (i + 3)) (sv xs (i + 4)) (sv xs (i + 5)) (fun s hs => e46 s hs) (sv_rng _ _) (sv_rng _ _) (sv_rng _ _) (sv_rng _ _) (sv_rng _ _) ⟨fun z0 => ?_, fun z0 => ?_⟩
    · first | (exact l_eqs 1993 dL_law_1988 (by decide) rfl (tail _)) | (exact l_eqs 1993 dL_law_1988 (by decide) (by omega) (tail _)) | (exfalso; omega) | (exact absurd z0 n36) | (exact absurd rfl z1) | (exact absurd (e46 _ (by omega)) z1)
    · first | (exact l_eqs 1993 dL_law_1988 (by decide) rfl (tail _)) | (exact l_eqs 1993 dL_law_1988 (by decide) (by omega) (tail _)) | (exfalso; omega) | (exact absurd z0 n36) | (exact absurd rfl z1) | (exact absurd (e46 _ (by omega)) z1)
  · show lWP n xs 1959 (lLs i) [aI (-6)] h00
    refine l_aload dL_law_1959 rfl ?_
    refine l_aload dL_law_1960 rfl ?_
    refine l_iload dL_law_1961 rfl ?_
    refine l_iconst dL_law_1962 ?_
    refine l_iadd dL_law_1963 ?_
    refine l_sld (i + 1) dL_law_1964 (by omega) (by omega) hn ?_
    refine l_aload dL_law_1965 rfl ?_
    refine l_iload dL_law_1966 rfl ?_
    refine l_iconst dL_law_1967 ?_
    refine l_iadd dL_law_1968 ?_
    refine l_sld (i + 2) dL_law_1969 (by omega) (by omega) hn ?_
    refine l_aload dL_law_1970 rfl ?_
    refine l_iload dL_law_1971 rfl ?_
    refine l_iconst dL_law_1972 ?_
    refine l_iadd dL_law_1973 ?_
    refine l_sld (i + 3) dL_law_1974 (by omega) (by omega) hn ?_
    refine l_aload dL_law_1975 rfl ?_
    refine l_iload dL_law_1976 rfl ?_
    refine l_iconst dL_law_1977 ?_
    refine l_iadd dL_law_1978 ?_
    refine l_sld (i + 4) dL_law_1979 (by omega) (by omega) hn ?_
    refine l_aload dL_law_1980 rfl ?_
    refine l_iload dL_law_1981 rfl ?_
    refine l_iconst dL_law_1982 ?_
    refine l_iadd dL_law_1983 ?_
    refine l_sld (i + 5) dL_law_1984 (by omega) (by omega) hn ?_
    refine l_callV (k := 12) (i := 0) (d := 0 + 2) (S := [aI (-6)]) [aI (sv xs (i + 1)), aI (sv xs (i + 2)), aI (sv xs (i + 3)), aI (sv xs (i + 4)), aI (sv xs (i + 5))] dL_law_1985 ml_L_280 ok_X12_paste vi_X12_paste rfl rfl (by decide) rfl (Nat.le_of_ble_eq_true rfl) (by decide) ?_
    refine c_no_paste (d := 0) (h := h00) (sv xs (i + 1)) (sv xs (i + 2)) (sv xs (i + 3)) (sv xs (i + 4)) (sv xs (i + 5)) (fun s hs => e46 s hs) (sv_rng _ _) (sv_rng _ _) (sv_rng _ _) (sv_rng _ _) (sv_rng _ _) ⟨fun z0 => ?_, fun z0 => ?_⟩
    · first | (exact l_eqs 1993 dL_law_1988 (by decide) rfl (tail _)) | (exact l_eqs 1993 dL_law_1988 (by decide) (by omega) (tail _)) | (exfalso; omega) | (exact absurd z0 n36) | (exact absurd rfl z1) | (exact absurd (e46 _ (by omega)) z1)
    · first | (exact l_eqs 1993 dL_law_1988 (by decide) rfl (tail _)) | (exact l_eqs 1993 dL_law_1988 (by decide) (by omega) (tail _)) | (exfalso; omega) | (exact absurd z0 n36) | (exact absurd rfl z1) | (exact absurd (e46 _ (by omega)) z1)
  · exact absurd m0 q1.1
  · exact absurd m0 q1.1
  · exact absurd m0 q1.1

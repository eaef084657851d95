set_option maxRecDepth 100000 in
set_option maxHeartbeats 4000000 in
theorem c_X12_isLaw {d : Nat} {h gg : fwH} {Q : Option fwV → fwH → Prop} (x : Int) (J : cOk gg) (R : jF gg h) (hx : -2147483648 ≤ x ∧ x < 2147483648) (k : Q (some (aI (fwB (0 < gg 3 0 6 ∧ 1 ≤ x ∧ x ≤ 999)))) h) : fwCt mX12_isLaw (d + 1) [aR 12 0, aI x] h Q := by
  refine fwCt_of [some (aR 12 0), some (aI x)] rfl rfl rfl ?_
  obtain ⟨hl, hP, hG, -, -, -, hlw, -, ha, hs, -, hsc⟩ := id J
  obtain ⟨⟨g1, g2⟩, ⟨g3, g4⟩, ⟨g5, g6⟩, g7, -⟩ := id hG
  have hpz := hP.1
  refine w_aload_n dX12_isLaw_0 rfl ?_
  refine w_callV (d := d + 0) (S := []) [] dX12_isLaw_1 ml_X12_73 ok_X12_isMount vi_X12_isMount rfl rfl (by decide) rfl (Nat.le_of_ble_eq_true rfl) ?_
  refine c_X12_isMount (d := d) J R ?_
  show fwWP mX12_isLaw (d + 1) 4 [some (aR 12 0), some (aI x)] [aI (fwB (0 < gg 3 0 6))] h Q
  refine w_ifB_eq 23 dX12_isLaw_4 (by decide) (fun c4 => ?_) (fun c4 => ?_)
  · refine w_iconst dX12_isLaw_23 ?_
    exact w_zretE dX12_isLaw_24 rfl (by first | (exfalso; omega) | (rw [fwB_t (by omega)]) | (rw [fwB_f (by omega)]) | rfl) k
  · refine w_iload_n dX12_isLaw_7 rfl ?_
    refine w_i2l dX12_isLaw_8 (by omega) ?_
    refine w_lconst (z := 1) dX12_isLaw_9 rfl ?_
    refine w_ldc2 (n := 999) dX12_isLaw_10 cs_X12_347 ?_
    refine w_callS (d := d + 0) (S := []) [aJ x, aJ 1, aJ 999] dX12_isLaw_13 ml_X12_65 ok_X12_in st_X12_in rfl (Nat.le_of_ble_eq_true rfl) ?_
    refine c_X12_in (d := d) x 1 999 (by omega) (by omega) (by omega) ?_
    show fwWP mX12_isLaw (d + 1) 16 [some (aR 12 0), some (aI x)] [aI (fwB (1 ≤ x ∧ x ≤ 999))] h Q
    refine w_ifB_eq 23 dX12_isLaw_16 (by decide) (fun c16 => ?_) (fun c16 => ?_)
    · refine w_iconst dX12_isLaw_23 ?_
      exact w_zretE dX12_isLaw_24 rfl (by first | (exfalso; omega) | (rw [fwB_t (by omega)]) | (rw [fwB_f (by omega)]) | rfl) k
    · refine w_iconst dX12_isLaw_19 ?_
      refine w_goto 24 dX12_isLaw_20 (by decide) ?_
      exact w_zretE dX12_isLaw_24 rfl (by first | (exfalso; omega) | (rw [fwB_t (by omega)]) | (rw [fwB_f (by omega)]) | rfl) k
set_option maxRecDepth 100000 in
set_option maxHeartbeats 4000000 in
theorem c_X12_areMonths {d : Nat} {h gg : fwH} {Q : Option fwV → fwH → Prop} (x : Int) (y : Int) (J : cOk gg) (R : jF gg h) (hx : -2147483648 ≤ x ∧ x < 2147483648) (hy : -2147483648 ≤ y ∧ y < 2147483648) (k : Q (some (aI (fwB (0 < gg 3 0 6 ∧ (0 ≤ x ∧ x ≤ 2000000000) ∧ 0 ≤ y ∧ y ≤ 40)))) h) : fwCt mX12_areMonths (d + 1) [aR 12 0, aI x, aI y] h Q := by
  refine fwCt_of [some (aR 12 0), some (aI x), some (aI y)] rfl rfl rfl ?_
  obtain ⟨hl, hP, hG, -, -, -, hlw, -, ha, hs, -, hsc⟩ := id J
  obtain ⟨⟨g1, g2⟩, ⟨g3, g4⟩, ⟨g5, g6⟩, g7, -⟩ := id hG
  have hpz := hP.1
  refine w_aload_n dX12_areMonths_0 rfl ?_
  refine w_callV (d := d + 0) (S := []) [] dX12_areMonths_1 ml_X12_73 ok_X12_isMount vi_X12_isMount rfl rfl (by decide) rfl (Nat.le_of_ble_eq_true rfl) ?_
  refine c_X12_isMount (d := d) J R ?_
  show fwWP mX12_areMonths (d + 1) 4 [some (aR 12 0), some (aI x), some (aI y)] [aI (fwB (0 < gg 3 0 6))] h Q
  refine w_ifB_eq 35 dX12_areMonths_4 (by decide) (fun c4 => ?_) (fun c4 => ?_)
  · refine w_iconst dX12_areMonths_35 ?_
    exact w_zretE dX12_areMonths_36 rfl (by first | (exfalso; omega) | (rw [fwB_t (by omega)]) | (rw [fwB_f (by omega)]) | rfl) k
  · refine w_iload_n dX12_areMonths_7 rfl ?_
    refine w_i2l dX12_areMonths_8 (by omega) ?_
    refine w_lconst (z := 0) dX12_areMonths_9 rfl ?_
    refine w_ldc2 (n := 2000000000) dX12_areMonths_10 cs_X12_398 ?_
    refine w_callS (d := d + 0) (S := []) [aJ x, aJ 0, aJ 2000000000] dX12_areMonths_13 ml_X12_65 ok_X12_in st_X12_in rfl (Nat.le_of_ble_eq_true rfl) ?_
    refine c_X12_in (d := d) x 0 2000000000 (by omega) (by omega) (by omega) ?_
    show fwWP mX12_areMonths (d + 1) 16 [some (aR 12 0), some (aI x), some (aI y)] [aI (fwB (0 ≤ x ∧ x ≤ 2000000000))] h Q
    refine w_ifB_eq 35 dX12_areMonths_16 (by decide) (fun c16 => ?_) (fun c16 => ?_)
    · refine w_iconst dX12_areMonths_35 ?_
      exact w_zretE dX12_areMonths_36 rfl (by first | (exfalso; omega) | (rw [fwB_t (by omega)]) | (rw [fwB_f (by omega)]) | rfl) k
    · refine w_iload_n dX12_areMonths_19 rfl ?_
      refine w_i2l dX12_areMonths_20 (by omega) ?_
      refine w_lconst (z := 0) dX12_areMonths_21 rfl ?_
      refine w_ldc2 (n := 40) dX12_areMonths_22 cs_X12_156 ?_
      refine w_callS (d := d + 0) (S := []) [aJ y, aJ 0, aJ 40] dX12_areMonths_25 ml_X12_65 ok_X12_in st_X12_in rfl (Nat.le_of_ble_eq_true rfl) ?_
      refine c_X12_in (d := d) y 0 40 (by omega) (by omega) (by omega) ?_
      show fwWP mX12_areMonths (d + 1) 28 [some (aR 12 0), some (aI x), some (aI y)] [aI (fwB (0 ≤ y ∧ y ≤ 40))] h Q
      refine w_ifB_eq 35 dX12_areMonths_28 (by decide) (fun c28 => ?_) (fun c28 => ?_)
      · refine w_iconst dX12_areMonths_35 ?_
        exact w_zretE dX12_areMonths_36 rfl (by first | (exfalso; omega) | (rw [fwB_t (by omega)]) | (rw [fwB_f (by omega)]) | rfl) k
      · refine w_iconst dX12_areMonths_31 ?_
        refine w_goto 36 dX12_areMonths_32 (by decide) ?_
        exact w_zretE dX12_areMonths_36 rfl (by first | (exfalso; omega) | (rw [fwB_t (by omega)]) | (rw [fwB_f (by omega)]) | rfl) k
set_option maxRecDepth 100000 in
set_option maxHeartbeats 4000000 in
theorem c_X12_goCourse {d : Nat} {h gg : fwH} {Q : Option fwV → fwH → Prop} (x : Int) (J : cOk gg) (R : jF gg h) (K : jA gg h) (ht : 0 < gg 3 0 6) (hx : 1 ≤ x ∧ x ≤ 999) (k : ∀ (u : Nat) A, u = mFst (mGoB gg x) 60 → hiR (gg 4 0 1) A (mLw gg u) → Q (some (aI (u : Int))) (fwUc h 42 0 A)) : fwCt mX12_goCourse (d + 6) [aR 12 0, aI x] h Q := by
  refine fwCt_of [some (aR 12 0), some (aI x), none] rfl rfl rfl ?_
  obtain ⟨hl, hP, hG, hM0, htd, hut, hlw, hhc, ha, hs, hT, hsc⟩ := id J
  have hb17 : hB (gg 17 0) := fun c hc => by have := hM0 c hc; omega
  obtain ⟨⟨g1, g2⟩, ⟨g3, g4⟩, ⟨g5, g6⟩, g7, -⟩ := id hG
  have h17_99 : ∀ c : Nat, (c : Int) < gg 4 0 1 → gg 17 0 c ≤ 99 := fun c hc => (hM0 c (by omega)).2
  have hpz := hP.1
  have hrs1 := R.2.2.2.2.2.2.2.2.2.2.2
  refine w_aload_n dX12_goCourse_0 rfl ?_
  refine w_callV (d := d + 5) (S := []) [] dX12_goCourse_1 ml_X12_240 ok_X12_asItIs vi_X12_asItIs rfl rfl (by decide) rfl (Nat.le_of_ble_eq_true rfl) ?_
  refine c_X12_asItIs (d := d) J R K (show 1 ≤ gg 4 0 1 by omega) (show 1 ≤ gg 4 0 3 by omega) ?_
  intro A1_1 hA1_1
  show fwWP mX12_goCourse (d + 6) 4 [some (aR 12 0), some (aI x), none] [] (fwUc h 42 0 A1_1) Q
  refine w_iconst dX12_goCourse_4 ?_
  refine w_istore_n [some (aR 12 0), some (aI x), some (aI 0)] dX12_goCourse_5 rfl (by decide) ?_
  have lp6 : ∀ c : Nat, c ≤ 60 → ∀ (y6 : Int) (A6 : Nat → Int), y6 = (c : Int) → hiR (gg 4 0 1) A6 (mLw gg c) → (mFst (mGoB gg x) c = c) → fwWP mX12_goCourse (d + 6) 6 [some (aR 12 0), some (aI x), some (aI y6)] [] (fwUc h 42 0 A6) Q := by
    refine fw_up (fun c hc6 ih6 => ?_)
    intro y6 A6 ey6 hA6 iv6_0
    subst ey6
    show fwWP mX12_goCourse (d + 6) 6 [some (aR 12 0), some (aI x), some (aI (c : Int))] [] (fwUc h 42 0 A6) Q
    refine w_iload_n dX12_goCourse_6 rfl ?_
    refine w_bipush dX12_goCourse_7 rfl ?_
    refine w_icmp_ge 42 dX12_goCourse_9 (by decide) (by omega) (by omega) (fun c9 => ?_) (fun c9 => ?_)
    · refine w_iload_n dX12_goCourse_42 rfl ?_
      have ec6 : c = 60 := by omega
      subst ec6
      exact w_iret dX12_goCourse_43 rfl (k 60 _ iv6_0.symm hA6)
    · have hbl := mLw_hb J c
      refine w_aload_n dX12_goCourse_12 rfl ?_
      refine w_aload_n dX12_goCourse_13 rfl ?_
      refine w_aload_n dX12_goCourse_14 rfl ?_
      refine w_callV (d := d + 5) (S := [aR 12 0, aR 12 0]) [] dX12_goCourse_15 ml_X12_263 ok_X12_willingSet vi_X12_willingSet rfl rfl (by decide) rfl (Nat.le_of_ble_eq_true rfl) ?_
      refine c_X12_willingSet (d := d) (mLw gg c) J R hA6 hbl (show 1 ≤ gg 4 0 1 by omega) ?_
      intro A15_3 hA15_3
      show fwWP mX12_goCourse (d + 6) 18 [some (aR 12 0), some (aI x), some (aI (c : Int))] [aI (mGers (gg 4 0 1) (mLw gg c) (gg 4 0 2) (gg 4 0 4) (gg 18 0) (gg 5 0 3).toNat (-1)), aR 12 0, aR 12 0] (fwUc (fwUc h 42 0 A6) 42 0 A15_3) Q
      rw [show (fwUc (fwUc h 42 0 A6) 42 0 A15_3) = (fwUc h 42 0 A15_3) from by funext a b; simp only [fwUc]; (repeat' split); all_goals first | rfl | (exfalso; omega)]
      have hwr3 := mGers_r (gg 4 0 1) (mLw gg c) (gg 4 0 2) (gg 4 0 4) (gg 18 0) (m := (gg 5 0 3).toNat) (-1) (by omega)
      have hw8_4 := mGers_8 (gg 4 0 1) (mLw gg c) (gg 4 0 2) (gg 4 0 4) (gg 18 0) (m := (gg 5 0 3).toNat) (-1) (by omega)
      refine w_iconst dX12_goCourse_18 ?_
      refine w_callV (d := d + 5) (S := [aR 12 0]) [aI (mGers (gg 4 0 1) (mLw gg c) (gg 4 0 2) (gg 4 0 4) (gg 18 0) (gg 5 0 3).toNat (-1)), aI 0] dX12_goCourse_19 ml_X12_270 ok_X12_signing vi_X12_signing rfl rfl (by decide) rfl (Nat.le_of_ble_eq_true rfl) ?_
      refine c_sgE (d := (d + 4)) (mGers (gg 4 0 1) (mLw gg c) (gg 4 0 2) (gg 4 0 4) (gg 18 0) (gg 5 0 3).toNat (-1)) 0 J R (by omega) (by omega) ?_
      show fwWP mX12_goCourse (d + 6) 22 [some (aR 12 0), some (aI x), some (aI (c : Int))] [aI (mSign (gg 18 0) (gg 5 0 3).toNat (mGers (gg 4 0 1) (mLw gg c) (gg 4 0 2) (gg 4 0 4) (gg 18 0) (gg 5 0 3).toNat (-1)) 0), aR 12 0] (fwUc h 42 0 A15_3) Q
      refine w_callV (d := d + 5) (S := []) [aI (mSign (gg 18 0) (gg 5 0 3).toNat (mGers (gg 4 0 1) (mLw gg c) (gg 4 0 2) (gg 4 0 4) (gg 18 0) (gg 5 0 3).toNat (-1)) 0)] dX12_goCourse_22 ml_X12_260 ok_X12_namesOf vi_X12_namesOf rfl rfl (by decide) rfl (Nat.le_of_ble_eq_true rfl) ?_
      refine c_X12_namesOf (d := (d + 4)) (mSign (gg 18 0) (gg 5 0 3).toNat (mGers (gg 4 0 1) (mLw gg c) (gg 4 0 2) (gg 4 0 4) (gg 18 0) (gg 5 0 3).toNat (-1)) 0) J R ?_
      show fwWP mX12_goCourse (d + 6) 25 [some (aR 12 0), some (aI x), some (aI (c : Int))] [aI (mNames (gg 18 0) (mSign (gg 18 0) (gg 5 0 3).toNat (mGers (gg 4 0 1) (mLw gg c) (gg 4 0 2) (gg 4 0 4) (gg 18 0) (gg 5 0 3).toNat (-1)) 0) (gg 5 0 3).toNat)] (fwUc h 42 0 A15_3) Q
      have hnr5 := mNames_r2 hP (mSign (gg 18 0) (gg 5 0 3).toNat (mGers (gg 4 0 1) (mLw gg c) (gg 4 0 2) (gg 4 0 4) (gg 18 0) (gg 5 0 3).toNat (-1)) 0)
      change fwWP _ _ _ _ (aI (mNT gg (mLw gg c)) :: _) _ _
      have hnt : 0 ≤ mNT gg (mLw gg c) ∧ mNT gg (mLw gg c) ≤ 792 := mNames_r2 hP _
      refine w_iload_n dX12_goCourse_25 rfl ?_
      refine w_icmp_lt 42 dX12_goCourse_26 (by decide) (by omega) (by omega) (fun c26 => ?_) (fun c26 => ?_)
      · refine w_iload_n dX12_goCourse_42 rfl ?_
        have est := mFst_stop iv6_0 (show ¬ mGoB gg x c = true from fun q0 => by have := (of_decide_eq_true q0).1; omega) (60 - c)
        rw [show c + (60 - c) = 60 by omega] at est
        exact w_iret dX12_goCourse_43 rfl (k c _ est.symm hA15_3)
      · refine w_aload_n dX12_goCourse_29 rfl ?_
        refine w_callV (d := d + 5) (S := []) [] dX12_goCourse_30 ml_X12_194 ok_X12_take0 vi_X12_take0 rfl rfl (by decide) rfl (Nat.le_of_ble_eq_true rfl) ?_
        refine c_X12_take0 (d := (d + 4)) (mLw gg c) J R hA15_3 hbl (show 1 ≤ gg 4 0 1 by omega) ?_
        intro A30_7 hA30_7
        show fwWP mX12_goCourse (d + 6) 33 [some (aR 12 0), some (aI x), some (aI (c : Int))] [aI (fwB (0 < (gg 4 0 1).toNat ∧ (mLw gg c) (mTop (mLw gg c) (gg 4 0 4) (gg 4 0 1).toNat).toNat ≠ 0))] (fwUc (fwUc h 42 0 A15_3) 42 0 A30_7) Q
        rw [show (fwUc (fwUc h 42 0 A15_3) 42 0 A30_7) = (fwUc h 42 0 A30_7) from by funext a b; simp only [fwUc]; (repeat' split); all_goals first | rfl | (exfalso; omega)]
        refine w_ifB_eq 42 dX12_goCourse_33 (by decide) (fun c33 => ?_) (fun c33 => ?_)
        · refine w_iload_n dX12_goCourse_42 rfl ?_
          have est := mFst_stop iv6_0 (show ¬ mGoB gg x c = true from fun q0 => c33 (of_decide_eq_true q0).2) (60 - c)
          rw [show c + (60 - c) = 60 by omega] at est
          exact w_iret dX12_goCourse_43 rfl (k c _ est.symm (by have z0 : hiR (gg 4 0 1) _ (mLow (gg 4 0 1).toNat (mLw gg c) (gg 4 0 4)) := hA30_7; rw [show mLow (gg 4 0 1).toNat (mLw gg c) (gg 4 0 4) = mLw gg c from mLw_stuck c33] at z0; exact z0))
        · refine w_iinc [some (aR 12 0), some (aI x), some (aI ((c : Int) + 1))] dX12_goCourse_36 rfl rfl (by decide) ?_
          refine w_goto 6 dX12_goCourse_39 (by decide) ?_
          refine ih6 (by omega) _ _ ?_ ?_ ?_
          · exact (by omega)
          · exact hA30_7
          · exact (mFst_go iv6_0 (decide_eq_true ⟨c26, c33⟩))
  have z6 := lp6 0 (Nat.zero_le _) _ A1_1 (by exact (show 0 = ((0 : Nat) : Int) by omega))  hA1_1 rfl
  exact z6
set_option maxRecDepth 100000 in
set_option maxHeartbeats 4000000 in
theorem c_X12_course {d : Nat} {h gg : fwH} {Q : Option fwV → fwH → Prop} (x : Int) (J : cOk gg) (R : jF gg h) (K : jA gg h) (hsh : sc h) (hx : -2147483648 ≤ x ∧ x < 2147483648) (k : ∀ g, scr h g → Q (some (aI (an_course gg x))) g) : fwCt mX12_course (d + 7) [aR 12 0, aI x] h Q := by
  refine fwCt_of [some (aR 12 0), some (aI x)] rfl rfl rfl ?_
  obtain ⟨hl, hP, hG, hM0, htd, hut, hlw, hhc, ha, hs, hT, hsc⟩ := id J
  have hb17 : hB (gg 17 0) := fun c hc => by have := hM0 c hc; omega
  obtain ⟨⟨g1, g2⟩, ⟨g3, g4⟩, ⟨g5, g6⟩, g7, -⟩ := id hG
  have h17_99 : ∀ c : Nat, (c : Int) < gg 4 0 1 → gg 17 0 c ≤ 99 := fun c hc => (hM0 c (by omega)).2
  have hpz := hP.1
  have hrs1 := R.2.2.2.2.2.2.2.2.2.2.2
  refine w_aload_n dX12_course_0 rfl ?_
  refine w_iload_n dX12_course_1 rfl ?_
  refine w_callV (d := d + 6) (S := []) [aI x] dX12_course_2 ml_X12_349 ok_X12_isLaw vi_X12_isLaw rfl rfl (by decide) rfl (Nat.le_of_ble_eq_true rfl) ?_
  refine c_X12_isLaw (d := (d + 5)) x J R (by omega) ?_
  show fwWP mX12_course (d + 7) 5 [some (aR 12 0), some (aI x)] [aI (fwB (0 < gg 3 0 6 ∧ 1 ≤ x ∧ x ≤ 999))] h Q
  refine w_ifB_eq 16 dX12_course_5 (by decide) (fun c5 => ?_) (fun c5 => ?_)
  · refine w_bipush dX12_course_16 rfl ?_
    exact w_iretE dX12_course_18 rfl (by unfold an_course; first | (rw [if_neg (by omega)]; done) | (rw [if_pos (by omega), ← eu]; done)) (k _ (scr_rf hsh))
  · refine w_aload_n dX12_course_8 rfl ?_
    refine w_iload_n dX12_course_9 rfl ?_
    refine w_callV (d := d + 6) (S := []) [aI x] dX12_course_10 ml_X12_352 ok_X12_goCourse vi_X12_goCourse rfl rfl (by decide) rfl (Nat.le_of_ble_eq_true rfl) ?_
    refine c_X12_goCourse (d := d) x J R K (by omega) (by omega) ?_
    intro u A10 eu hA10
    show fwWP mX12_course (d + 7) 13 [some (aR 12 0), some (aI x)] [aI (u : Int)] (fwUc h 42 0 A10) Q
    refine w_goto 18 dX12_course_13 (by decide) ?_
    exact w_iretE dX12_course_18 rfl (by unfold an_course; first | (rw [if_neg (by omega)]; done) | (rw [if_pos (by omega), ← eu]; done)) (k _ (scr_uc (scr_rf hsh) rfl (by decide) (by decide) (by decide)))
set_option maxRecDepth 100000 in
set_option maxHeartbeats 4000000 in
theorem c_X12_ends {d : Nat} {h gg : fwH} {Q : Option fwV → fwH → Prop} (x : Int) (J : cOk gg) (R : jF gg h) (K : jA gg h) (hsh : sc h) (hx : -2147483648 ≤ x ∧ x < 2147483648) (k : ∀ g, scr h g → Q (some (aI (an_ends gg x))) g) : fwCt mX12_ends (d + 7) [aR 12 0, aI x] h Q := by
  refine fwCt_of [some (aR 12 0), some (aI x)] rfl rfl rfl ?_
  obtain ⟨hl, hP, hG, hM0, htd, hut, hlw, hhc, ha, hs, hT, hsc⟩ := id J
  have hb17 : hB (gg 17 0) := fun c hc => by have := hM0 c hc; omega
  obtain ⟨⟨g1, g2⟩, ⟨g3, g4⟩, ⟨g5, g6⟩, g7, -⟩ := id hG
  have h17_99 : ∀ c : Nat, (c : Int) < gg 4 0 1 → gg 17 0 c ≤ 99 := fun c hc => (hM0 c (by omega)).2
  have hpz := hP.1
  have hrs1 := R.2.2.2.2.2.2.2.2.2.2.2
  refine w_aload_n dX12_ends_0 rfl ?_
  refine w_iload_n dX12_ends_1 rfl ?_
  refine w_callV (d := d + 6) (S := []) [aI x] dX12_ends_2 ml_X12_349 ok_X12_isLaw vi_X12_isLaw rfl rfl (by decide) rfl (Nat.le_of_ble_eq_true rfl) ?_
  refine c_X12_isLaw (d := (d + 5)) x J R (by omega) ?_
  show fwWP mX12_ends (d + 7) 5 [some (aR 12 0), some (aI x)] [aI (fwB (0 < gg 3 0 6 ∧ 1 ≤ x ∧ x ≤ 999))] h Q
  refine w_ifB_ne 11 dX12_ends_5 (by decide) (fun c5 => ?_) (fun c5 => ?_)
  · refine w_aload_n dX12_ends_11 rfl ?_
    refine w_iload_n dX12_ends_12 rfl ?_
    refine w_callV (d := d + 6) (S := []) [aI x] dX12_ends_13 ml_X12_352 ok_X12_goCourse vi_X12_goCourse rfl rfl (by decide) rfl (Nat.le_of_ble_eq_true rfl) ?_
    refine c_X12_goCourse (d := d) x J R K (by omega) (by omega) ?_
    intro u A13 eu hA13
    show fwWP mX12_ends (d + 7) 16 [some (aR 12 0), some (aI x)] [aI (u : Int)] (fwUc h 42 0 A13) Q
    refine w_pop dX12_ends_16 rfl ?_
    have hbu := mLw_hb J u
    refine w_aload_n dX12_ends_17 rfl ?_
    refine w_getr 42 0 dX12_ends_18 fl_X12_34 rfl (by decide) ?_
    refine w_aload_n dX12_ends_21 rfl ?_
    refine w_callV (d := d + 6) (S := [aR 42 0]) [] dX12_ends_22 ml_X12_200 ok_X12_topCell vi_X12_topCell rfl rfl (by decide) rfl (Nat.le_of_ble_eq_true rfl) ?_
    refine c_X12_topCell (d := (d + 6)) (mLw gg u) J R hA13 (mLw_hb J u) (show 1 ≤ gg 4 0 1 by omega) ?_
    show fwWP mX12_ends (d + 7) 25 [some (aR 12 0), some (aI x)] [aI (mTop (mLw gg u) (gg 4 0 4) (gg 4 0 1).toNat), aR 42 0] (fwUc h 42 0 A13) Q
    have htp2 := mTop_r2 (mLw gg u) (gg 4 0 4) (gg 4 0 1).toNat (by omega)
    refine w_ialdE (v := (mLw gg u) (mTop (mLw gg u) (gg 4 0 4) (gg 4 0 1).toNat).toNat) dX12_ends_25 rfl (by decide) (by omega) (by omega) (hA13 _ (by omega)) ?_
    exact w_iretE dX12_ends_26 rfl (by unfold an_ends; first | (rw [if_neg (by omega)]; done) | (rw [if_pos (by omega), ← eu, mMax_top (ls := gg 4 0 4) (gg 4 0 1).toNat (by omega) (fun c hc => (mLw_hb J u c (by omega)).1)]; done)) (k _ (scr_uc (scr_rf hsh) rfl (by decide) (by decide) (by decide)))
  · refine w_bipush dX12_ends_8 rfl ?_
    exact w_iretE dX12_ends_10 rfl (by unfold an_ends; first | (rw [if_neg (by omega)]; done) | (rw [if_pos (by omega), ← eu, mMax_top (ls := gg 4 0 4) (gg 4 0 1).toNat (by omega) (fun c hc => (mLw_hb J u c (by omega)).1)]; done)) (k _ (scr_rf hsh))
set_option maxRecDepth 100000 in
set_option maxHeartbeats 4000000 in
theorem c_X12_left {d : Nat} {h gg : fwH} {Q : Option fwV → fwH → Prop} (x : Int) (y : Int) (J : cOk gg) (R : jF gg h) (K : jA gg h) (hsh : sc h) (hx : -2147483648 ≤ x ∧ x < 2147483648) (hy : -2147483648 ≤ y ∧ y < 2147483648) (k : ∀ g, scr h g → Q (some (aI (an_left gg x y))) g) : fwCt mX12_left (d + 7) [aR 12 0, aI x, aI y] h Q := by
  refine fwCt_of [some (aR 12 0), some (aI x), some (aI y)] rfl rfl rfl ?_
  obtain ⟨hl, hP, hG, hM0, htd, hut, hlw, hhc, ha, hs, hT, hsc⟩ := id J
  have hb17 : hB (gg 17 0) := fun c hc => by have := hM0 c hc; omega
  obtain ⟨⟨g1, g2⟩, ⟨g3, g4⟩, ⟨g5, g6⟩, g7, -⟩ := id hG
  have h17_99 : ∀ c : Nat, (c : Int) < gg 4 0 1 → gg 17 0 c ≤ 99 := fun c hc => (hM0 c (by omega)).2
  have hpz := hP.1
  have hrs1 := R.2.2.2.2.2.2.2.2.2.2.2
  refine w_aload_n dX12_left_0 rfl ?_
  refine w_iload_n dX12_left_1 rfl ?_
  refine w_callV (d := d + 6) (S := []) [aI x] dX12_left_2 ml_X12_349 ok_X12_isLaw vi_X12_isLaw rfl rfl (by decide) rfl (Nat.le_of_ble_eq_true rfl) ?_
  refine c_X12_isLaw (d := (d + 5)) x J R (by omega) ?_
  show fwWP mX12_left (d + 7) 5 [some (aR 12 0), some (aI x), some (aI y)] [aI (fwB (0 < gg 3 0 6 ∧ 1 ≤ x ∧ x ≤ 999))] h Q
  refine w_ifB_eq 17 dX12_left_5 (by decide) (fun c5 => ?_) (fun c5 => ?_)
  · refine w_sipush dX12_left_17 rfl ?_
    exact w_iretE dX12_left_20 rfl (by unfold an_left; first | (rw [if_neg (by omega)]; done) | (rw [if_pos (by omega), ← eu]; done) | (rw [if_pos (by omega), ← eu]; rfl)) (k _ (scr_rf hsh))
  · refine w_aload_n dX12_left_8 rfl ?_
    refine w_iload_n dX12_left_9 rfl ?_
    refine w_i2l dX12_left_10 (by omega) ?_
    refine w_callV (d := d + 6) (S := []) [aJ y] dX12_left_11 ml_X12_235 ok_X12_isFolk vi_X12_isFolk rfl rfl (by decide) rfl (Nat.le_of_ble_eq_true rfl) ?_
    refine c_X12_isFolk (d := (d + 5)) y J R (by omega) ?_
    show fwWP mX12_left (d + 7) 14 [some (aR 12 0), some (aI x), some (aI y)] [aI (fwB (0 ≤ y ∧ y ≤ gg 5 0 3 - 1))] h Q
    refine w_ifB_ne 21 dX12_left_14 (by decide) (fun c14 => ?_) (fun c14 => ?_)
    · refine w_aload_n dX12_left_21 rfl ?_
      refine w_iload_n dX12_left_22 rfl ?_
      obtain ⟨f, rfl⟩ : ∃ f : Nat, y = (f : Int) := ⟨y.toNat, by omega⟩
      refine w_callV (d := d + 6) (S := []) [aI x] dX12_left_23 ml_X12_352 ok_X12_goCourse vi_X12_goCourse rfl rfl (by decide) rfl (Nat.le_of_ble_eq_true rfl) ?_
      refine c_X12_goCourse (d := d) x J R K (by omega) (by omega) ?_
      intro u A23 eu hA23
      show fwWP mX12_left (d + 7) 26 [some (aR 12 0), some (aI x), some (aI (f : Int))] [aI (u : Int)] (fwUc h 42 0 A23) Q
      refine w_pop dX12_left_26 rfl ?_
      refine w_aload_n dX12_left_27 rfl ?_
      refine w_iload_n dX12_left_28 rfl ?_
      refine w_callV (d := d + 6) (S := []) [aI (f : Int)] dX12_left_29 ml_X12_232 ok_X12_gainOf vi_X12_gainOf rfl rfl (by decide) rfl (Nat.le_of_ble_eq_true rfl) ?_
      refine c_X12_gainOf (d := (d + 2)) f (mLw gg u) J R hA23 (mLw_hb J u) (show 1 ≤ gg 4 0 1 by omega) (show (f : Int) < gg 5 0 3 by omega) ?_
      show fwWP mX12_left (d + 7) 32 [some (aR 12 0), some (aI x), some (aI (f : Int))] [aI (mGain (gg 4 0 1) (mLw gg u) (gg 4 0 2) (gg 18 0) f)] (fwUc h 42 0 A23) Q
      have hgr3 := mGain_r2 J (mLw_hb J u) f (by omega)
      exact w_iretE dX12_left_32 rfl (by unfold an_left; first | (rw [if_neg (by omega)]; done) | (rw [if_pos (by omega), ← eu]; done) | (rw [if_pos (by omega), ← eu]; rfl)) (k _ (scr_uc (scr_rf hsh) rfl (by decide) (by decide) (by decide)))
    · refine w_sipush dX12_left_17 rfl ?_
      exact w_iretE dX12_left_20 rfl (by unfold an_left; first | (rw [if_neg (by omega)]; done) | (rw [if_pos (by omega), ← eu]; done) | (rw [if_pos (by omega), ← eu]; rfl)) (k _ (scr_rf hsh))
theorem mFst_all {p : Nat → Bool} : ∀ n : Nat, mFst p n = n ↔ ∀ j, j < n → p j = true := by
  intro n
  constructor
  · intro h j hj
    exact mFst_pre n j (by omega)
  · intro h
    rcases Nat.lt_or_ge (mFst p n) n with e | e
    · have h1 := mFst_not n e
      rw [h _ e] at h1
      cases h1
    · have := mFst_le p n
      omega
theorem mLeast_1 {h : fwH} : ∀ n : Nat, 1 ≤ mLeast h n ↔ ∀ j, j < n → 1 ≤ mNT h (mLw h j) := by
  intro n
  induction n with
  | zero => constructor
            · intro _ j hj; omega
            · intro _; simp [mLeast]
  | succ n ih =>
    rw [mLeast]
    constructor
    · intro q j hj
      rcases Nat.lt_or_ge j n with e | e
      · exact ih.mp (by omega) j e
      · rw [show j = n by omega]; omega
    · intro q
      have h1 := ih.mpr (fun j hj => q j (by omega))
      have h2 := q n (by omega)
      omega
set_option maxRecDepth 100000 in
set_option maxHeartbeats 4000000 in
theorem c_X12_law {d : Nat} {h gg : fwH} {Q : Option fwV → fwH → Prop} (x : Int) (J : cOk gg) (R : jF gg h) (K : jA gg h) (hsh : sc h) (hx : -2147483648 ≤ x ∧ x < 2147483648) (k : ∀ g, scr h g → Q (some (aI (an_law gg x))) g) : fwCt mX12_law (d + 7) [aR 12 0, aI x] h Q := by
  refine fwCt_of [some (aR 12 0), some (aI x), none, none] rfl rfl rfl ?_
  obtain ⟨hl, hP, hG, hM0, htd, hut, hlw, hhc, ha, hs, hT, hsc⟩ := id J
  have hb17 : hB (gg 17 0) := fun c hc => by have := hM0 c hc; omega
  obtain ⟨⟨g1, g2⟩, ⟨g3, g4⟩, ⟨g5, g6⟩, g7, -⟩ := id hG
  have h17_99 : ∀ c : Nat, (c : Int) < gg 4 0 1 → gg 17 0 c ≤ 99 := fun c hc => (hM0 c (by omega)).2
  have hpz := hP.1
  have hrs1 := R.2.2.2.2.2.2.2.2.2.2.2
  refine w_aload_n dX12_law_0 rfl ?_
  refine w_callV (d := d + 6) (S := []) [] dX12_law_1 ml_X12_73 ok_X12_isMount vi_X12_isMount rfl rfl (by decide) rfl (Nat.le_of_ble_eq_true rfl) ?_
  refine c_X12_isMount (d := (d + 6)) J R ?_
  show fwWP mX12_law (d + 7) 4 [some (aR 12 0), some (aI x), none, none] [aI (fwB (0 < gg 3 0 6))] h Q
  refine w_ifB_eq 19 dX12_law_4 (by decide) (fun c4 => ?_) (fun c4 => ?_)
  · refine w_bipush dX12_law_19 rfl ?_
    exact w_iretE dX12_law_21 rfl (by unfold an_law; rw [if_neg (by omega)]) (k _ (scr_rf hsh))
  · refine w_iload_n dX12_law_7 rfl ?_
    refine w_i2l dX12_law_8 (by omega) ?_
    refine w_lconst (z := 1) dX12_law_9 rfl ?_
    refine w_ldc2 (n := 60) dX12_law_10 cs_X12_355 ?_
    refine w_callS (d := d + 6) (S := []) [aJ x, aJ 1, aJ 60] dX12_law_13 ml_X12_65 ok_X12_in st_X12_in rfl (Nat.le_of_ble_eq_true rfl) ?_
    refine c_X12_in (d := (d + 6)) x 1 60 (by omega) (by omega) (by omega) ?_
    show fwWP mX12_law (d + 7) 16 [some (aR 12 0), some (aI x), none, none] [aI (fwB (1 ≤ x ∧ x ≤ 60))] h Q
    refine w_ifB_ne 22 dX12_law_16 (by decide) (fun c16 => ?_) (fun c16 => ?_)
    · obtain ⟨u, rfl⟩ : ∃ u : Nat, x = (u : Int) := ⟨x.toNat, by omega⟩
      refine w_aload_n dX12_law_22 rfl ?_
      refine w_callV (d := d + 6) (S := []) [] dX12_law_23 ml_X12_240 ok_X12_asItIs vi_X12_asItIs rfl rfl (by decide) rfl (Nat.le_of_ble_eq_true rfl) ?_
      refine c_X12_asItIs (d := (d + 1)) J R K (show 1 ≤ gg 4 0 1 by omega) (show 1 ≤ gg 4 0 3 by omega) ?_
      intro A23_3 hA23_3
      show fwWP mX12_law (d + 7) 26 [some (aR 12 0), some (aI (u : Int)), none, none] [] (fwUc h 42 0 A23_3) Q
      refine w_sipush dX12_law_26 rfl ?_
      refine w_istore_n [some (aR 12 0), some (aI (u : Int)), some (aI 999), none] dX12_law_29 rfl (by decide) ?_
      refine w_iconst dX12_law_30 ?_
      refine w_istore_n [some (aR 12 0), some (aI (u : Int)), some (aI 999), some (aI 0)] dX12_law_31 rfl (by decide) ?_
      have lp32 : ∀ c : Nat, c ≤ u → ∀ (y32 le : Int) (A32 : Nat → Int), y32 = (c : Int) → le = mLeast gg c → hiR (gg 4 0 1) A32 (mLw gg c) → (∀ j : Nat, j < c → mCan gg (mLw gg j)) → fwWP mX12_law (d + 7) 32 [some (aR 12 0), some (aI (u : Int)), some (aI le), some (aI y32)] [] (fwUc h 42 0 A32) Q := by
        refine fw_up (fun c hc32 ih32 => ?_)
        intro y32 le A32 ey32 e_le hA32 iv32_0
        subst ey32
        subst e_le
        show fwWP mX12_law (d + 7) 32 [some (aR 12 0), some (aI (u : Int)), some (aI (mLeast gg c)), some (aI (c : Int))] [] (fwUc h 42 0 A32) Q
        refine w_iload_n dX12_law_32 rfl ?_
        refine w_iload_n dX12_law_33 rfl ?_
        refine w_icmp_ge 70 dX12_law_34 (by decide) (by omega) (by omega) (fun c34 => ?_) (fun c34 => ?_)
        · have ec32 : u = c := by omega
          subst ec32
          have hlr := mLeast_rng hP u
          refine w_iload_n dX12_law_70 rfl ?_
          refine w_if_ne 78 dX12_law_71 (by decide) (by omega) (fun c71 => ?_) (fun c71 => ?_)
          · refine w_iload_n dX12_law_78 rfl ?_
            exact w_iretE dX12_law_79 rfl (by unfold an_law; rw [if_pos (by omega)]; show mLeast gg u = mGrt gg u; unfold mGrt; rw [if_pos ((mFst_all (p := mGoB gg 1) u).mpr (fun j hj => decide_eq_true ⟨(mLeast_1 u).mp (by omega) j hj, iv32_0 j hj⟩))]) (k _ (scr_uc (scr_rf hsh) rfl (by decide) (by decide) (by decide)))
          · refine w_iconst dX12_law_74 ?_
            refine w_goto 79 dX12_law_75 (by decide) ?_
            exact w_iretE dX12_law_79 rfl (by unfold an_law; rw [if_pos (by omega)]; show -1 = mGrt gg u; unfold mGrt; rw [if_neg (fun q0 => by have q1 : 1 ≤ mLeast gg u := (mLeast_1 u).mpr (fun j hj => (of_decide_eq_true ((mFst_all u).mp q0 j hj)).1); omega)]) (k _ (scr_uc (scr_rf hsh) rfl (by decide) (by decide) (by decide)))
        · have hbl := mLw_hb J c
          have hlr := mLeast_rng hP c
          refine w_iload_n dX12_law_37 rfl ?_
          refine w_aload_n dX12_law_38 rfl ?_
          refine w_aload_n dX12_law_39 rfl ?_
          refine w_aload_n dX12_law_40 rfl ?_
          refine w_callV (d := d + 6) (S := [aR 12 0, aR 12 0, aI (mLeast gg c)]) [] dX12_law_41 ml_X12_263 ok_X12_willingSet vi_X12_willingSet rfl rfl (by decide) rfl (Nat.le_of_ble_eq_true rfl) ?_
          refine c_X12_willingSet (d := (d + 1)) (mLw gg c) J R hA32 hbl (show 1 ≤ gg 4 0 1 by omega) ?_
          intro A41_6 hA41_6
          show fwWP mX12_law (d + 7) 44 [some (aR 12 0), some (aI (u : Int)), some (aI (mLeast gg c)), some (aI (c : Int))] [aI (mGers (gg 4 0 1) (mLw gg c) (gg 4 0 2) (gg 4 0 4) (gg 18 0) (gg 5 0 3).toNat (-1)), aR 12 0, aR 12 0, aI (mLeast gg c)] (fwUc (fwUc h 42 0 A32) 42 0 A41_6) Q
          rw [show (fwUc (fwUc h 42 0 A32) 42 0 A41_6) = (fwUc h 42 0 A41_6) from by funext a b; simp only [fwUc]; (repeat' split); all_goals first | rfl | (exfalso; omega)]
          have hwr6 := mGers_r (gg 4 0 1) (mLw gg c) (gg 4 0 2) (gg 4 0 4) (gg 18 0) (m := (gg 5 0 3).toNat) (-1) (by omega)
          have hw8_7 := mGers_8 (gg 4 0 1) (mLw gg c) (gg 4 0 2) (gg 4 0 4) (gg 18 0) (m := (gg 5 0 3).toNat) (-1) (by omega)
          refine w_iconst dX12_law_44 ?_
          refine w_callV (d := d + 6) (S := [aR 12 0, aI (mLeast gg c)]) [aI (mGers (gg 4 0 1) (mLw gg c) (gg 4 0 2) (gg 4 0 4) (gg 18 0) (gg 5 0 3).toNat (-1)), aI 0] dX12_law_45 ml_X12_270 ok_X12_signing vi_X12_signing rfl rfl (by decide) rfl (Nat.le_of_ble_eq_true rfl) ?_
          refine c_sgE (d := (d + 5)) (mGers (gg 4 0 1) (mLw gg c) (gg 4 0 2) (gg 4 0 4) (gg 18 0) (gg 5 0 3).toNat (-1)) 0 J R (by omega) (by omega) ?_
          show fwWP mX12_law (d + 7) 48 [some (aR 12 0), some (aI (u : Int)), some (aI (mLeast gg c)), some (aI (c : Int))] [aI (mSign (gg 18 0) (gg 5 0 3).toNat (mGers (gg 4 0 1) (mLw gg c) (gg 4 0 2) (gg 4 0 4) (gg 18 0) (gg 5 0 3).toNat (-1)) 0), aR 12 0, aI (mLeast gg c)] (fwUc h 42 0 A41_6) Q
          refine w_callV (d := d + 6) (S := [aI (mLeast gg c)]) [aI (mSign (gg 18 0) (gg 5 0 3).toNat (mGers (gg 4 0 1) (mLw gg c) (gg 4 0 2) (gg 4 0 4) (gg 18 0) (gg 5 0 3).toNat (-1)) 0)] dX12_law_48 ml_X12_260 ok_X12_namesOf vi_X12_namesOf rfl rfl (by decide) rfl (Nat.le_of_ble_eq_true rfl) ?_
          refine c_X12_namesOf (d := (d + 5)) (mSign (gg 18 0) (gg 5 0 3).toNat (mGers (gg 4 0 1) (mLw gg c) (gg 4 0 2) (gg 4 0 4) (gg 18 0) (gg 5 0 3).toNat (-1)) 0) J R ?_
          show fwWP mX12_law (d + 7) 51 [some (aR 12 0), some (aI (u : Int)), some (aI (mLeast gg c)), some (aI (c : Int))] [aI (mNames (gg 18 0) (mSign (gg 18 0) (gg 5 0 3).toNat (mGers (gg 4 0 1) (mLw gg c) (gg 4 0 2) (gg 4 0 4) (gg 18 0) (gg 5 0 3).toNat (-1)) 0) (gg 5 0 3).toNat), aI (mLeast gg c)] (fwUc h 42 0 A41_6) Q
          have hnr8 := mNames_r2 hP (mSign (gg 18 0) (gg 5 0 3).toNat (mGers (gg 4 0 1) (mLw gg c) (gg 4 0 2) (gg 4 0 4) (gg 18 0) (gg 5 0 3).toNat (-1)) 0)
          change fwWP _ _ _ _ (aI (mNT gg (mLw gg c)) :: _) _ _
          have hnt : 0 ≤ mNT gg (mLw gg c) ∧ mNT gg (mLw gg c) ≤ 792 := mNames_r2 hP _
          refine w_min (d := d + 6) (S := []) dX12_law_51 ml_X12_112 (by omega) (by omega) (Nat.le_of_ble_eq_true rfl) ?_
          refine w_istore_n [some (aR 12 0), some (aI (u : Int)), some (aI (min (mLeast gg c) (mNT gg (mLw gg c)))), some (aI (c : Int))] dX12_law_54 rfl (by decide) ?_
          refine w_aload_n dX12_law_55 rfl ?_
          refine w_callV (d := d + 6) (S := []) [] dX12_law_56 ml_X12_194 ok_X12_take0 vi_X12_take0 rfl rfl (by decide) rfl (Nat.le_of_ble_eq_true rfl) ?_
          refine c_X12_take0 (d := (d + 5)) (mLw gg c) J R hA41_6 hbl (show 1 ≤ gg 4 0 1 by omega) ?_
          intro A56_9 hA56_9
          show fwWP mX12_law (d + 7) 59 [some (aR 12 0), some (aI (u : Int)), some (aI (min (mLeast gg c) (mNT gg (mLw gg c)))), some (aI (c : Int))] [aI (fwB (0 < (gg 4 0 1).toNat ∧ (mLw gg c) (mTop (mLw gg c) (gg 4 0 4) (gg 4 0 1).toNat).toNat ≠ 0))] (fwUc (fwUc h 42 0 A41_6) 42 0 A56_9) Q
          rw [show (fwUc (fwUc h 42 0 A41_6) 42 0 A56_9) = (fwUc h 42 0 A56_9) from by funext a b; simp only [fwUc]; (repeat' split); all_goals first | rfl | (exfalso; omega)]
          refine w_ifB_ne 64 dX12_law_59 (by decide) (fun c59 => ?_) (fun c59 => ?_)
          · refine w_iinc [some (aR 12 0), some (aI (u : Int)), some (aI (min (mLeast gg c) (mNT gg (mLw gg c)))), some (aI ((c : Int) + 1))] dX12_law_64 rfl rfl (by decide) ?_
            refine w_goto 32 dX12_law_67 (by decide) ?_
            refine ih32 (by omega) _ _ _ ?_ ?_ ?_ ?_
            · exact (by omega)
            · exact (by rw [mLeast])
            · exact hA56_9
            · exact (fun j hj => by rcases Nat.lt_or_ge j c with e0 | e0; exact iv32_0 j e0; rw [show j = c by omega]; exact c59)
          · refine w_iconst dX12_law_62 ?_
            exact w_iretE dX12_law_63 rfl (by unfold an_law; rw [if_pos (by omega)]; show -1 = mGrt gg u; unfold mGrt; rw [if_neg (fun q0 => c59 (of_decide_eq_true ((mFst_all u).mp q0 c (by omega))).2)]) (k _ (scr_uc (scr_rf hsh) rfl (by decide) (by decide) (by decide)))
      have z32 := lp32 0 (Nat.zero_le _) _ _ A23_3 (by exact (show 0 = ((0 : Nat) : Int) by omega)) (by exact (show 999 = mLeast gg 0 from rfl)) hA23_3 (fun j hj => by omega)
      exact z32
    · refine w_bipush dX12_law_19 rfl ?_
      exact w_iretE dX12_law_21 rfl (by unfold an_law; rw [if_neg (by omega)]) (k _ (scr_rf hsh))
set_option maxRecDepth 100000 in
set_option maxHeartbeats 4000000 in
theorem c_X12_isLower {d : Nat} {h gg : fwH} {Q : Option fwV → fwH → Prop} (x y : Int) (H : Nat → Int) (J : cOk gg) (R : jF gg h) (hH : hiR (gg 4 0 1) (h 42 0) H) (hb : hB H) (hy : 0 ≤ y ∧ y < gg 4 0 1) (hx : -2147483648 ≤ x ∧ x < 2147483648) (k : Q (some (aI (fwB ((0 ≤ x ∧ x ≤ gg 4 0 1 - 1) ∧ H x.toNat < H y.toNat)))) h) : fwCt mX12_isLower (d + 2) [aR 12 0, aI x, aI y] h Q := by
  refine fwCt_of [some (aR 12 0), some (aI x), some (aI y)] rfl rfl rfl ?_
  obtain ⟨hl, hP, hG, -, -, -, hlw, -, ha, hs, -, hsc⟩ := id J
  obtain ⟨⟨g1, g2⟩, ⟨g3, g4⟩, ⟨g5, g6⟩, g7, -⟩ := id hG
  have hpz := hP.1
  refine w_aload_n dX12_isLower_0 rfl ?_
  refine w_iload_n dX12_isLower_1 rfl ?_
  refine w_i2l dX12_isLower_2 (by omega) ?_
  refine w_callV (d := d + 1) (S := []) [aJ x] dX12_isLower_3 ml_X12_203 ok_X12_isCell vi_X12_isCell rfl rfl (by decide) rfl (Nat.le_of_ble_eq_true rfl) ?_
  refine c_X12_isCell (d := d) x J R (by omega) ?_
  show fwWP mX12_isLower (d + 2) 6 [some (aR 12 0), some (aI x), some (aI y)] [aI (fwB (0 ≤ x ∧ x ≤ gg 4 0 1 - 1))] h Q
  refine w_ifB_eq 28 dX12_isLower_6 (by decide) (fun c6 => ?_) (fun c6 => ?_)
  · refine w_iconst dX12_isLower_28 ?_
    exact w_zretE dX12_isLower_29 rfl (by first | (exfalso; omega) | (rw [fwB_t (by omega)]) | (rw [fwB_f (by omega)]) | rfl) k
  · have hbx := hb x.toNat (by omega)
    have hby := hb y.toNat (by omega)
    refine w_aload_n dX12_isLower_9 rfl ?_
    refine w_getr 42 0 dX12_isLower_10 fl_X12_34 rfl (by decide) ?_
    refine w_iload_n dX12_isLower_13 rfl ?_
    refine w_ialdE (v := H (x).toNat) dX12_isLower_14 rfl (by decide) (by omega) (by omega) (hH _ (by omega)) ?_
    refine w_aload_n dX12_isLower_15 rfl ?_
    refine w_getr 42 0 dX12_isLower_16 fl_X12_34 rfl (by decide) ?_
    refine w_iload_n dX12_isLower_19 rfl ?_
    refine w_ialdE (v := H (y).toNat) dX12_isLower_20 rfl (by decide) (by omega) (by omega) (hH _ (by omega)) ?_
    refine w_icmp_ge 28 dX12_isLower_21 (by decide) (by omega) (by omega) (fun c21 => ?_) (fun c21 => ?_)
    · refine w_iconst dX12_isLower_28 ?_
      exact w_zretE dX12_isLower_29 rfl (by first | (exfalso; omega) | (rw [fwB_t (by omega)]) | (rw [fwB_f (by omega)]) | rfl) k
    · refine w_iconst dX12_isLower_24 ?_
      refine w_goto 29 dX12_isLower_25 (by decide) ?_
      exact w_zretE dX12_isLower_29 rfl (by first | (exfalso; omega) | (rw [fwB_t (by omega)]) | (rw [fwB_f (by omega)]) | rfl) k
set_option maxRecDepth 100000 in
set_option maxHeartbeats 4000000 in
theorem c_X12_flowOf {d : Nat} {h gg : fwH} {Q : Option fwV → fwH → Prop} (x : Int) (H : Nat → Int) (J : cOk gg) (R : jF gg h) (hH : hiR (gg 4 0 1) (h 42 0) H) (hb : hB H) (hx : 0 ≤ x ∧ x < gg 4 0 1) (k : Q (some (aI (mDesc (gg 4 0 1) H 0 10 x))) h) : fwCt mX12_flowOf (d + 3) [aR 12 0, aI x] h Q := by
  refine fwCt_of [some (aR 12 0), some (aI x), none, none] rfl rfl rfl ?_
  have g2 : gg 4 0 1 ≤ 10 := J.2.2.1.1.2
  refine w_iload_n dX12_flowOf_0 rfl ?_
  refine w_istore_n [some (aR 12 0), some (aI x), some (aI x), none] dX12_flowOf_1 rfl (by decide) ?_
  have lp2 : ∀ c : Nat, c ≤ 9 → ∀ v : Int, slI (gg 4 0 1) H 1 x c v → fwWP mX12_flowOf (d + 3) 2 [some (aR 12 0), some (aI x), some (aI v), none] [] h Q := by
    refine fw_up (fun c hc2 ih2 => ?_)
    intro v iv2
    have iv0 := iv2.1
    show fwWP mX12_flowOf (d + 3) 2 [some (aR 12 0), some (aI x), some (aI v), none] [] h Q
    refine w_aload_n dX12_flowOf_2 rfl ?_
    refine w_iload_n dX12_flowOf_3 rfl ?_
    refine w_iconst dX12_flowOf_4 ?_
    refine w_isub dX12_flowOf_5 ?_
    refine w_iload_n dX12_flowOf_6 rfl ?_
    refine w_callV (d := d + 2) (S := []) [aI (v - 1), aI v] dX12_flowOf_7 ml_X12_320 ok_X12_isLower vi_X12_isLower rfl rfl (by decide) rfl (Nat.le_of_ble_eq_true rfl) ?_
    refine c_X12_isLower (d := d) (v - 1) v H J R hH hb (show 0 ≤ v ∧ v < gg 4 0 1 by omega) (by omega) ?_
    show fwWP mX12_flowOf (d + 3) 10 [some (aR 12 0), some (aI x), some (aI v), none] [aI (fwB ((0 ≤ (v - 1) ∧ (v - 1) ≤ gg 4 0 1 - 1) ∧ H (v - 1).toNat < H v.toNat))] h Q
    refine w_ifB_ne 24 dX12_flowOf_10 (by decide) (fun c10 => ?_) (fun c10 => ?_)
    · refine w_aload_n dX12_flowOf_24 rfl ?_
      refine w_iload_n dX12_flowOf_25 rfl ?_
      refine w_iconst dX12_flowOf_26 ?_
      refine w_isub dX12_flowOf_27 ?_
      refine w_iload_n dX12_flowOf_28 rfl ?_
      refine w_callV (d := d + 2) (S := []) [aI (v - 1), aI v] dX12_flowOf_29 ml_X12_320 ok_X12_isLower vi_X12_isLower rfl rfl (by decide) rfl (Nat.le_of_ble_eq_true rfl) ?_
      refine c_X12_isLower (d := d) (v - 1) v H J R hH hb (show 0 ≤ v ∧ v < gg 4 0 1 by omega) (by omega) ?_
      show fwWP mX12_flowOf (d + 3) 32 [some (aR 12 0), some (aI x), some (aI v), none] [aI (fwB ((0 ≤ (v - 1) ∧ (v - 1) ≤ gg 4 0 1 - 1) ∧ H (v - 1).toNat < H v.toNat))] h Q
      refine w_ifB_eq 69 dX12_flowOf_32 (by decide) (fun c32 => ?_) (fun c32 => ?_)
      · exact absurd c10 c32
      · refine w_aload_n dX12_flowOf_35 rfl ?_
        refine w_iload_n dX12_flowOf_36 rfl ?_
        refine w_iconst dX12_flowOf_37 ?_
        refine w_iadd dX12_flowOf_38 ?_
        refine w_iload_n dX12_flowOf_39 rfl ?_
        refine w_callV (d := d + 2) (S := []) [aI (v + 1), aI v] dX12_flowOf_40 ml_X12_320 ok_X12_isLower vi_X12_isLower rfl rfl (by decide) rfl (Nat.le_of_ble_eq_true rfl) ?_
        refine c_X12_isLower (d := d) (v + 1) v H J R hH hb (show 0 ≤ v ∧ v < gg 4 0 1 by omega) (by omega) ?_
        show fwWP mX12_flowOf (d + 3) 43 [some (aR 12 0), some (aI x), some (aI v), none] [aI (fwB ((0 ≤ (v + 1) ∧ (v + 1) ≤ gg 4 0 1 - 1) ∧ H (v + 1).toNat < H v.toNat))] h Q
        refine w_ifB_eq 65 dX12_flowOf_43 (by decide) (fun c43 => ?_) (fun c43 => ?_)
        · refine w_iconst dX12_flowOf_65 ?_
          refine w_goto 70 dX12_flowOf_66 (by decide) ?_
          refine w_istore_n [some (aR 12 0), some (aI x), some (aI v), some (aI 1)] dX12_flowOf_70 rfl (by decide) ?_
          refine w_iload_n dX12_flowOf_71 rfl ?_
          refine w_if_eq 81 dX12_flowOf_72 (by decide) (by omega) (fun c72 => ?_) (fun c72 => ?_)
          · (exfalso; omega)
          · refine w_iload_n dX12_flowOf_75 rfl ?_
            refine w_iconst dX12_flowOf_76 ?_
            refine w_isub dX12_flowOf_77 ?_
            refine w_goto 84 dX12_flowOf_78 (by decide) ?_
            refine w_istore_n [some (aR 12 0), some (aI x), some (aI (v - 1)), some (aI 1)] dX12_flowOf_84 rfl (by decide) ?_
            refine w_goto 2 dX12_flowOf_85 (by decide) ?_
            refine w_drop [3] [some (aR 12 0), some (aI x), some (aI (v - 1)), none] rfl ?_
            have hq := slI_l g2 hx (by omega) hc2 iv2 ⟨c32.1, by omega⟩ (Or.inl (fun z => c43 ⟨z.1, by have := z.2; omega⟩))
            exact ih2 hq.1 _ hq.2
        · have hbl := hb (v - 1).toNat (by omega)
          have hbr := hb (v + 1).toNat (by omega)
          refine w_aload_n dX12_flowOf_46 rfl ?_
          refine w_getr 42 0 dX12_flowOf_47 fl_X12_34 rfl (by decide) ?_
          refine w_iload_n dX12_flowOf_50 rfl ?_
          refine w_iconst dX12_flowOf_51 ?_
          refine w_isub dX12_flowOf_52 ?_
          refine w_ialdE (v := H (v - 1).toNat) dX12_flowOf_53 rfl (by decide) (by omega) (by omega) (hH _ (by omega)) ?_
          refine w_aload_n dX12_flowOf_54 rfl ?_
          refine w_getr 42 0 dX12_flowOf_55 fl_X12_34 rfl (by decide) ?_
          refine w_iload_n dX12_flowOf_58 rfl ?_
          refine w_iconst dX12_flowOf_59 ?_
          refine w_iadd dX12_flowOf_60 ?_
          refine w_ialdE (v := H (v + 1).toNat) dX12_flowOf_61 rfl (by decide) (by omega) (by omega) (hH _ (by omega)) ?_
          refine w_icmp_gt 69 dX12_flowOf_62 (by decide) (by omega) (by omega) (fun c62 => ?_) (fun c62 => ?_)
          · refine w_iconst dX12_flowOf_69 ?_
            refine w_istore_n [some (aR 12 0), some (aI x), some (aI v), some (aI 0)] dX12_flowOf_70 rfl (by decide) ?_
            refine w_iload_n dX12_flowOf_71 rfl ?_
            refine w_if_eq 81 dX12_flowOf_72 (by decide) (by omega) (fun c72 => ?_) (fun c72 => ?_)
            · refine w_iload_n dX12_flowOf_81 rfl ?_
              refine w_iconst dX12_flowOf_82 ?_
              refine w_iadd dX12_flowOf_83 ?_
              refine w_istore_n [some (aR 12 0), some (aI x), some (aI (v + 1)), some (aI 0)] dX12_flowOf_84 rfl (by decide) ?_
              refine w_goto 2 dX12_flowOf_85 (by decide) ?_
              refine w_drop [3] [some (aR 12 0), some (aI x), some (aI (v + 1)), none] rfl ?_
              have hq := slI_r g2 hx (by omega) hc2 iv2 ⟨c43.1, by omega⟩ (Or.inr ⟨c32.1, by omega⟩)
              exact ih2 hq.1 _ hq.2
            · (exfalso; omega)
          · refine w_iconst dX12_flowOf_65 ?_
            refine w_goto 70 dX12_flowOf_66 (by decide) ?_
            refine w_istore_n [some (aR 12 0), some (aI x), some (aI v), some (aI 1)] dX12_flowOf_70 rfl (by decide) ?_
            refine w_iload_n dX12_flowOf_71 rfl ?_
            refine w_if_eq 81 dX12_flowOf_72 (by decide) (by omega) (fun c72 => ?_) (fun c72 => ?_)
            · (exfalso; omega)
            · refine w_iload_n dX12_flowOf_75 rfl ?_
              refine w_iconst dX12_flowOf_76 ?_
              refine w_isub dX12_flowOf_77 ?_
              refine w_goto 84 dX12_flowOf_78 (by decide) ?_
              refine w_istore_n [some (aR 12 0), some (aI x), some (aI (v - 1)), some (aI 1)] dX12_flowOf_84 rfl (by decide) ?_
              refine w_goto 2 dX12_flowOf_85 (by decide) ?_
              refine w_drop [3] [some (aR 12 0), some (aI x), some (aI (v - 1)), none] rfl ?_
              have hq := slI_l g2 hx (by omega) hc2 iv2 ⟨c32.1, by omega⟩ (Or.inr ⟨c43.1, by omega⟩)
              exact ih2 hq.1 _ hq.2
    · refine w_aload_n dX12_flowOf_13 rfl ?_
      refine w_iload_n dX12_flowOf_14 rfl ?_
      refine w_iconst dX12_flowOf_15 ?_
      refine w_iadd dX12_flowOf_16 ?_
      refine w_iload_n dX12_flowOf_17 rfl ?_
      refine w_callV (d := d + 2) (S := []) [aI (v + 1), aI v] dX12_flowOf_18 ml_X12_320 ok_X12_isLower vi_X12_isLower rfl rfl (by decide) rfl (Nat.le_of_ble_eq_true rfl) ?_
      refine c_X12_isLower (d := d) (v + 1) v H J R hH hb (show 0 ≤ v ∧ v < gg 4 0 1 by omega) (by omega) ?_
      show fwWP mX12_flowOf (d + 3) 21 [some (aR 12 0), some (aI x), some (aI v), none] [aI (fwB ((0 ≤ (v + 1) ∧ (v + 1) ≤ gg 4 0 1 - 1) ∧ H (v + 1).toNat < H v.toNat))] h Q
      refine w_ifB_eq 88 dX12_flowOf_21 (by decide) (fun c21 => ?_) (fun c21 => ?_)
      · have hds := slI_e hc2 iv2 (fun z => c10 ⟨z.1, by have := z.2; omega⟩) (fun z => c21 ⟨z.1, by have := z.2; omega⟩)
        refine w_iload_n dX12_flowOf_88 rfl ?_
        exact w_iretE dX12_flowOf_89 rfl hds.symm k
      · refine w_aload_n dX12_flowOf_24 rfl ?_
        refine w_iload_n dX12_flowOf_25 rfl ?_
        refine w_iconst dX12_flowOf_26 ?_
        refine w_isub dX12_flowOf_27 ?_
        refine w_iload_n dX12_flowOf_28 rfl ?_
        refine w_callV (d := d + 2) (S := []) [aI (v - 1), aI v] dX12_flowOf_29 ml_X12_320 ok_X12_isLower vi_X12_isLower rfl rfl (by decide) rfl (Nat.le_of_ble_eq_true rfl) ?_
        refine c_X12_isLower (d := d) (v - 1) v H J R hH hb (show 0 ≤ v ∧ v < gg 4 0 1 by omega) (by omega) ?_
        show fwWP mX12_flowOf (d + 3) 32 [some (aR 12 0), some (aI x), some (aI v), none] [aI (fwB ((0 ≤ (v - 1) ∧ (v - 1) ≤ gg 4 0 1 - 1) ∧ H (v - 1).toNat < H v.toNat))] h Q
        refine w_ifB_eq 69 dX12_flowOf_32 (by decide) (fun c32 => ?_) (fun c32 => ?_)
        · refine w_iconst dX12_flowOf_69 ?_
          refine w_istore_n [some (aR 12 0), some (aI x), some (aI v), some (aI 0)] dX12_flowOf_70 rfl (by decide) ?_
          refine w_iload_n dX12_flowOf_71 rfl ?_
          refine w_if_eq 81 dX12_flowOf_72 (by decide) (by omega) (fun c72 => ?_) (fun c72 => ?_)
          · refine w_iload_n dX12_flowOf_81 rfl ?_
            refine w_iconst dX12_flowOf_82 ?_
            refine w_iadd dX12_flowOf_83 ?_
            refine w_istore_n [some (aR 12 0), some (aI x), some (aI (v + 1)), some (aI 0)] dX12_flowOf_84 rfl (by decide) ?_
            refine w_goto 2 dX12_flowOf_85 (by decide) ?_
            refine w_drop [3] [some (aR 12 0), some (aI x), some (aI (v + 1)), none] rfl ?_
            have hq := slI_r g2 hx (by omega) hc2 iv2 ⟨c21.1, by omega⟩ (Or.inl (fun z => c10 ⟨z.1, by have := z.2; omega⟩))
            exact ih2 hq.1 _ hq.2
          · (exfalso; omega)
        · exact absurd c32 c10
  exact lp2 0 (Nat.zero_le _) _ ⟨hx, rfl, Or.inl ⟨by omega, Or.inl rfl⟩⟩
set_option maxRecDepth 100000 in
set_option maxHeartbeats 4000000 in
theorem c_X12_flows {d : Nat} {h gg : fwH} {Q : Option fwV → fwH → Prop} (x : Int) (J : cOk gg) (R : jF gg h) (K : jA gg h) (hsh : sc h) (hx : -2147483648 ≤ x ∧ x < 2147483648) (k : ∀ g, scr h g → Q (some (aI (an_flows gg x))) g) : fwCt mX12_flows (d + 6) [aR 12 0, aI x] h Q := by
  refine fwCt_of [some (aR 12 0), some (aI x)] rfl rfl rfl ?_
  obtain ⟨hl, hP, hG, hM0, htd, hut, hlw, hhc, ha, hs, hT, hsc⟩ := id J
  have hb17 : hB (gg 17 0) := fun c hc => by have := hM0 c hc; omega
  obtain ⟨⟨g1, g2⟩, ⟨g3, g4⟩, ⟨g5, g6⟩, g7, -⟩ := id hG
  have h17_99 : ∀ c : Nat, (c : Int) < gg 4 0 1 → gg 17 0 c ≤ 99 := fun c hc => (hM0 c (by omega)).2
  have hpz := hP.1
  have hrs1 := R.2.2.2.2.2.2.2.2.2.2.2
  refine w_aload_n dX12_flows_0 rfl ?_
  refine w_iload_n dX12_flows_1 rfl ?_
  refine w_i2l dX12_flows_2 (by omega) ?_
  refine w_callV (d := d + 5) (S := []) [aJ x] dX12_flows_3 ml_X12_203 ok_X12_isCell vi_X12_isCell rfl rfl (by decide) rfl (Nat.le_of_ble_eq_true rfl) ?_
  refine c_X12_isCell (d := (d + 4)) x J R (by omega) ?_
  show fwWP mX12_flows (d + 6) 6 [some (aR 12 0), some (aI x)] [aI (fwB (0 ≤ x ∧ x ≤ gg 4 0 1 - 1))] h Q
  refine w_ifB_ne 12 dX12_flows_6 (by decide) (fun c6 => ?_) (fun c6 => ?_)
  · refine w_aload_n dX12_flows_12 rfl ?_
    refine w_callV (d := d + 5) (S := []) [] dX12_flows_13 ml_X12_240 ok_X12_asItIs vi_X12_asItIs rfl rfl (by decide) rfl (Nat.le_of_ble_eq_true rfl) ?_
    refine c_X12_asItIs (d := d) J R K (show 1 ≤ gg 4 0 1 by omega) (show 1 ≤ gg 4 0 3 by omega) ?_
    intro A13_2 hA13_2
    show fwWP mX12_flows (d + 6) 16 [some (aR 12 0), some (aI x)] [] (fwUc h 42 0 A13_2) Q
    refine w_aload_n dX12_flows_16 rfl ?_
    refine w_iload_n dX12_flows_17 rfl ?_
    refine w_callV (d := d + 5) (S := []) [aI x] dX12_flows_18 ml_X12_323 ok_X12_flowOf vi_X12_flowOf rfl rfl (by decide) rfl (Nat.le_of_ble_eq_true rfl) ?_
    refine c_X12_flowOf (d := (d + 2)) x (gg 17 0) J R hA13_2 hb17 (show 0 ≤ x ∧ x < gg 4 0 1 by omega) ?_
    show fwWP mX12_flows (d + 6) 21 [some (aR 12 0), some (aI x)] [aI (mDesc (gg 4 0 1) (gg 17 0) 0 10 x)] (fwUc h 42 0 A13_2) Q
    have hdr3 := mDesc_rng (gg 17 0) (sl := 0) (n := gg 4 0 1) (by omega) 10 x (by omega)
    exact w_iretE dX12_flows_21 rfl (by unfold an_flows; first | (rw [if_pos (by omega)]; done) | (rw [if_neg (by omega)]; done) | (rw [if_pos (by omega)]; rfl) | (rw [if_neg (by omega)]; rfl)) (k _ (scr_uc (scr_rf hsh) rfl (by decide) (by decide) (by decide)))
  · refine w_bipush dX12_flows_9 rfl ?_
    exact w_iretE dX12_flows_11 rfl (by unfold an_flows; first | (rw [if_pos (by omega)]; done) | (rw [if_neg (by omega)]; done) | (rw [if_pos (by omega)]; rfl) | (rw [if_neg (by omega)]; rfl)) (k _ (scr_rf hsh))
set_option maxRecDepth 100000 in
set_option maxHeartbeats 4000000 in
theorem c_X12_basin {d : Nat} {h gg : fwH} {Q : Option fwV → fwH → Prop} (x : Int) (J : cOk gg) (R : jF gg h) (K : jA gg h) (hsh : sc h) (hx : -2147483648 ≤ x ∧ x < 2147483648) (k : ∀ g, scr h g → Q (some (aI (an_basin gg x))) g) : fwCt mX12_basin (d + 6) [aR 12 0, aI x] h Q := by
  refine fwCt_of [some (aR 12 0), some (aI x), none, none] rfl rfl rfl ?_
  obtain ⟨hl, hP, hG, hM0, htd, hut, hlw, hhc, ha, hs, hT, hsc⟩ := id J
  have hb17 : hB (gg 17 0) := fun c hc => by have := hM0 c hc; omega
  obtain ⟨⟨g1, g2⟩, ⟨g3, g4⟩, ⟨g5, g6⟩, g7, -⟩ := id hG
  have h17_99 : ∀ c : Nat, (c : Int) < gg 4 0 1 → gg 17 0 c ≤ 99 := fun c hc => (hM0 c (by omega)).2
  have hpz := hP.1
  have hrs1 := R.2.2.2.2.2.2.2.2.2.2.2
  refine w_aload_n dX12_basin_0 rfl ?_
  refine w_iload_n dX12_basin_1 rfl ?_
  refine w_i2l dX12_basin_2 (by omega) ?_
  refine w_callV (d := d + 5) (S := []) [aJ x] dX12_basin_3 ml_X12_203 ok_X12_isCell vi_X12_isCell rfl rfl (by decide) rfl (Nat.le_of_ble_eq_true rfl) ?_
  refine c_X12_isCell (d := (d + 4)) x J R (by omega) ?_
  show fwWP mX12_basin (d + 6) 6 [some (aR 12 0), some (aI x), none, none] [aI (fwB (0 ≤ x ∧ x ≤ gg 4 0 1 - 1))] h Q
  refine w_ifB_ne 12 dX12_basin_6 (by decide) (fun c6 => ?_) (fun c6 => ?_)
  · refine w_aload_n dX12_basin_12 rfl ?_
    refine w_callV (d := d + 5) (S := []) [] dX12_basin_13 ml_X12_240 ok_X12_asItIs vi_X12_asItIs rfl rfl (by decide) rfl (Nat.le_of_ble_eq_true rfl) ?_
    refine c_X12_asItIs (d := d) J R K (show 1 ≤ gg 4 0 1 by omega) (show 1 ≤ gg 4 0 3 by omega) ?_
    intro A13_2 hA13_2
    show fwWP mX12_basin (d + 6) 16 [some (aR 12 0), some (aI x), none, none] [] (fwUc h 42 0 A13_2) Q
    refine w_iconst dX12_basin_16 ?_
    refine w_istore_n [some (aR 12 0), some (aI x), some (aI 0), none] dX12_basin_17 rfl (by decide) ?_
    refine w_iconst dX12_basin_18 ?_
    refine w_istore_n [some (aR 12 0), some (aI x), some (aI 0), some (aI 0)] dX12_basin_19 rfl (by decide) ?_
    have lp20 : ∀ c : Nat, c ≤ (gg 4 0 1).toNat → ∀ (y20 se : Int), y20 = (c : Int) → se = mBits (fun c => decide (mDesc (gg 4 0 1) (gg 17 0) 0 10 (c : Int) = x)) c → fwWP mX12_basin (d + 6) 20 [some (aR 12 0), some (aI x), some (aI se), some (aI y20)] [] (fwUc h 42 0 A13_2) Q := by
      refine fw_up (fun c hc20 ih20 => ?_)
      intro y20 se ey20 e_se
      subst ey20
      subst e_se
      show fwWP mX12_basin (d + 6) 20 [some (aR 12 0), some (aI x), some (aI (mBits (fun c => decide (mDesc (gg 4 0 1) (gg 17 0) 0 10 (c : Int) = x)) c)), some (aI (c : Int))] [] (fwUc h 42 0 A13_2) Q
      refine w_iload_n dX12_basin_20 rfl ?_
      refine w_aload_n dX12_basin_21 rfl ?_
      refine w_getr 36 0 dX12_basin_22 fl_X12_9 rfl (by decide) ?_
      refine w_iconst dX12_basin_25 ?_
      refine w_ialdE (v := gg 4 0 1) dX12_basin_26 rfl (by decide) (by omega) (by omega) R.1 ?_
      refine w_icmp_ge 55 dX12_basin_27 (by decide) (by omega) (by omega) (fun c27 => ?_) (fun c27 => ?_)
      · have ec20 : (gg 4 0 1).toNat = c := by omega
        subst ec20
        refine w_iload_n dX12_basin_55 rfl ?_
        exact w_iretE dX12_basin_56 rfl (by unfold an_basin; first | (rw [if_pos (by omega)]; done) | (rw [if_neg (by omega)]; done) | (rw [if_pos (by omega)]; rfl) | (rw [if_neg (by omega)]; rfl)) (k _ (scr_uc (scr_rf hsh) rfl (by decide) (by decide) (by decide)))
      · refine w_iload_n dX12_basin_30 rfl ?_
        refine w_aload_n dX12_basin_31 rfl ?_
        refine w_iload_n dX12_basin_32 rfl ?_
        refine w_callV (d := d + 5) (S := [aI (mBits (fun c => decide (mDesc (gg 4 0 1) (gg 17 0) 0 10 (c : Int) = x)) c)]) [aI (c : Int)] dX12_basin_33 ml_X12_323 ok_X12_flowOf vi_X12_flowOf rfl rfl (by decide) rfl (Nat.le_of_ble_eq_true rfl) ?_
        refine c_X12_flowOf (d := (d + 2)) (c : Int) (gg 17 0) J R hA13_2 hb17 (show 0 ≤ (c : Int) ∧ (c : Int) < gg 4 0 1 by omega) ?_
        show fwWP mX12_basin (d + 6) 36 [some (aR 12 0), some (aI x), some (aI (mBits (fun c => decide (mDesc (gg 4 0 1) (gg 17 0) 0 10 (c : Int) = x)) c)), some (aI (c : Int))] [aI (mDesc (gg 4 0 1) (gg 17 0) 0 10 (c : Int)), aI (mBits (fun c => decide (mDesc (gg 4 0 1) (gg 17 0) 0 10 (c : Int) = x)) c)] (fwUc h 42 0 A13_2) Q
        have hdr4 := mDesc_rng (gg 17 0) (sl := 0) (n := gg 4 0 1) (by omega) 10 (c : Int) (by omega)
        refine w_iload_n dX12_basin_36 rfl ?_
        refine w_icmp_ne 46 dX12_basin_37 (by decide) (by omega) (by omega) (fun c37 => ?_) (fun c37 => ?_)
        · refine w_iconst dX12_basin_46 ?_
          refine w_ior dX12_basin_47 ?_
          refine w_istore_n [some (aR 12 0), some (aI x), some (aI (fwOr (mBits (fun c => decide (mDesc (gg 4 0 1) (gg 17 0) 0 10 (c : Int) = x)) c) 0)), some (aI (c : Int))] dX12_basin_48 rfl (by decide) ?_
          refine w_iinc [some (aR 12 0), some (aI x), some (aI (fwOr (mBits (fun c => decide (mDesc (gg 4 0 1) (gg 17 0) 0 10 (c : Int) = x)) c) 0)), some (aI ((c : Int) + 1))] dX12_basin_49 rfl rfl (by decide) ?_
          refine w_goto 20 dX12_basin_52 (by decide) ?_
          refine ih20 (by omega) _ _ ?_ ?_
          · exact (by omega)
          · exact (by rw [mBits, if_neg (by rw [decide_eq_true_eq]; omega), fwOr_0 (mBits_rng _ _)])
        · refine w_iconst dX12_basin_40 ?_
          refine w_iload_n dX12_basin_41 rfl ?_
          refine w_ishl dX12_basin_42 ?_
          refine w_goto 47 dX12_basin_43 (by decide) ?_
          refine w_ior dX12_basin_47 ?_
          refine w_istore_n [some (aR 12 0), some (aI x), some (aI (fwOr (mBits (fun c => decide (mDesc (gg 4 0 1) (gg 17 0) 0 10 (c : Int) = x)) c) (fwShl 1 (c : Int)))), some (aI (c : Int))] dX12_basin_48 rfl (by decide) ?_
          refine w_iinc [some (aR 12 0), some (aI x), some (aI (fwOr (mBits (fun c => decide (mDesc (gg 4 0 1) (gg 17 0) 0 10 (c : Int) = x)) c) (fwShl 1 (c : Int)))), some (aI ((c : Int) + 1))] dX12_basin_49 rfl rfl (by decide) ?_
          refine w_goto 20 dX12_basin_52 (by decide) ?_
          refine ih20 (by omega) _ _ ?_ ?_
          · exact (by omega)
          · exact (by rw [mBits, if_pos (decide_eq_true (by omega))])
    refine lp20 0 (Nat.zero_le _) _ _ ?_ ?_
    · exact (by omega)
    · exact rfl
  · refine w_bipush dX12_basin_9 rfl ?_
    exact w_iretE dX12_basin_11 rfl (by unfold an_basin; first | (rw [if_pos (by omega)]; done) | (rw [if_neg (by omega)]; done) | (rw [if_pos (by omega)]; rfl) | (rw [if_neg (by omega)]; rfl)) (k _ (scr_rf hsh))
set_option maxRecDepth 100000 in
set_option maxHeartbeats 4000000 in
theorem c_X12_springs {d : Nat} {h gg : fwH} {Q : Option fwV → fwH → Prop}  (J : cOk gg) (R : jF gg h) (K : jA gg h) (hsh : sc h)  (k : ∀ g, scr h g → Q (some (aI (an_springs gg ))) g) : fwCt mX12_springs (d + 6) [aR 12 0] h Q := by
  refine fwCt_of [some (aR 12 0), none, none] rfl rfl rfl ?_
  obtain ⟨hl, hP, hG, hM0, htd, hut, hlw, hhc, ha, hs, hT, hsc⟩ := id J
  have hb17 : hB (gg 17 0) := fun c hc => by have := hM0 c hc; omega
  obtain ⟨⟨g1, g2⟩, ⟨g3, g4⟩, ⟨g5, g6⟩, g7, -⟩ := id hG
  have h17_99 : ∀ c : Nat, (c : Int) < gg 4 0 1 → gg 17 0 c ≤ 99 := fun c hc => (hM0 c (by omega)).2
  have hpz := hP.1
  have hrs1 := R.2.2.2.2.2.2.2.2.2.2.2
  refine w_aload_n dX12_springs_0 rfl ?_
  refine w_callV (d := d + 5) (S := []) [] dX12_springs_1 ml_X12_73 ok_X12_isMount vi_X12_isMount rfl rfl (by decide) rfl (Nat.le_of_ble_eq_true rfl) ?_
  refine c_X12_isMount (d := (d + 5)) J R ?_
  show fwWP mX12_springs (d + 6) 4 [some (aR 12 0), none, none] [aI (fwB (0 < gg 3 0 6))] h Q
  refine w_ifB_ne 10 dX12_springs_4 (by decide) (fun c4 => ?_) (fun c4 => ?_)
  · refine w_aload_n dX12_springs_10 rfl ?_
    refine w_callV (d := d + 5) (S := []) [] dX12_springs_11 ml_X12_240 ok_X12_asItIs vi_X12_asItIs rfl rfl (by decide) rfl (Nat.le_of_ble_eq_true rfl) ?_
    refine c_X12_asItIs (d := d) J R K (show 1 ≤ gg 4 0 1 by omega) (show 1 ≤ gg 4 0 3 by omega) ?_
    intro A11_2 hA11_2
    show fwWP mX12_springs (d + 6) 14 [some (aR 12 0), none, none] [] (fwUc h 42 0 A11_2) Q
    refine w_iconst dX12_springs_14 ?_
    refine w_istore_n [some (aR 12 0), some (aI 0), none] dX12_springs_15 rfl (by decide) ?_
    refine w_iconst dX12_springs_16 ?_
    refine w_istore_n [some (aR 12 0), some (aI 0), some (aI 0)] dX12_springs_17 rfl (by decide) ?_
    have lp18 : ∀ c : Nat, c ≤ (gg 4 0 1).toNat → ∀ (y18 se : Int), y18 = (c : Int) → se = mEnds (gg 4 0 1) (gg 17 0) c → fwWP mX12_springs (d + 6) 18 [some (aR 12 0), some (aI se), some (aI y18)] [] (fwUc h 42 0 A11_2) Q := by
      refine fw_up (fun c hc18 ih18 => ?_)
      intro y18 se ey18 e_se
      subst ey18
      subst e_se
      show fwWP mX12_springs (d + 6) 18 [some (aR 12 0), some (aI (mEnds (gg 4 0 1) (gg 17 0) c)), some (aI (c : Int))] [] (fwUc h 42 0 A11_2) Q
      refine w_iload_n dX12_springs_18 rfl ?_
      refine w_aload_n dX12_springs_19 rfl ?_
      refine w_getr 36 0 dX12_springs_20 fl_X12_9 rfl (by decide) ?_
      refine w_iconst dX12_springs_23 ?_
      refine w_ialdE (v := gg 4 0 1) dX12_springs_24 rfl (by decide) (by omega) (by omega) R.1 ?_
      refine w_icmp_ge 44 dX12_springs_25 (by decide) (by omega) (by omega) (fun c25 => ?_) (fun c25 => ?_)
      · have ec18 : (gg 4 0 1).toNat = c := by omega
        subst ec18
        refine w_iload_n dX12_springs_44 rfl ?_
        exact w_iretE dX12_springs_45 rfl (by unfold an_springs; first | (rw [if_pos (by omega)]; done) | (rw [if_neg (by omega)]; done) | (rw [if_pos (by omega)]; rfl) | (rw [if_neg (by omega)]; rfl)) (k _ (scr_uc (scr_rf hsh) rfl (by decide) (by decide) (by decide)))
      · refine w_iload_n dX12_springs_28 rfl ?_
        refine w_iconst dX12_springs_29 ?_
        refine w_aload_n dX12_springs_30 rfl ?_
        refine w_iload_n dX12_springs_31 rfl ?_
        refine w_callV (d := d + 5) (S := [aI 1, aI (mEnds (gg 4 0 1) (gg 17 0) c)]) [aI (c : Int)] dX12_springs_32 ml_X12_323 ok_X12_flowOf vi_X12_flowOf rfl rfl (by decide) rfl (Nat.le_of_ble_eq_true rfl) ?_
        refine c_X12_flowOf (d := (d + 2)) (c : Int) (gg 17 0) J R hA11_2 hb17 (show 0 ≤ (c : Int) ∧ (c : Int) < gg 4 0 1 by omega) ?_
        show fwWP mX12_springs (d + 6) 35 [some (aR 12 0), some (aI (mEnds (gg 4 0 1) (gg 17 0) c)), some (aI (c : Int))] [aI (mDesc (gg 4 0 1) (gg 17 0) 0 10 (c : Int)), aI 1, aI (mEnds (gg 4 0 1) (gg 17 0) c)] (fwUc h 42 0 A11_2) Q
        have hdr4 := mDesc_rng (gg 17 0) (sl := 0) (n := gg 4 0 1) (by omega) 10 (c : Int) (by omega)
        refine w_ishl dX12_springs_35 ?_
        refine w_ior dX12_springs_36 ?_
        refine w_istore_n [some (aR 12 0), some (aI (fwOr (mEnds (gg 4 0 1) (gg 17 0) c) (fwShl 1 (mDesc (gg 4 0 1) (gg 17 0) 0 10 (c : Int))))), some (aI (c : Int))] dX12_springs_37 rfl (by decide) ?_
        refine w_iinc [some (aR 12 0), some (aI (fwOr (mEnds (gg 4 0 1) (gg 17 0) c) (fwShl 1 (mDesc (gg 4 0 1) (gg 17 0) 0 10 (c : Int))))), some (aI ((c : Int) + 1))] dX12_springs_38 rfl rfl (by decide) ?_
        refine w_goto 18 dX12_springs_41 (by decide) ?_
        refine ih18 (by omega) _ _ ?_ ?_
        · exact (by omega)
        · exact (by rw [mEnds])
    refine lp18 0 (Nat.zero_le _) _ _ ?_ ?_
    · exact (by omega)
    · exact rfl
  · refine w_bipush dX12_springs_7 rfl ?_
    exact w_iretE dX12_springs_9 rfl (by unfold an_springs; first | (rw [if_pos (by omega)]; done) | (rw [if_neg (by omega)]; done) | (rw [if_pos (by omega)]; rfl) | (rw [if_neg (by omega)]; rfl)) (k _ (scr_rf hsh))
theorem mCliff_r (H : Nat → Int) (rs : Int) : ∀ c : Nat, 0 ≤ mCliff H rs c ∧ mCliff H rs c ≤ c := by
  intro c
  induction c with
  | zero => simp [mCliff]
  | succ c ih => rw [mCliff]; split <;> omega
set_option maxRecDepth 100000 in
set_option maxHeartbeats 4000000 in
theorem c_X12_cliffs {d : Nat} {h gg : fwH} {Q : Option fwV → fwH → Prop}  (J : cOk gg) (R : jF gg h) (K : jA gg h) (hsh : sc h)  (k : ∀ g, scr h g → Q (some (aI (an_cliffs gg ))) g) : fwCt mX12_cliffs (d + 6) [aR 12 0] h Q := by
  refine fwCt_of [some (aR 12 0), none, none] rfl rfl rfl ?_
  obtain ⟨hl, hP, hG, hM0, htd, hut, hlw, hhc, ha, hs, hT, hsc⟩ := id J
  have hb17 : hB (gg 17 0) := fun c hc => by have := hM0 c hc; omega
  obtain ⟨⟨g1, g2⟩, ⟨g3, g4⟩, ⟨g5, g6⟩, g7, -⟩ := id hG
  have h17_99 : ∀ c : Nat, (c : Int) < gg 4 0 1 → gg 17 0 c ≤ 99 := fun c hc => (hM0 c (by omega)).2
  have hpz := hP.1
  have hrs1 := R.2.2.2.2.2.2.2.2.2.2.2
  refine w_aload_n dX12_cliffs_0 rfl ?_
  refine w_callV (d := d + 5) (S := []) [] dX12_cliffs_1 ml_X12_73 ok_X12_isMount vi_X12_isMount rfl rfl (by decide) rfl (Nat.le_of_ble_eq_true rfl) ?_
  refine c_X12_isMount (d := (d + 5)) J R ?_
  show fwWP mX12_cliffs (d + 6) 4 [some (aR 12 0), none, none] [aI (fwB (0 < gg 3 0 6))] h Q
  refine w_ifB_ne 10 dX12_cliffs_4 (by decide) (fun c4 => ?_) (fun c4 => ?_)
  · refine w_aload_n dX12_cliffs_10 rfl ?_
    refine w_callV (d := d + 5) (S := []) [] dX12_cliffs_11 ml_X12_240 ok_X12_asItIs vi_X12_asItIs rfl rfl (by decide) rfl (Nat.le_of_ble_eq_true rfl) ?_
    refine c_X12_asItIs (d := d) J R K (show 1 ≤ gg 4 0 1 by omega) (show 1 ≤ gg 4 0 3 by omega) ?_
    intro A11_2 hA11_2
    show fwWP mX12_cliffs (d + 6) 14 [some (aR 12 0), none, none] [] (fwUc h 42 0 A11_2) Q
    refine w_iconst dX12_cliffs_14 ?_
    refine w_istore_n [some (aR 12 0), some (aI 0), none] dX12_cliffs_15 rfl (by decide) ?_
    refine w_iconst dX12_cliffs_16 ?_
    refine w_istore_n [some (aR 12 0), some (aI 0), some (aI 1)] dX12_cliffs_17 rfl (by decide) ?_
    have lp18 : ∀ c : Nat, c ≤ (gg 4 0 1).toNat - 1 → ∀ (y18 nv : Int), y18 = (c : Int) + 1 → nv = mCliff (gg 17 0) (gg 4 0 3) c → fwWP mX12_cliffs (d + 6) 18 [some (aR 12 0), some (aI nv), some (aI y18)] [] (fwUc h 42 0 A11_2) Q := by
      refine fw_up (fun c hc18 ih18 => ?_)
      intro y18 nv ey18 e_nv
      subst ey18
      subst e_nv
      show fwWP mX12_cliffs (d + 6) 18 [some (aR 12 0), some (aI (mCliff (gg 17 0) (gg 4 0 3) c)), some (aI ((c : Int) + 1))] [] (fwUc h 42 0 A11_2) Q
      refine w_iload_n dX12_cliffs_18 rfl ?_
      refine w_aload_n dX12_cliffs_19 rfl ?_
      refine w_getr 36 0 dX12_cliffs_20 fl_X12_9 rfl (by decide) ?_
      refine w_iconst dX12_cliffs_23 ?_
      refine w_ialdE (v := gg 4 0 1) dX12_cliffs_24 rfl (by decide) (by omega) (by omega) R.1 ?_
      refine w_icmp_ge 69 dX12_cliffs_25 (by decide) (by omega) (by omega) (fun c25 => ?_) (fun c25 => ?_)
      · have ec18 : (gg 4 0 1).toNat - 1 = c := by omega
        subst ec18
        refine w_iload_n dX12_cliffs_69 rfl ?_
        exact w_iretE dX12_cliffs_70 rfl (by unfold an_cliffs; first | (rw [if_pos (by omega)]; done) | (rw [if_neg (by omega)]; done) | (rw [if_pos (by omega)]; rfl) | (rw [if_neg (by omega)]; rfl)) (k _ (scr_uc (scr_rf hsh) rfl (by decide) (by decide) (by decide)))
      · have hb1 := hM0 (c + 1) (by omega)
        have hb2 := hM0 c (by omega)
        have hcr := mCliff_r (gg 17 0) (gg 4 0 3) c
        refine w_iload_n dX12_cliffs_28 rfl ?_
        refine w_aload_n dX12_cliffs_29 rfl ?_
        refine w_getr 42 0 dX12_cliffs_30 fl_X12_34 rfl (by decide) ?_
        refine w_iload_n dX12_cliffs_33 rfl ?_
        refine w_ialdE (v := (gg 17 0) (c + 1)) dX12_cliffs_34 rfl (by decide) (by omega) (by omega) (hA11_2 _ (by omega)) ?_
        refine w_aload_n dX12_cliffs_35 rfl ?_
        refine w_getr 42 0 dX12_cliffs_36 fl_X12_34 rfl (by decide) ?_
        refine w_iload_n dX12_cliffs_39 rfl ?_
        refine w_iconst dX12_cliffs_40 ?_
        refine w_isub dX12_cliffs_41 ?_
        refine w_ialdE (v := gg 17 0 c) dX12_cliffs_42 rfl (by decide) (by omega) (by omega) (by rw [show (((c : Int) + 1) - 1).toNat = c by omega]; exact hA11_2 c (by omega)) ?_
        refine w_isub dX12_cliffs_43 ?_
        refine w_abs (d := d + 5) (S := [aI (mCliff (gg 17 0) (gg 4 0 3) c)]) dX12_cliffs_44 ml_X12_214 (by omega) (Nat.le_of_ble_eq_true rfl) ?_
        refine w_aload_n dX12_cliffs_47 rfl ?_
        refine w_getr 36 0 dX12_cliffs_48 fl_X12_9 rfl (by decide) ?_
        refine w_iconst dX12_cliffs_51 ?_
        refine w_ialdE (v := gg 4 0 3) dX12_cliffs_52 rfl (by decide) (by omega) (by omega) R.2.2.1 ?_
        refine w_icmp_le 60 dX12_cliffs_53 (by decide) (by split <;> omega) (by omega) (fun c53 => ?_) (fun c53 => ?_)
        · refine w_iconst dX12_cliffs_60 ?_
          refine w_iadd dX12_cliffs_61 ?_
          refine w_istore_n [some (aR 12 0), some (aI ((mCliff (gg 17 0) (gg 4 0 3) c) + 0)), some (aI ((c : Int) + 1))] dX12_cliffs_62 rfl (by decide) ?_
          refine w_iinc [some (aR 12 0), some (aI ((mCliff (gg 17 0) (gg 4 0 3) c) + 0)), some (aI (((c : Int) + 1) + 1))] dX12_cliffs_63 rfl rfl (by decide) ?_
          refine w_goto 18 dX12_cliffs_66 (by decide) ?_
          refine ih18 (by omega) _ _ ?_ ?_
          · exact (by omega)
          · exact (by rw [mCliff, if_neg (by split at c53 <;> omega)]; omega)
        · refine w_iconst dX12_cliffs_56 ?_
          refine w_goto 61 dX12_cliffs_57 (by decide) ?_
          refine w_iadd dX12_cliffs_61 ?_
          refine w_istore_n [some (aR 12 0), some (aI ((mCliff (gg 17 0) (gg 4 0 3) c) + 1)), some (aI ((c : Int) + 1))] dX12_cliffs_62 rfl (by decide) ?_
          refine w_iinc [some (aR 12 0), some (aI ((mCliff (gg 17 0) (gg 4 0 3) c) + 1)), some (aI (((c : Int) + 1) + 1))] dX12_cliffs_63 rfl rfl (by decide) ?_
          refine w_goto 18 dX12_cliffs_66 (by decide) ?_
          refine ih18 (by omega) _ _ ?_ ?_
          · exact (by omega)
          · exact (by rw [mCliff, if_pos (by split at c53 <;> omega)])
    refine lp18 0 (Nat.zero_le _) _ _ ?_ ?_
    · exact (by omega)
    · exact rfl
  · refine w_bipush dX12_cliffs_7 rfl ?_
    exact w_iretE dX12_cliffs_9 rfl (by unfold an_cliffs; first | (rw [if_pos (by omega)]; done) | (rw [if_neg (by omega)]; done) | (rw [if_pos (by omega)]; rfl) | (rw [if_neg (by omega)]; rfl)) (k _ (scr_rf hsh))

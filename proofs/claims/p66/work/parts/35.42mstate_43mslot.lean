section
set_option maxRecDepth 100000 in
set_option maxHeartbeats 4000000 in
theorem c_X12_tell {d : Nat} {h gg : fwH} {Q : Option fwV → fwH → Prop} (x : Int) (J : cOk gg) (R : jF gg h) (K : jA gg h) (hx : -2147483648 ≤ x ∧ x < 2147483648) (k : (¬ (0 < gg 3 0 6 ∧ 1 ≤ x ∧ x ≤ 999) → Q (some (aI (-2))) h) ∧ ((0 < gg 3 0 6 ∧ 1 ≤ x ∧ x ≤ 999) → 0 < gg 3 0 3 → Q (some (aI (-5))) h) ∧ ((0 < gg 3 0 6 ∧ 1 ≤ x ∧ x ≤ 999) → ¬ 0 < gg 3 0 3 → Q (some (aI (gg 3 0 4))) (fwUp h 36 0 3 x))) : fwCt mX12_tell (d + 2) [aR 12 0, aI x] h Q := by
  refine fwCt_of [some (aR 12 0), some (aI x), none] rfl rfl rfl ?_
  obtain ⟨hl, hP, hG, hM0, htd, hut, hlw, hhc, ha, hs, hT, hsc⟩ := id J
  have hb17 : hB (gg 17 0) := fun c hc => by have := hM0 c hc; omega
  obtain ⟨⟨g1, g2⟩, ⟨g3, g4⟩, ⟨g5, g6⟩, g7, -⟩ := id hG
  have h17_99 : ∀ c : Nat, (c : Int) < gg 4 0 1 → gg 17 0 c ≤ 99 := fun c hc => (hM0 c (by omega)).2
  have hpz := hP.1
  have hrs1 := R.2.2.2.2.2.2.2.2.2.2.2
  refine w_aload_n dX12_tell_0 rfl ?_
  refine w_iload_n dX12_tell_1 rfl ?_
  refine w_callV (d := d + 1) (S := []) [aI x] dX12_tell_2 ml_X12_349 ok_X12_isLaw vi_X12_isLaw rfl rfl (by decide) rfl (Nat.le_of_ble_eq_true rfl) ?_
  refine c_X12_isLaw (d := d) x J R (by omega) ?_
  show fwWP mX12_tell (d + 2) 5 [some (aR 12 0), some (aI x), none] [aI (fwB (0 < gg 3 0 6 ∧ 1 ≤ x ∧ x ≤ 999))] h Q
  refine w_ifB_ne 11 dX12_tell_5 (by decide) (fun c5 => ?_) (fun c5 => ?_)
  · refine w_aload_n dX12_tell_11 rfl ?_
    refine w_getr 36 0 dX12_tell_12 fl_X12_9 rfl (by decide) ?_
    refine w_bipush dX12_tell_15 rfl ?_
    refine w_ialdE (v := gg 3 0 3) dX12_tell_17 rfl (by decide) (by omega) (by omega) R.2.2.2.2.2.2.2.2.1 ?_
    refine w_if_le 24 dX12_tell_18 (by decide) (by omega) (fun c18 => ?_) (fun c18 => ?_)
    · refine w_aload_n dX12_tell_24 rfl ?_
      refine w_getr 36 0 dX12_tell_25 fl_X12_9 rfl (by decide) ?_
      refine w_iconst dX12_tell_28 ?_
      refine w_ialdE (v := gg 3 0 4) dX12_tell_29 rfl (by decide) (by omega) (by omega) R.2.2.2.1 ?_
      refine w_istore_n [some (aR 12 0), some (aI x), some (aI (gg 3 0 4))] dX12_tell_30 rfl (by decide) ?_
      refine w_aload_n dX12_tell_31 rfl ?_
      refine w_getr 36 0 dX12_tell_32 fl_X12_9 rfl (by decide) ?_
      refine w_iconst dX12_tell_35 ?_
      refine w_iload_n dX12_tell_36 rfl ?_
      refine w_iast dX12_tell_37 rfl (by decide) (by omega) (by omega) ?_
      refine w_iload_n dX12_tell_38 rfl ?_
      exact w_iretE dX12_tell_39 rfl rfl (k.2.2 (by omega) (by omega))
    · refine w_bipush dX12_tell_21 rfl ?_
      exact w_iretE dX12_tell_23 rfl rfl (k.2.1 (by omega) (by omega))
  · refine w_bipush dX12_tell_8 rfl ?_
    exact w_iretE dX12_tell_10 rfl rfl (k.1 (by omega))
set_option maxRecDepth 100000 in
set_option maxHeartbeats 4000000 in
theorem c_X12_likes {d : Nat} {h gg : fwH} {Q : Option fwV → fwH → Prop} (x : Int) (y : Int) (z : Int) (J : cOk gg) (R : jF gg h) (K : jA gg h) (hx : -2147483648 ≤ x ∧ x < 2147483648) (hy : -2147483648 ≤ y ∧ y < 2147483648) (hz : -2147483648 ≤ z ∧ z < 2147483648) (k : (¬ ((0 ≤ x ∧ x < gg 5 0 3) ∧ (0 ≤ y ∧ y ≤ 2) ∧ 0 ≤ z ∧ z ≤ 9) → Q (some (aI (-2))) h) ∧ (((0 ≤ x ∧ x < gg 5 0 3) ∧ (0 ≤ y ∧ y ≤ 2) ∧ 0 ≤ z ∧ z ≤ 9) → 0 < gg 3 0 3 → Q (some (aI (-5))) h) ∧ (((0 ≤ x ∧ x < gg 5 0 3) ∧ (0 ≤ y ∧ y ≤ 2) ∧ 0 ≤ z ∧ z ≤ 9) → ¬ 0 < gg 3 0 3 → Q (some (aI (gg 18 0 (7 * x.toNat + (2 + y.toNat))))) (fwUp h 36 0 (19 + (7 * x.toNat + (2 + y.toNat))) z))) : fwCt mX12_likes (d + 2) [aR 12 0, aI x, aI y, aI z] h Q := by
  refine fwCt_of [some (aR 12 0), some (aI x), some (aI y), some (aI z), none, none] rfl rfl rfl ?_
  obtain ⟨hl, hP, hG, hM0, htd, hut, hlw, hhc, ha, hs, hT, hsc⟩ := id J
  have hb17 : hB (gg 17 0) := fun c hc => by have := hM0 c hc; omega
  obtain ⟨⟨g1, g2⟩, ⟨g3, g4⟩, ⟨g5, g6⟩, g7, -⟩ := id hG
  have h17_99 : ∀ c : Nat, (c : Int) < gg 4 0 1 → gg 17 0 c ≤ 99 := fun c hc => (hM0 c (by omega)).2
  have hpz := hP.1
  have hrs1 := R.2.2.2.2.2.2.2.2.2.2.2
  refine w_aload_n dX12_likes_0 rfl ?_
  refine w_iload_n dX12_likes_1 rfl ?_
  refine w_i2l dX12_likes_2 (by omega) ?_
  refine w_callV (d := d + 1) (S := []) [aJ x] dX12_likes_3 ml_X12_235 ok_X12_isFolk vi_X12_isFolk rfl rfl (by decide) rfl (Nat.le_of_ble_eq_true rfl) ?_
  refine c_X12_isFolk (d := d) x J R (by omega) ?_
  show fwWP mX12_likes (d + 2) 6 [some (aR 12 0), some (aI x), some (aI y), some (aI z), none, none] [aI (fwB (0 ≤ x ∧ x ≤ gg 5 0 3 - 1))] h Q
  refine w_ifB_eq 33 dX12_likes_6 (by decide) (fun c6 => ?_) (fun c6 => ?_)
  · refine w_bipush dX12_likes_33 rfl ?_
    exact w_iretE dX12_likes_35 rfl rfl (k.1 (by omega))
  · refine w_iload_n dX12_likes_9 rfl ?_
    refine w_i2l dX12_likes_10 (by omega) ?_
    refine w_lconst (z := 0) dX12_likes_11 rfl ?_
    refine w_ldc2 (n := 2) dX12_likes_12 cs_X12_63 ?_
    refine w_callS (d := d + 1) (S := []) [aJ y, aJ 0, aJ 2] dX12_likes_15 ml_X12_65 ok_X12_in st_X12_in rfl (Nat.le_of_ble_eq_true rfl) ?_
    refine c_X12_in (d := (d + 1)) y 0 2 (by omega) (by omega) (by omega) ?_
    show fwWP mX12_likes (d + 2) 18 [some (aR 12 0), some (aI x), some (aI y), some (aI z), none, none] [aI (fwB (0 ≤ y ∧ y ≤ 2))] h Q
    refine w_ifB_eq 33 dX12_likes_18 (by decide) (fun c18 => ?_) (fun c18 => ?_)
    · refine w_bipush dX12_likes_33 rfl ?_
      exact w_iretE dX12_likes_35 rfl rfl (k.1 (by omega))
    · refine w_iload_n dX12_likes_21 rfl ?_
      refine w_i2l dX12_likes_22 (by omega) ?_
      refine w_lconst (z := 0) dX12_likes_23 rfl ?_
      refine w_ldc2 (n := 9) dX12_likes_24 cs_X12_71 ?_
      refine w_callS (d := d + 1) (S := []) [aJ z, aJ 0, aJ 9] dX12_likes_27 ml_X12_65 ok_X12_in st_X12_in rfl (Nat.le_of_ble_eq_true rfl) ?_
      refine c_X12_in (d := (d + 1)) z 0 9 (by omega) (by omega) (by omega) ?_
      show fwWP mX12_likes (d + 2) 30 [some (aR 12 0), some (aI x), some (aI y), some (aI z), none, none] [aI (fwB (0 ≤ z ∧ z ≤ 9))] h Q
      refine w_ifB_ne 36 dX12_likes_30 (by decide) (fun c30 => ?_) (fun c30 => ?_)
      · refine w_aload_n dX12_likes_36 rfl ?_
        refine w_getr 36 0 dX12_likes_37 fl_X12_9 rfl (by decide) ?_
        refine w_bipush dX12_likes_40 rfl ?_
        refine w_ialdE (v := gg 3 0 3) dX12_likes_42 rfl (by decide) (by omega) (by omega) R.2.2.2.2.2.2.2.2.1 ?_
        refine w_if_le 49 dX12_likes_43 (by decide) (by omega) (fun c43 => ?_) (fun c43 => ?_)
        · obtain ⟨f, rfl⟩ : ∃ f : Nat, x = (f : Int) := ⟨x.toNat, by omega⟩
          obtain ⟨u, rfl⟩ : ∃ u : Nat, y = (u : Int) := ⟨y.toNat, by omega⟩
          refine w_bipush dX12_likes_49 rfl ?_
          refine w_bipush dX12_likes_51 rfl ?_
          refine w_iload_n dX12_likes_53 rfl ?_
          refine w_imul dX12_likes_54 ?_
          refine w_iadd dX12_likes_55 ?_
          refine w_iconst dX12_likes_56 ?_
          refine w_iadd dX12_likes_57 ?_
          refine w_iload_n dX12_likes_58 rfl ?_
          refine w_iadd dX12_likes_59 ?_
          refine w_istore [some (aR 12 0), some (aI (f : Int)), some (aI (u : Int)), some (aI z), some (aI (((19 + (7 * (f : Int))) + 2) + (u : Int))), none] dX12_likes_60 rfl (by decide) ?_
          refine w_aload_n dX12_likes_62 rfl ?_
          refine w_getr 36 0 dX12_likes_63 fl_X12_9 rfl (by decide) ?_
          refine w_iload dX12_likes_66 rfl ?_
          refine w_ialdE (v := gg 18 0 (7 * f + (2 + u))) dX12_likes_68 rfl (by decide) (by omega) (by omega) (by rw [show ((((19 + (7 * (f : Int))) + 2) + (u : Int)).toNat) = 19 + (7 * f + (2 + u)) by omega]; exact R.2.2.2.2.2.2.2.2.2.1 _ (by omega)) ?_
          refine w_istore [some (aR 12 0), some (aI (f : Int)), some (aI (u : Int)), some (aI z), some (aI (((19 + (7 * (f : Int))) + 2) + (u : Int))), some (aI (gg 18 0 (7 * f + (2 + u))))] dX12_likes_69 rfl (by decide) ?_
          refine w_aload_n dX12_likes_71 rfl ?_
          refine w_getr 36 0 dX12_likes_72 fl_X12_9 rfl (by decide) ?_
          refine w_iload dX12_likes_75 rfl ?_
          refine w_iload_n dX12_likes_77 rfl ?_
          refine w_iast dX12_likes_78 rfl (by decide) (by omega) (by omega) ?_
          refine w_iload dX12_likes_79 rfl ?_
          rw [show ((((19 + (7 * (f : Int))) + 2) + (u : Int)).toNat) = 19 + (7 * f + (2 + u)) by omega]
          exact w_iretE dX12_likes_81 rfl rfl (k.2.2 (by omega) (by omega))
        · refine w_bipush dX12_likes_46 rfl ?_
          exact w_iretE dX12_likes_48 rfl rfl (k.2.1 (by omega) (by omega))
      · refine w_bipush dX12_likes_33 rfl ?_
        exact w_iretE dX12_likes_35 rfl rfl (k.1 (by omega))
set_option maxRecDepth 100000 in
set_option maxHeartbeats 4000000 in
theorem c_X12_undo {d : Nat} {h gg : fwH} {Q : Option fwV → fwH → Prop}  (J : cOk gg) (R : jF gg h) (K : jA gg h)  (k : (¬ 0 < gg 3 0 6 → Q (some (aI (-2))) h) ∧ (0 < gg 3 0 6 → ¬ 0 < gg 3 0 3 → Q (some (aI (-5))) h) ∧ (0 < gg 3 0 6 → 0 < gg 3 0 3 → Q (some (aI (gg 3 0 3 - 1))) (fwUp h 36 0 8 (gg 3 0 3 - 1)))) : fwCt mX12_undo (d + 1) [aR 12 0] h Q := by
  refine fwCt_of [some (aR 12 0)] rfl rfl rfl ?_
  obtain ⟨hl, hP, hG, hM0, htd, hut, hlw, hhc, ha, hs, hT, hsc⟩ := id J
  have hb17 : hB (gg 17 0) := fun c hc => by have := hM0 c hc; omega
  obtain ⟨⟨g1, g2⟩, ⟨g3, g4⟩, ⟨g5, g6⟩, g7, -⟩ := id hG
  have h17_99 : ∀ c : Nat, (c : Int) < gg 4 0 1 → gg 17 0 c ≤ 99 := fun c hc => (hM0 c (by omega)).2
  have hpz := hP.1
  have hrs1 := R.2.2.2.2.2.2.2.2.2.2.2
  refine w_aload_n dX12_undo_0 rfl ?_
  refine w_callV (d := d + 0) (S := []) [] dX12_undo_1 ml_X12_73 ok_X12_isMount vi_X12_isMount rfl rfl (by decide) rfl (Nat.le_of_ble_eq_true rfl) ?_
  refine c_X12_isMount (d := d) J R ?_
  show fwWP mX12_undo (d + 1) 4 [some (aR 12 0)] [aI (fwB (0 < gg 3 0 6))] h Q
  refine w_ifB_ne 10 dX12_undo_4 (by decide) (fun c4 => ?_) (fun c4 => ?_)
  · refine w_aload_n dX12_undo_10 rfl ?_
    refine w_getr 36 0 dX12_undo_11 fl_X12_9 rfl (by decide) ?_
    refine w_bipush dX12_undo_14 rfl ?_
    refine w_ialdE (v := gg 3 0 3) dX12_undo_16 rfl (by decide) (by omega) (by omega) R.2.2.2.2.2.2.2.2.1 ?_
    refine w_if_ne 23 dX12_undo_17 (by decide) (by omega) (fun c17 => ?_) (fun c17 => ?_)
    · refine w_aload_n dX12_undo_23 rfl ?_
      refine w_getr 36 0 dX12_undo_24 fl_X12_9 rfl (by decide) ?_
      refine w_bipush dX12_undo_27 rfl ?_
      refine w_dup2 dX12_undo_29 rfl rfl ?_
      refine w_ialdE (v := gg 3 0 3) dX12_undo_30 rfl (by decide) (by omega) (by omega) R.2.2.2.2.2.2.2.2.1 ?_
      refine w_iconst dX12_undo_31 ?_
      refine w_isub dX12_undo_32 ?_
      refine w_iast dX12_undo_33 rfl (by decide) (by omega) (by omega) ?_
      refine w_aload_n dX12_undo_34 rfl ?_
      refine w_getr 36 0 dX12_undo_35 fl_X12_9 rfl (by decide) ?_
      refine w_bipush dX12_undo_38 rfl ?_
      refine w_ialdE (v := gg 3 0 3 - 1) dX12_undo_40 rfl (by decide) (by omega) (by omega) rfl ?_
      exact w_iretE dX12_undo_41 rfl rfl (k.2.2 (by omega) (by omega))
    · refine w_bipush dX12_undo_20 rfl ?_
      exact w_iretE dX12_undo_22 rfl rfl (k.2.1 (by omega) (by omega))
  · refine w_bipush dX12_undo_7 rfl ?_
    exact w_iretE dX12_undo_9 rfl rfl (k.1 (by omega))
set_option maxRecDepth 100000 in
set_option maxHeartbeats 4000000 in
theorem c_X12_anew {d : Nat} {h gg : fwH} {Q : Option fwV → fwH → Prop}  (J : cOk gg) (R : jF gg h) (K : jA gg h)  (k : (¬ 0 < gg 3 0 6 → Q (some (aI (-2))) h) ∧ (0 < gg 3 0 6 → Q (some (aI (gg 3 0 3))) (fwUp h 36 0 8 0))) : fwCt mX12_anew (d + 1) [aR 12 0] h Q := by
  refine fwCt_of [some (aR 12 0), none] rfl rfl rfl ?_
  obtain ⟨hl, hP, hG, hM0, htd, hut, hlw, hhc, ha, hs, hT, hsc⟩ := id J
  have hb17 : hB (gg 17 0) := fun c hc => by have := hM0 c hc; omega
  obtain ⟨⟨g1, g2⟩, ⟨g3, g4⟩, ⟨g5, g6⟩, g7, -⟩ := id hG
  have h17_99 : ∀ c : Nat, (c : Int) < gg 4 0 1 → gg 17 0 c ≤ 99 := fun c hc => (hM0 c (by omega)).2
  have hpz := hP.1
  have hrs1 := R.2.2.2.2.2.2.2.2.2.2.2
  refine w_aload_n dX12_anew_0 rfl ?_
  refine w_callV (d := d + 0) (S := []) [] dX12_anew_1 ml_X12_73 ok_X12_isMount vi_X12_isMount rfl rfl (by decide) rfl (Nat.le_of_ble_eq_true rfl) ?_
  refine c_X12_isMount (d := d) J R ?_
  show fwWP mX12_anew (d + 1) 4 [some (aR 12 0), none] [aI (fwB (0 < gg 3 0 6))] h Q
  refine w_ifB_ne 10 dX12_anew_4 (by decide) (fun c4 => ?_) (fun c4 => ?_)
  · refine w_aload_n dX12_anew_10 rfl ?_
    refine w_getr 36 0 dX12_anew_11 fl_X12_9 rfl (by decide) ?_
    refine w_bipush dX12_anew_14 rfl ?_
    refine w_ialdE (v := gg 3 0 3) dX12_anew_16 rfl (by decide) (by omega) (by omega) R.2.2.2.2.2.2.2.2.1 ?_
    refine w_istore_n [some (aR 12 0), some (aI (gg 3 0 3))] dX12_anew_17 rfl (by decide) ?_
    refine w_aload_n dX12_anew_18 rfl ?_
    refine w_getr 36 0 dX12_anew_19 fl_X12_9 rfl (by decide) ?_
    refine w_bipush dX12_anew_22 rfl ?_
    refine w_iconst dX12_anew_24 ?_
    refine w_iast dX12_anew_25 rfl (by decide) (by omega) (by omega) ?_
    refine w_iload_n dX12_anew_26 rfl ?_
    exact w_iretE dX12_anew_27 rfl rfl (k.2 (by omega))
  · refine w_bipush dX12_anew_7 rfl ?_
    exact w_iretE dX12_anew_9 rfl rfl (k.1 (by omega))
set_option maxRecDepth 100000 in
set_option maxHeartbeats 4000000 in
theorem c_X12_keepAct {d : Nat} {h gg : fwH} {Q : Option fwV → fwH → Prop} (x : Int) (J : cOk gg) (R : jF gg h) (h60 : gg 3 0 3 < 60) (k : Q none (fwUp (fwUp h 36 0 (75 + (gg 3 0 3).toNat) x) 36 0 8 (gg 3 0 3 + 1))) : fwCt mX12_keepAct (d + 0) [aR 12 0, aI x] h Q := by
  refine fwCt_of [some (aR 12 0), some (aI x)] rfl rfl rfl ?_
  obtain ⟨hl, hP, hG, -, -, -, hlw, -, ha, hs, -, hsc⟩ := id J
  obtain ⟨⟨g1, g2⟩, ⟨g3, g4⟩, ⟨g5, g6⟩, g7, -⟩ := id hG
  have hpz := hP.1
  refine w_aload_n dX12_keepAct_0 rfl ?_
  refine w_getr 36 0 dX12_keepAct_1 fl_X12_9 rfl (by decide) ?_
  refine w_bipush dX12_keepAct_4 rfl ?_
  refine w_aload_n dX12_keepAct_6 rfl ?_
  refine w_getr 36 0 dX12_keepAct_7 fl_X12_9 rfl (by decide) ?_
  refine w_bipush dX12_keepAct_10 rfl ?_
  refine w_ialdE (v := gg 3 0 3) dX12_keepAct_12 rfl (by decide) (by omega) (by omega) R.2.2.2.2.2.2.2.2.1 ?_
  refine w_iadd dX12_keepAct_13 ?_
  refine w_iload_n dX12_keepAct_14 rfl ?_
  refine w_iast dX12_keepAct_15 rfl (by decide) (by omega) (by omega) ?_
  refine w_aload_n dX12_keepAct_16 rfl ?_
  refine w_getr 36 0 dX12_keepAct_17 fl_X12_9 rfl (by decide) ?_
  refine w_bipush dX12_keepAct_20 rfl ?_
  refine w_dup2 dX12_keepAct_22 rfl rfl ?_
  refine w_ialdE (v := gg 3 0 3) dX12_keepAct_23 rfl (by decide) (by omega) (by omega) (by show (if (36 : Nat) = 36 ∧ (0 : Nat) = 0 ∧ 8 = (75 + gg 3 0 3).toNat then x else h 36 0 8) = gg 3 0 3; rw [if_neg (by omega)]; exact R.2.2.2.2.2.2.2.2.1) ?_
  refine w_iconst dX12_keepAct_24 ?_
  refine w_iadd dX12_keepAct_25 ?_
  refine w_iast dX12_keepAct_26 rfl (by decide) (by omega) (by omega) ?_
  rw [show (75 + gg 3 0 3).toNat = 75 + (gg 3 0 3).toNat by omega]
  exact w_vret dX12_keepAct_27 rfl k
set_option maxRecDepth 100000 in
set_option maxHeartbeats 4000000 in
theorem c_X12_take {d : Nat} {h gg : fwH} {Q : Option fwV → fwH → Prop}  (J : cOk gg) (R : jF gg h) (K : jA gg h)  (k : (¬ 0 < gg 3 0 6 → Q (some (aI (-2))) h) ∧ (0 < gg 3 0 6 → ¬ (gg 3 0 3 < 60 ∧ mMax (gg 17 0) (gg 4 0 1).toNat ≠ 0) → ∀ A, Q (some (aI (-5))) (fwUc h 42 0 A)) ∧ (0 < gg 3 0 6 → (gg 3 0 3 < 60 ∧ mMax (gg 17 0) (gg 4 0 1).toNat ≠ 0) → ∀ A, Q (some (aI (mTop (gg 17 0) (gg 4 0 4) (gg 4 0 1).toNat))) (fwUp (fwUp (fwUc h 42 0 A) 36 0 (75 + (gg 3 0 3).toNat) 0) 36 0 8 (gg 3 0 3 + 1)))) : fwCt mX12_take (d + 6) [aR 12 0] h Q := by
  refine fwCt_of [some (aR 12 0), none] rfl rfl rfl ?_
  obtain ⟨hl, hP, hG, hM0, htd, hut, hlw, hhc, ha, hs, hT, hsc⟩ := id J
  have hb17 : hB (gg 17 0) := fun c hc => by have := hM0 c hc; omega
  obtain ⟨⟨g1, g2⟩, ⟨g3, g4⟩, ⟨g5, g6⟩, g7, -⟩ := id hG
  have h17_99 : ∀ c : Nat, (c : Int) < gg 4 0 1 → gg 17 0 c ≤ 99 := fun c hc => (hM0 c (by omega)).2
  have hpz := hP.1
  have hrs1 := R.2.2.2.2.2.2.2.2.2.2.2
  refine w_aload_n dX12_take_0 rfl ?_
  refine w_callV (d := d + 5) (S := []) [] dX12_take_1 ml_X12_73 ok_X12_isMount vi_X12_isMount rfl rfl (by decide) rfl (Nat.le_of_ble_eq_true rfl) ?_
  refine c_X12_isMount (d := (d + 5)) J R ?_
  show fwWP mX12_take (d + 6) 4 [some (aR 12 0), none] [aI (fwB (0 < gg 3 0 6))] h Q
  refine w_ifB_ne 10 dX12_take_4 (by decide) (fun c4 => ?_) (fun c4 => ?_)
  · refine w_aload_n dX12_take_10 rfl ?_
    refine w_callV (d := d + 5) (S := []) [] dX12_take_11 ml_X12_240 ok_X12_asItIs vi_X12_asItIs rfl rfl (by decide) rfl (Nat.le_of_ble_eq_true rfl) ?_
    refine c_X12_asItIs (d := d) J R K (show 1 ≤ gg 4 0 1 by omega) (show 1 ≤ gg 4 0 3 by omega) ?_
    intro A11_2 hA11_2
    show fwWP mX12_take (d + 6) 14 [some (aR 12 0), none] [] (fwUc h 42 0 A11_2) Q
    refine w_aload_n dX12_take_14 rfl ?_
    refine w_callV (d := d + 5) (S := []) [] dX12_take_15 ml_X12_200 ok_X12_topCell vi_X12_topCell rfl rfl (by decide) rfl (Nat.le_of_ble_eq_true rfl) ?_
    refine c_X12_topCell (d := (d + 5)) (gg 17 0) J R hA11_2 hb17 (show 1 ≤ gg 4 0 1 by omega) ?_
    show fwWP mX12_take (d + 6) 18 [some (aR 12 0), none] [aI (mTop (gg 17 0) (gg 4 0 4) (gg 4 0 1).toNat)] (fwUc h 42 0 A11_2) Q
    have htp3 := mTop_r2 (gg 17 0) (gg 4 0 4) (gg 4 0 1).toNat (by omega)
    refine w_istore_n [some (aR 12 0), some (aI (mTop (gg 17 0) (gg 4 0 4) (gg 4 0 1).toNat))] dX12_take_18 rfl (by decide) ?_
    have hbt := hM0 (mTop (gg 17 0) (gg 4 0 4) (gg 4 0 1).toNat).toNat (by omega)
    have hmx := mMax_top (H := gg 17 0) (ls := gg 4 0 4) (gg 4 0 1).toNat (by omega) (fun c hc => (hM0 c (by omega)).1)
    refine w_aload_n dX12_take_19 rfl ?_
    refine w_getr 42 0 dX12_take_20 fl_X12_34 rfl (by decide) ?_
    refine w_iload_n dX12_take_23 rfl ?_
    refine w_ialdE (v := (gg 17 0) (mTop (gg 17 0) (gg 4 0 4) (gg 4 0 1).toNat).toNat) dX12_take_24 rfl (by decide) (by omega) (by omega) (hA11_2 _ (by omega)) ?_
    refine w_if_eq 40 dX12_take_25 (by decide) (by omega) (fun c25 => ?_) (fun c25 => ?_)
    · refine w_bipush dX12_take_40 rfl ?_
      exact w_iretE dX12_take_42 rfl rfl (k.2.1 (by omega) (by omega) _)
    · refine w_aload_n dX12_take_28 rfl ?_
      refine w_getr 36 0 dX12_take_29 fl_X12_9 rfl (by decide) ?_
      refine w_bipush dX12_take_32 rfl ?_
      refine w_ialdE (v := gg 3 0 3) dX12_take_34 rfl (by decide) (by omega) (by omega) R.2.2.2.2.2.2.2.2.1 ?_
      refine w_bipush dX12_take_35 rfl ?_
      refine w_icmp_ne 43 dX12_take_37 (by decide) (by omega) (by omega) (fun c37 => ?_) (fun c37 => ?_)
      · refine w_aload_n dX12_take_43 rfl ?_
        refine w_iconst dX12_take_44 ?_
        refine w_callV (d := d + 5) (S := []) [aI 0] dX12_take_45 ml_X12_254 ok_X12_keepAct vi_X12_keepAct rfl rfl (by decide) rfl (Nat.le_of_ble_eq_true rfl) ?_
        refine c_X12_keepAct (d := (d + 5)) 0 J R (by omega) ?_
        show fwWP mX12_take (d + 6) 48 [some (aR 12 0), some (aI (mTop (gg 17 0) (gg 4 0 4) (gg 4 0 1).toNat))] [] (fwUp (fwUp (fwUc h 42 0 A11_2) 36 0 (75 + (gg 3 0 3).toNat) 0) 36 0 8 (gg 3 0 3 + 1)) Q
        refine w_iload_n dX12_take_48 rfl ?_
        exact w_iretE dX12_take_49 rfl rfl (k.2.2 (by omega) (by omega) _)
      · refine w_bipush dX12_take_40 rfl ?_
        exact w_iretE dX12_take_42 rfl rfl (k.2.1 (by omega) (by omega) _)
  · refine w_bipush dX12_take_7 rfl ?_
    exact w_iretE dX12_take_9 rfl rfl (k.1 (by omega))
set_option maxRecDepth 100000 in
set_option maxHeartbeats 4000000 in
theorem c_X12_heap {d : Nat} {h gg : fwH} {Q : Option fwV → fwH → Prop} (x : Int) (J : cOk gg) (R : jF gg h) (K : jA gg h) (hx : -2147483648 ≤ x ∧ x < 2147483648) (k : (¬ (0 ≤ x ∧ x < gg 4 0 1) → Q (some (aI (-2))) h) ∧ ((0 ≤ x ∧ x < gg 4 0 1) → ¬ (gg 3 0 3 < 60 ∧ (mStay (gg 4 0 1) (gg 17 0) (gg 4 0 3) x) ≠ -1) → ∀ A, Q (some (aI (-5))) (fwUc h 42 0 A)) ∧ ((0 ≤ x ∧ x < gg 4 0 1) → (gg 3 0 3 < 60 ∧ (mStay (gg 4 0 1) (gg 17 0) (gg 4 0 3) x) ≠ -1) → ∀ A, Q (some (aI (mStay (gg 4 0 1) (gg 17 0) (gg 4 0 3) x))) (fwUp (fwUp (fwUc h 42 0 A) 36 0 (75 + (gg 3 0 3).toNat) (1 + x)) 36 0 8 (gg 3 0 3 + 1)))) : fwCt mX12_heap (d + 6) [aR 12 0, aI x] h Q := by
  refine fwCt_of [some (aR 12 0), some (aI x), none] rfl rfl rfl ?_
  obtain ⟨hl, hP, hG, hM0, htd, hut, hlw, hhc, ha, hs, hT, hsc⟩ := id J
  have hb17 : hB (gg 17 0) := fun c hc => by have := hM0 c hc; omega
  obtain ⟨⟨g1, g2⟩, ⟨g3, g4⟩, ⟨g5, g6⟩, g7, -⟩ := id hG
  have h17_99 : ∀ c : Nat, (c : Int) < gg 4 0 1 → gg 17 0 c ≤ 99 := fun c hc => (hM0 c (by omega)).2
  have hpz := hP.1
  have hrs1 := R.2.2.2.2.2.2.2.2.2.2.2
  refine w_aload_n dX12_heap_0 rfl ?_
  refine w_iload_n dX12_heap_1 rfl ?_
  refine w_i2l dX12_heap_2 (by omega) ?_
  refine w_callV (d := d + 5) (S := []) [aJ x] dX12_heap_3 ml_X12_203 ok_X12_isCell vi_X12_isCell rfl rfl (by decide) rfl (Nat.le_of_ble_eq_true rfl) ?_
  refine c_X12_isCell (d := (d + 4)) x J R (by omega) ?_
  show fwWP mX12_heap (d + 6) 6 [some (aR 12 0), some (aI x), none] [aI (fwB (0 ≤ x ∧ x ≤ gg 4 0 1 - 1))] h Q
  refine w_ifB_ne 12 dX12_heap_6 (by decide) (fun c6 => ?_) (fun c6 => ?_)
  · refine w_aload_n dX12_heap_12 rfl ?_
    refine w_callV (d := d + 5) (S := []) [] dX12_heap_13 ml_X12_240 ok_X12_asItIs vi_X12_asItIs rfl rfl (by decide) rfl (Nat.le_of_ble_eq_true rfl) ?_
    refine c_X12_asItIs (d := d) J R K (show 1 ≤ gg 4 0 1 by omega) (show 1 ≤ gg 4 0 3 by omega) ?_
    intro A13_2 hA13_2
    show fwWP mX12_heap (d + 6) 16 [some (aR 12 0), some (aI x), none] [] (fwUc h 42 0 A13_2) Q
    refine w_aload_n dX12_heap_16 rfl ?_
    refine w_iload_n dX12_heap_17 rfl ?_
    refine w_callV (d := d + 5) (S := []) [aI x] dX12_heap_18 ml_X12_211 ok_X12_slideOf vi_X12_slideOf rfl rfl (by decide) rfl (Nat.le_of_ble_eq_true rfl) ?_
    refine c_X12_slideOf (d := (d + 2)) x (gg 17 0) J R hA13_2 hb17 h17_99 (show 1 ≤ gg 4 0 3 by omega) (show 0 ≤ x ∧ x < gg 4 0 1 by omega) ?_
    show fwWP mX12_heap (d + 6) 21 [some (aR 12 0), some (aI x), none] [aI (mStay (gg 4 0 1) (gg 17 0) (gg 4 0 3) x)] (fwUc h 42 0 A13_2) Q
    have hsr3 := mStay_rng (gg 17 0) (rs := gg 4 0 3) (n := gg 4 0 1) (x := x) (by omega) (by omega)
    refine w_istore_n [some (aR 12 0), some (aI x), some (aI (mStay (gg 4 0 1) (gg 17 0) (gg 4 0 3) x))] dX12_heap_21 rfl (by decide) ?_
    refine w_iload_n dX12_heap_22 rfl ?_
    refine w_iconst dX12_heap_23 ?_
    refine w_icmp_eq 39 dX12_heap_24 (by decide) (by omega) (by omega) (fun c24 => ?_) (fun c24 => ?_)
    · refine w_bipush dX12_heap_39 rfl ?_
      exact w_iretE dX12_heap_41 rfl rfl (k.2.1 (by omega) (by omega) _)
    · refine w_aload_n dX12_heap_27 rfl ?_
      refine w_getr 36 0 dX12_heap_28 fl_X12_9 rfl (by decide) ?_
      refine w_bipush dX12_heap_31 rfl ?_
      refine w_ialdE (v := gg 3 0 3) dX12_heap_33 rfl (by decide) (by omega) (by omega) R.2.2.2.2.2.2.2.2.1 ?_
      refine w_bipush dX12_heap_34 rfl ?_
      refine w_icmp_ne 42 dX12_heap_36 (by decide) (by omega) (by omega) (fun c36 => ?_) (fun c36 => ?_)
      · refine w_aload_n dX12_heap_42 rfl ?_
        refine w_iconst dX12_heap_43 ?_
        refine w_iload_n dX12_heap_44 rfl ?_
        refine w_iadd dX12_heap_45 ?_
        refine w_callV (d := d + 5) (S := []) [aI (1 + x)] dX12_heap_46 ml_X12_254 ok_X12_keepAct vi_X12_keepAct rfl rfl (by decide) rfl (Nat.le_of_ble_eq_true rfl) ?_
        refine c_X12_keepAct (d := (d + 5)) (1 + x) J R (by omega) ?_
        show fwWP mX12_heap (d + 6) 49 [some (aR 12 0), some (aI x), some (aI (mStay (gg 4 0 1) (gg 17 0) (gg 4 0 3) x))] [] (fwUp (fwUp (fwUc h 42 0 A13_2) 36 0 (75 + (gg 3 0 3).toNat) (1 + x)) 36 0 8 (gg 3 0 3 + 1)) Q
        refine w_iload_n dX12_heap_49 rfl ?_
        exact w_iretE dX12_heap_50 rfl rfl (k.2.2 (by omega) (by omega) _)
      · refine w_bipush dX12_heap_39 rfl ?_
        exact w_iretE dX12_heap_41 rfl rfl (k.2.1 (by omega) (by omega) _)
  · refine w_bipush dX12_heap_9 rfl ?_
    exact w_iretE dX12_heap_11 rfl rfl (k.1 (by omega))
theorem imR_s (W V : Nat → Int) (u c : Nat) : fwFu (fun s => if 135 * u ≤ s ∧ s < 135 * u + c then W (s - 135 * u) else V s) (135 * u + c) (W c) = fun s => if 135 * u ≤ s ∧ s < 135 * u + (c + 1) then W (s - 135 * u) else V s := by
  funext s
  unfold fwFu
  by_cases e : s = 135 * u + c
  · subst e
    rw [if_pos rfl, if_pos (by omega), show 135 * u + c - 135 * u = c by omega]
  · rw [if_neg e]
    dsimp only
    by_cases e2 : 135 * u ≤ s ∧ s < 135 * u + c
    · rw [if_pos e2, if_pos (by omega)]
    · rw [if_neg e2, if_neg (by omega)]
theorem imR_0 (W V : Nat → Int) (u : Nat) : V = fun s => if 135 * u ≤ s ∧ s < 135 * u + 0 then W (s - 135 * u) else V s := by
  funext s
  rw [if_neg (by omega)]
set_option maxRecDepth 100000 in
set_option maxHeartbeats 4000000 in
theorem c_X12_image {d : Nat} {h : fwH} {Q : Option fwV → fwH → Prop} (x : Int) (hx : -2147483648 ≤ x ∧ x < 2147483648) (k : (¬ (0 ≤ x ∧ x < 3) → Q (some (aI (-2))) h) ∧ ((0 ≤ x ∧ x < 3) → Q (some (aI 0)) (fwUp (fwUc h 37 0 (fun s => if 135 * x.toNat ≤ s ∧ s < 135 * x.toNat + 135 then h 36 0 (s - 135 * x.toNat) else h 37 0 s)) 38 0 x.toNat 1))) : fwCt mX12_image (d + 1) [aR 12 0, aI x] h Q := by
  refine fwCt_of [some (aR 12 0), some (aI x), none] rfl rfl rfl ?_
  refine w_iload_n dX12_image_0 rfl ?_
  refine w_i2l dX12_image_1 (by omega) ?_
  refine w_lconst (z := 0) dX12_image_2 rfl ?_
  refine w_ldc2 (n := 2) dX12_image_3 cs_X12_63 ?_
  refine w_callS (d := d + 0) (S := []) [aJ x, aJ 0, aJ 2] dX12_image_6 ml_X12_65 ok_X12_in st_X12_in rfl (Nat.le_of_ble_eq_true rfl) ?_
  refine c_X12_in (d := d) x 0 2 (by omega) (by omega) (by omega) ?_
  show fwWP mX12_image (d + 1) 9 [some (aR 12 0), some (aI x), none] [aI (fwB (0 ≤ x ∧ x ≤ 2))] h Q
  refine w_ifB_ne 15 dX12_image_9 (by decide) (fun c9 => ?_) (fun c9 => ?_)
  · obtain ⟨u, rfl⟩ : ∃ u : Nat, x = (u : Int) := ⟨x.toNat, by omega⟩
    refine w_iconst dX12_image_15 ?_
    refine w_istore_n [some (aR 12 0), some (aI (u : Int)), some (aI 0)] dX12_image_16 rfl (by decide) ?_
    have lp17 : ∀ c : Nat, c ≤ 135 → ∀ (y17  : Int) (hh17 : fwH), y17 = (c : Int) → hh17 = (fwUc h 37 0 (fun s => if 135 * u ≤ s ∧ s < 135 * u + c then h 36 0 (s - 135 * u) else h 37 0 s)) → fwWP mX12_image (d + 1) 17 [some (aR 12 0), some (aI (u : Int)), some (aI y17)] [] hh17 Q := by
      refine fw_up (fun c hc17 ih17 => ?_)
      intro y17  hh17 ey17 eh17
      subst ey17
      subst eh17
      show fwWP mX12_image (d + 1) 17 [some (aR 12 0), some (aI (u : Int)), some (aI (c : Int))] [] (fwUc h 37 0 (fun s => if 135 * u ≤ s ∧ s < 135 * u + c then h 36 0 (s - 135 * u) else h 37 0 s)) Q
      refine w_iload_n dX12_image_17 rfl ?_
      refine w_sipush dX12_image_18 rfl ?_
      refine w_icmp_ge 48 dX12_image_21 (by decide) (by omega) (by omega) (fun c21 => ?_) (fun c21 => ?_)
      · have ec17 : 135 = c := by omega
        subst ec17
        refine w_aload_n dX12_image_48 rfl ?_
        refine w_getr 38 0 dX12_image_49 fl_X12_16 rfl (by decide) ?_
        refine w_iload_n dX12_image_52 rfl ?_
        refine w_iconst dX12_image_53 ?_
        refine w_zast dX12_image_54 rfl (by decide) (by omega) (by omega) (by first | omega | exact fwB_01 _) ?_
        refine w_iconst dX12_image_55 ?_
        exact w_iretE dX12_image_56 rfl rfl (k.2 (by omega))
      · refine w_aload_n dX12_image_24 rfl ?_
        refine w_getr 37 0 dX12_image_25 fl_X12_13 rfl (by decide) ?_
        refine w_sipush dX12_image_28 rfl ?_
        refine w_iload_n dX12_image_31 rfl ?_
        refine w_imul dX12_image_32 ?_
        refine w_iload_n dX12_image_33 rfl ?_
        refine w_iadd dX12_image_34 ?_
        refine w_aload_n dX12_image_35 rfl ?_
        refine w_getr 36 0 dX12_image_36 fl_X12_9 rfl (by decide) ?_
        refine w_iload_n dX12_image_39 rfl ?_
        refine w_ialdE (v := h 36 0 c) dX12_image_40 rfl (by decide) (by omega) (by omega) rfl ?_
        refine w_iast dX12_image_41 rfl (by decide) (by omega) (by omega) ?_
        refine w_iinc [some (aR 12 0), some (aI (u : Int)), some (aI ((c : Int) + 1))] dX12_image_42 rfl rfl (by decide) ?_
        refine w_goto 17 dX12_image_45 (by decide) ?_
        refine ih17 (by omega) _ _ ?_ ?_
        · exact (by omega)
        · exact (by rw [fwUp_uc, show (135 * (u : Int) + (c : Int)).toNat = 135 * u + c by omega]; exact congrArg _ (imR_s (h 36 0) (h 37 0) u c))
    refine lp17 0 (Nat.zero_le _) _ _ ?_ ?_
    · exact (by omega)
    · exact (by rw [← imR_0 (h 36 0) (h 37 0) u]; exact (fwUc_self h 37 0).symm)
  · refine w_bipush dX12_image_12 rfl ?_
    exact w_iretE dX12_image_14 rfl rfl (k.1 (by omega))
set_option maxRecDepth 100000 in
set_option maxHeartbeats 4000000 in
theorem c_X12_back {d : Nat} {h : fwH} {Q : Option fwV → fwH → Prop} (x : Int) (hx : -2147483648 ≤ x ∧ x < 2147483648) (hz : ∀ k : Nat, k < 3 → h 38 0 k = 0 ∨ h 38 0 k = 1) (k : (¬ (0 ≤ x ∧ x < 3) → Q (some (aI (-2))) h) ∧ ((0 ≤ x ∧ x < 3) → h 38 0 x.toNat = 0 → Q (some (aI (-6))) h) ∧ ((0 ≤ x ∧ x < 3) → h 38 0 x.toNat ≠ 0 → Q (some (aI 0)) (fwUc h 36 0 (fwFl (fun s => h 37 0 (135 * x.toNat + s)) (h 36 0) 135)))) : fwCt mX12_back (d + 1) [aR 12 0, aI x] h Q := by
  refine fwCt_of [some (aR 12 0), some (aI x), none] rfl rfl rfl ?_
  refine w_iload_n dX12_back_0 rfl ?_
  refine w_i2l dX12_back_1 (by omega) ?_
  refine w_lconst (z := 0) dX12_back_2 rfl ?_
  refine w_ldc2 (n := 2) dX12_back_3 cs_X12_63 ?_
  refine w_callS (d := d + 0) (S := []) [aJ x, aJ 0, aJ 2] dX12_back_6 ml_X12_65 ok_X12_in st_X12_in rfl (Nat.le_of_ble_eq_true rfl) ?_
  refine c_X12_in (d := d) x 0 2 (by omega) (by omega) (by omega) ?_
  show fwWP mX12_back (d + 1) 9 [some (aR 12 0), some (aI x), none] [aI (fwB (0 ≤ x ∧ x ≤ 2))] h Q
  refine w_ifB_ne 15 dX12_back_9 (by decide) (fun c9 => ?_) (fun c9 => ?_)
  · obtain ⟨u, rfl⟩ : ∃ u : Nat, x = (u : Int) := ⟨x.toNat, by omega⟩
    have hz9 := hz u (by omega)
    refine w_aload_n dX12_back_15 rfl ?_
    refine w_getr 38 0 dX12_back_16 fl_X12_16 rfl (by decide) ?_
    refine w_iload_n dX12_back_19 rfl ?_
    refine w_zaldE (v := h 38 0 u) dX12_back_20 rfl (by decide) (by omega) (by omega) rfl ?_
    refine w_if_ne 27 dX12_back_21 (by decide) (by omega) (fun c21 => ?_) (fun c21 => ?_)
    · refine w_iconst dX12_back_27 ?_
      refine w_istore_n [some (aR 12 0), some (aI (u : Int)), some (aI 0)] dX12_back_28 rfl (by decide) ?_
      have lp29 : ∀ c : Nat, c ≤ 135 → ∀ (y29  : Int) (hh29 : fwH), y29 = (c : Int) → hh29 = (fwUc h 36 0 (fwFl (fun s => h 37 0 (135 * u + s)) (h 36 0) c)) → fwWP mX12_back (d + 1) 29 [some (aR 12 0), some (aI (u : Int)), some (aI y29)] [] hh29 Q := by
        refine fw_up (fun c hc29 ih29 => ?_)
        intro y29  hh29 ey29 eh29
        subst ey29
        subst eh29
        show fwWP mX12_back (d + 1) 29 [some (aR 12 0), some (aI (u : Int)), some (aI (c : Int))] [] (fwUc h 36 0 (fwFl (fun s => h 37 0 (135 * u + s)) (h 36 0) c)) Q
        refine w_iload_n dX12_back_29 rfl ?_
        refine w_sipush dX12_back_30 rfl ?_
        refine w_icmp_ge 60 dX12_back_33 (by decide) (by omega) (by omega) (fun c33 => ?_) (fun c33 => ?_)
        · have ec29 : 135 = c := by omega
          subst ec29
          refine w_iconst dX12_back_60 ?_
          exact w_iretE dX12_back_61 rfl rfl (k.2.2 (by omega) (by show h 38 0 u ≠ 0; omega))
        · refine w_aload_n dX12_back_36 rfl ?_
          refine w_getr 36 0 dX12_back_37 fl_X12_9 rfl (by decide) ?_
          refine w_iload_n dX12_back_40 rfl ?_
          refine w_aload_n dX12_back_41 rfl ?_
          refine w_getr 37 0 dX12_back_42 fl_X12_13 rfl (by decide) ?_
          refine w_sipush dX12_back_45 rfl ?_
          refine w_iload_n dX12_back_48 rfl ?_
          refine w_imul dX12_back_49 ?_
          refine w_iload_n dX12_back_50 rfl ?_
          refine w_iadd dX12_back_51 ?_
          refine w_ialdE (v := h 37 0 (135 * u + c)) dX12_back_52 rfl (by decide) (by omega) (by omega) (by rw [show (((135 * (u : Int)) + (c : Int)).toNat) = 135 * u + c by omega]; rfl) ?_
          refine w_iast dX12_back_53 rfl (by decide) (by omega) (by omega) ?_
          refine w_iinc [some (aR 12 0), some (aI (u : Int)), some (aI ((c : Int) + 1))] dX12_back_54 rfl rfl (by decide) ?_
          refine w_goto 29 dX12_back_57 (by decide) ?_
          refine ih29 (by omega) _ _ ?_ ?_
          · exact (by omega)
          · exact (by rw [fwUp_uc, Int.toNat_natCast]; exact congrArg _ (fwFl_succ (fun s => h 37 0 (135 * u + s)) (h 36 0) c))
      refine lp29 0 (Nat.zero_le _) _ _ ?_ ?_
      · exact (by omega)
      · exact (by rw [fwFl_0]; exact (fwUc_self h 36 0).symm)
    · refine w_bipush dX12_back_24 rfl ?_
      exact w_iretE dX12_back_26 rfl rfl (k.2.1 (by omega) (by show h 38 0 u = 0; omega))
  · refine w_bipush dX12_back_12 rfl ?_
    exact w_iretE dX12_back_14 rfl rfl (k.1 (by omega))
set_option maxRecDepth 100000 in
set_option maxHeartbeats 4000000 in
theorem c_X12_end {d : Nat} {h : fwH} {Q : Option fwV → fwH → Prop} (x : Int) (hx : -2147483648 ≤ x ∧ x < 2147483648) (ht : 0 ≤ h 12 0 5 ∧ h 12 0 5 ≤ 900) (k : ((0 ≤ x ∧ x ≤ h 12 0 5) → Q (some (aI x)) (fwUp h 12 0 5 x)) ∧ (¬ (0 ≤ x ∧ x ≤ h 12 0 5) → Q (some (aI (-1))) h)) : fwCt mX12_end (d + 1) [aR 12 0, aI x] h Q := by
  refine fwCt_of [some (aR 12 0), some (aI x)] rfl rfl rfl ?_
  refine w_iload_n dX12_end_0 rfl ?_
  refine w_i2l dX12_end_1 (by omega) ?_
  refine w_lconst (z := 0) dX12_end_2 rfl ?_
  refine w_aload_n dX12_end_3 rfl ?_
  refine w_geti dX12_end_4 fl_X12_81 rfl (by decide) ?_
  refine w_i2l dX12_end_7 (by omega) ?_
  refine w_callS (d := d + 0) (S := []) [aJ x, aJ 0, aJ (h 12 0 5)] dX12_end_8 ml_X12_65 ok_X12_in st_X12_in rfl (Nat.le_of_ble_eq_true rfl) ?_
  refine c_X12_in (d := d) x 0 (h 12 0 5) (by omega) (by omega) (by omega) ?_
  show fwWP mX12_end (d + 1) 11 [some (aR 12 0), some (aI x)] [aI (fwB (0 ≤ x ∧ x ≤ (h 12 0 5)))] h Q
  refine w_ifB_ne 16 dX12_end_11 (by decide) (fun c11 => ?_) (fun c11 => ?_)
  · refine w_aload_n dX12_end_16 rfl ?_
    refine w_iload_n dX12_end_17 rfl ?_
    refine w_puti dX12_end_18 fl_X12_81 fp_12_5 rfl (by decide) ?_
    refine w_iload_n dX12_end_21 rfl ?_
    exact w_iretE dX12_end_22 rfl rfl (k.1 (by omega))
  · refine w_iconst dX12_end_14 ?_
    exact w_iretE dX12_end_15 rfl rfl (k.2 (by omega))
set_option maxRecDepth 100000 in
set_option maxHeartbeats 4000000 in
theorem c_X12_fault {d : Nat} {h : fwH} {Q : Option fwV → fwH → Prop} (x : Int) (hx : -2147483648 ≤ x ∧ x < 2147483648) (k : Q (some (aI (if x = 0 then h 12 0 12 else if x = 1 then h 12 0 13 else -1))) h) : fwCt mX12_fault (d + 0) [aR 12 0, aI x] h Q := by
  refine fwCt_of [some (aR 12 0), some (aI x)] rfl rfl rfl ?_
  refine w_iload_n dX12_fault_0 rfl ?_
  refine w_if_ne 11 dX12_fault_1 (by decide) (by omega) (fun c1 => ?_) (fun c1 => ?_)
  · refine w_iload_n dX12_fault_11 rfl ?_
    refine w_iconst dX12_fault_12 ?_
    refine w_icmp_ne 23 dX12_fault_13 (by decide) (by omega) (by omega) (fun c13 => ?_) (fun c13 => ?_)
    · refine w_iconst dX12_fault_23 ?_
      exact w_iretE dX12_fault_24 rfl (by first | (rw [if_pos (by omega)]; done) | (rw [if_neg (by omega), if_pos (by omega)]; done) | (rw [if_neg (by omega), if_neg (by omega)]; done)) k
    · refine w_aload_n dX12_fault_16 rfl ?_
      refine w_geti dX12_fault_17 fl_X12_27 rfl (by decide) ?_
      refine w_goto 24 dX12_fault_20 (by decide) ?_
      exact w_iretE dX12_fault_24 rfl (by first | (rw [if_pos (by omega)]; done) | (rw [if_neg (by omega), if_pos (by omega)]; done) | (rw [if_neg (by omega), if_neg (by omega)]; done)) k
  · refine w_aload_n dX12_fault_4 rfl ?_
    refine w_geti dX12_fault_5 fl_X12_118 rfl (by decide) ?_
    refine w_goto 24 dX12_fault_8 (by decide) ?_
    exact w_iretE dX12_fault_24 rfl (by first | (rw [if_pos (by omega)]; done) | (rw [if_neg (by omega), if_pos (by omega)]; done) | (rw [if_neg (by omega), if_neg (by omega)]; done)) k
end
section
/-- the two classes' rows of numbers -/
def jS (gg h : fwH) : Prop := ∀ s : Nat, s < 4 → h 46 0 s = gg 35 0 s ∧ h 47 0 s = gg 34 0 s ∧ ∀ j : Nat, j < 60 → h 48 0 (60 * s + j) = gg 33 s j
set_option maxRecDepth 100000 in
set_option maxHeartbeats 4000000 in
theorem c_X12_isSlot {d : Nat} {h : fwH} {Q : Option fwV → fwH → Prop} (x : Int) (hx : -2147483648 ≤ x ∧ x < 2147483648) (k : Q (some (aI (fwB (0 ≤ x ∧ x ≤ 3)))) h) : fwCt mX12_isSlot (d + 1) [aI x] h Q := by
  refine fwCt_of [some (aI x)] rfl rfl rfl ?_
  refine w_iload_n dX12_isSlot_0 rfl ?_
  refine w_i2l dX12_isSlot_1 (by omega) ?_
  refine w_lconst (z := 0) dX12_isSlot_2 rfl ?_
  refine w_ldc2 (n := 3) dX12_isSlot_3 cs_X12_342 ?_
  refine w_callS (d := d + 0) (S := []) [aJ x, aJ 0, aJ 3] dX12_isSlot_6 ml_X12_65 ok_X12_in st_X12_in rfl (Nat.le_of_ble_eq_true rfl) ?_
  refine c_X12_in (d := d) x 0 3 (by omega) (by omega) (by omega) ?_
  show fwWP mX12_isSlot (d + 1) 9 [some (aI x)] [aI (fwB (0 ≤ x ∧ x ≤ 3))] h Q
  exact w_zretE dX12_isSlot_9 rfl (by first | (exfalso; omega) | (rw [fwB_t (by omega)]) | (rw [fwB_f (by omega)]) | rfl) k
set_option maxRecDepth 100000 in
set_option maxHeartbeats 4000000 in
theorem c_X12_numberAt {d : Nat} {h gg : fwH} {Q : Option fwV → fwH → Prop} (s j : Nat) (S : jS gg h) (hs : s < 4) (hj : j < 60) (k : Q (some (aJ (gg 33 s j))) h) : fwCt mX12_numberAt (d + 0) [aR 12 0, aI (s : Int), aI (j : Int)] h Q := by
  refine fwCt_of [some (aR 12 0), some (aI (s : Int)), some (aI (j : Int))] rfl rfl rfl ?_
  refine w_aload_n dX12_numberAt_0 rfl ?_
  refine w_getr 48 0 dX12_numberAt_1 fl_X12_53 rfl (by decide) ?_
  refine w_bipush dX12_numberAt_4 rfl ?_
  refine w_iload_n dX12_numberAt_6 rfl ?_
  refine w_imul dX12_numberAt_7 ?_
  refine w_iload_n dX12_numberAt_8 rfl ?_
  refine w_iadd dX12_numberAt_9 ?_
  refine w_laldE (v := gg 33 s j) dX12_numberAt_10 rfl (by decide) (by omega) (by omega) (by rw [show (((60 * (s : Int)) + (j : Int)).toNat) = 60 * s + j by omega]; exact (S s hs).2.2 j hj) ?_
  exact w_lret dX12_numberAt_11 rfl k
theorem c_naE {d : Nat} {h gg : fwH} {Q : Option fwV → fwH → Prop} (s j : Nat) (x y : Int) (S : jS gg h) (ex : x = (s : Int)) (ey : y = (j : Int)) (hs : s < 4) (hj : j < 60) (k : Q (some (aJ (gg 33 s j))) h) : fwCt mX12_numberAt d [aR 12 0, aI x, aI y] h Q := by
  subst ex ey
  exact c_X12_numberAt s j S hs hj k
theorem rz_s (V : Nat → Int) (u c : Nat) : fwFu (fun s => if 60 * u ≤ s ∧ s < 60 * u + c then 0 else V s) (60 * u + c) 0 = fun s => if 60 * u ≤ s ∧ s < 60 * u + (c + 1) then 0 else V s := by
  funext s
  unfold fwFu
  by_cases e : s = 60 * u + c
  · subst e
    rw [if_pos rfl, if_pos (by omega)]
  · rw [if_neg e]
    dsimp only
    by_cases e2 : 60 * u ≤ s ∧ s < 60 * u + c
    · rw [if_pos e2, if_pos (by omega)]
    · rw [if_neg e2, if_neg (by omega)]
theorem rz_0 (V : Nat → Int) (u : Nat) : V = fun s => if 60 * u ≤ s ∧ s < 60 * u + 0 then 0 else V s := by
  funext s
  rw [if_neg (by omega)]
set_option maxRecDepth 100000 in
set_option maxHeartbeats 4000000 in
theorem c_X12_row {d : Nat} {h : fwH} {Q : Option fwV → fwH → Prop} (x y z : Int) (hx : -2147483648 ≤ x ∧ x < 2147483648) (hy : -2147483648 ≤ y ∧ y < 2147483648) (hz : -2147483648 ≤ z ∧ z < 2147483648) (k : (¬ ((0 ≤ x ∧ x < 4) ∧ (0 ≤ y ∧ y < 4) ∧ z ≤ 60) → Q (some (aI (-2))) h) ∧ (((0 ≤ x ∧ x < 4) ∧ (0 ≤ y ∧ y < 4) ∧ z ≤ 60) → z < 0 → Q (some (aI (-3))) h) ∧ (((0 ≤ x ∧ x < 4) ∧ (0 ≤ y ∧ y < 4) ∧ z ≤ 60) → ¬ z < 0 → Q (some (aI 0)) (fwUc (fwUp (fwUp h 46 0 x.toNat z) 47 0 x.toNat y) 48 0 (fun s => if 60 * x.toNat ≤ s ∧ s < 60 * x.toNat + 60 then 0 else h 48 0 s)))) : fwCt mX12_row (d + 2) [aR 12 0, aI x, aI y, aI z] h Q := by
  refine fwCt_of [some (aR 12 0), some (aI x), some (aI y), some (aI z), none] rfl rfl rfl ?_
  refine w_iload_n dX12_row_0 rfl ?_
  refine w_callS (d := d + 1) (S := []) [aI x] dX12_row_1 ml_X12_357 ok_X12_isSlot st_X12_isSlot rfl (Nat.le_of_ble_eq_true rfl) ?_
  refine c_X12_isSlot (d := d) x (by omega) ?_
  show fwWP mX12_row (d + 2) 4 [some (aR 12 0), some (aI x), some (aI y), some (aI z), none] [aI (fwB (0 ≤ x ∧ x ≤ 3))] h Q
  refine w_ifB_eq 25 dX12_row_4 (by decide) (fun c4 => ?_) (fun c4 => ?_)
  · refine w_bipush dX12_row_25 rfl ?_
    exact w_iretE dX12_row_27 rfl rfl (k.1 (by omega))
  · refine w_iload_n dX12_row_7 rfl ?_
    refine w_i2l dX12_row_8 (by omega) ?_
    refine w_lconst (z := 0) dX12_row_9 rfl ?_
    refine w_ldc2 (n := 3) dX12_row_10 cs_X12_342 ?_
    refine w_callS (d := d + 1) (S := []) [aJ y, aJ 0, aJ 3] dX12_row_13 ml_X12_65 ok_X12_in st_X12_in rfl (Nat.le_of_ble_eq_true rfl) ?_
    refine c_X12_in (d := (d + 1)) y 0 3 (by omega) (by omega) (by omega) ?_
    show fwWP mX12_row (d + 2) 16 [some (aR 12 0), some (aI x), some (aI y), some (aI z), none] [aI (fwB (0 ≤ y ∧ y ≤ 3))] h Q
    refine w_ifB_eq 25 dX12_row_16 (by decide) (fun c16 => ?_) (fun c16 => ?_)
    · refine w_bipush dX12_row_25 rfl ?_
      exact w_iretE dX12_row_27 rfl rfl (k.1 (by omega))
    · refine w_iload_n dX12_row_19 rfl ?_
      refine w_bipush dX12_row_20 rfl ?_
      refine w_icmp_le 28 dX12_row_22 (by decide) (by omega) (by omega) (fun c22 => ?_) (fun c22 => ?_)
      · refine w_iload_n dX12_row_28 rfl ?_
        refine w_if_ge 35 dX12_row_29 (by decide) (by omega) (fun c29 => ?_) (fun c29 => ?_)
        · obtain ⟨u, rfl⟩ : ∃ u : Nat, x = (u : Int) := ⟨x.toNat, by omega⟩
          refine w_aload_n dX12_row_35 rfl ?_
          refine w_getr 46 0 dX12_row_36 fl_X12_47 rfl (by decide) ?_
          refine w_iload_n dX12_row_39 rfl ?_
          refine w_iload_n dX12_row_40 rfl ?_
          refine w_iast dX12_row_41 rfl (by decide) (by omega) (by omega) ?_
          refine w_aload_n dX12_row_42 rfl ?_
          refine w_getr 47 0 dX12_row_43 fl_X12_50 rfl (by decide) ?_
          refine w_iload_n dX12_row_46 rfl ?_
          refine w_iload_n dX12_row_47 rfl ?_
          refine w_iast dX12_row_48 rfl (by decide) (by omega) (by omega) ?_
          refine w_iconst dX12_row_49 ?_
          refine w_istore [some (aR 12 0), some (aI (u : Int)), some (aI y), some (aI z), some (aI 0)] dX12_row_50 rfl (by decide) ?_
          have lp52 : ∀ c : Nat, c ≤ 60 → ∀ (y52  : Int) (hh52 : fwH), y52 = (c : Int) → hh52 = (fwUc (fwUp (fwUp h 46 0 u z) 47 0 u y) 48 0 (fun s => if 60 * u ≤ s ∧ s < 60 * u + c then 0 else h 48 0 s)) → fwWP mX12_row (d + 2) 52 [some (aR 12 0), some (aI (u : Int)), some (aI y), some (aI z), some (aI y52)] [] hh52 Q := by
            refine fw_up (fun c hc52 ih52 => ?_)
            intro y52  hh52 ey52 eh52
            subst ey52
            subst eh52
            show fwWP mX12_row (d + 2) 52 [some (aR 12 0), some (aI (u : Int)), some (aI y), some (aI z), some (aI (c : Int))] [] (fwUc (fwUp (fwUp h 46 0 u z) 47 0 u y) 48 0 (fun s => if 60 * u ≤ s ∧ s < 60 * u + c then 0 else h 48 0 s)) Q
            refine w_iload dX12_row_52 rfl ?_
            refine w_bipush dX12_row_54 rfl ?_
            refine w_icmp_ge 78 dX12_row_56 (by decide) (by omega) (by omega) (fun c56 => ?_) (fun c56 => ?_)
            · have ec52 : 60 = c := by omega
              subst ec52
              refine w_iconst dX12_row_78 ?_
              exact w_iretE dX12_row_79 rfl rfl (k.2.2 (by omega) (by omega))
            · refine w_aload_n dX12_row_59 rfl ?_
              refine w_getr 48 0 dX12_row_60 fl_X12_53 rfl (by decide) ?_
              refine w_bipush dX12_row_63 rfl ?_
              refine w_iload_n dX12_row_65 rfl ?_
              refine w_imul dX12_row_66 ?_
              refine w_iload dX12_row_67 rfl ?_
              refine w_iadd dX12_row_69 ?_
              refine w_lconst (z := 0) dX12_row_70 rfl ?_
              refine w_last dX12_row_71 rfl (by decide) (by omega) (by omega) ?_
              refine w_iinc [some (aR 12 0), some (aI (u : Int)), some (aI y), some (aI z), some (aI ((c : Int) + 1))] dX12_row_72 rfl rfl (by decide) ?_
              refine w_goto 52 dX12_row_75 (by decide) ?_
              refine ih52 (by omega) _ _ ?_ ?_
              · exact (by omega)
              · exact (by rw [fwUp_uc, show (60 * (u : Int) + (c : Int)).toNat = 60 * u + c by omega]; exact congrArg _ (rz_s (h 48 0) u c))
          refine lp52 0 (Nat.zero_le _) _ _ ?_ ?_
          · exact (by omega)
          · exact (by rw [← rz_0 (h 48 0) u]; exact (fwUc_self (fwUp (fwUp h 46 0 u z) 47 0 u y) 48 0).symm)
        · refine w_bipush dX12_row_32 rfl ?_
          exact w_iretE dX12_row_34 rfl rfl (k.2.1 (by omega) (by omega))
      · refine w_bipush dX12_row_25 rfl ?_
        exact w_iretE dX12_row_27 rfl rfl (k.1 (by omega))
def mdCut (v w : Int) : Int := fwLshr (fwLshl v (64 - fwShl 8 w)) (64 - fwShl 8 w)
set_option maxRecDepth 100000 in
set_option maxHeartbeats 4000000 in
theorem c_X12_cut {d : Nat} {h : fwH} {Q : Option fwV → fwH → Prop} (v x : Int)  (k : Q (some (aJ (mdCut v x))) h) : fwCt mX12_cut (d + 0) [aJ v, aI x] h Q := by
  refine fwCt_of [some (aJ v), none, some (aI x), none] rfl rfl rfl ?_
  refine w_bipush dX12_cut_0 rfl ?_
  refine w_bipush dX12_cut_2 rfl ?_
  refine w_iload_n dX12_cut_4 rfl ?_
  refine w_ishl dX12_cut_5 ?_
  refine w_isub dX12_cut_6 ?_
  refine w_istore_n [some (aJ v), none, some (aI x), some (aI (64 - (fwShl 8 x)))] dX12_cut_7 rfl (by decide) ?_
  refine w_lload_n dX12_cut_8 rfl ?_
  refine w_iload_n dX12_cut_9 rfl ?_
  refine w_lshl dX12_cut_10 ?_
  refine w_iload_n dX12_cut_11 rfl ?_
  refine w_lshr dX12_cut_12 ?_
  exact w_lret dX12_cut_13 rfl k
set_option maxRecDepth 100000 in
set_option maxHeartbeats 4000000 in
theorem c_X12_write {d : Nat} {h : fwH} {Q : Option fwV → fwH → Prop} (x y v : Int) (hx : -2147483648 ≤ x ∧ x < 2147483648) (hy : -2147483648 ≤ y ∧ y < 2147483648) (hmn : ∀ s : Nat, s < 4 → -1 ≤ h 46 0 s ∧ h 46 0 s ≤ 60) (k : (¬ (0 ≤ x ∧ x < 4) → Q (some (aI (-2))) h) ∧ ((0 ≤ x ∧ x < 4) → h 46 0 x.toNat = -1 → Q (some (aI (-6))) h) ∧ ((0 ≤ x ∧ x < 4) → h 46 0 x.toNat ≠ -1 → ¬ (0 ≤ y ∧ y < h 46 0 x.toNat) → Q (some (aI (-7))) h) ∧ ((0 ≤ x ∧ x < 4) → h 46 0 x.toNat ≠ -1 → (0 ≤ y ∧ y < h 46 0 x.toNat) → Q (some (aI 0)) (fwUp h 48 0 (60 * x.toNat + y.toNat) (mdCut v (h 47 0 x.toNat))))) : fwCt mX12_write (d + 2) [aR 12 0, aI x, aI y, aJ v] h Q := by
  refine fwCt_of [some (aR 12 0), some (aI x), some (aI y), some (aJ v), none] rfl rfl rfl ?_
  refine w_iload_n dX12_write_0 rfl ?_
  refine w_callS (d := d + 1) (S := []) [aI x] dX12_write_1 ml_X12_357 ok_X12_isSlot st_X12_isSlot rfl (Nat.le_of_ble_eq_true rfl) ?_
  refine c_X12_isSlot (d := d) x (by omega) ?_
  show fwWP mX12_write (d + 2) 4 [some (aR 12 0), some (aI x), some (aI y), some (aJ v), none] [aI (fwB (0 ≤ x ∧ x ≤ 3))] h Q
  refine w_ifB_ne 10 dX12_write_4 (by decide) (fun c4 => ?_) (fun c4 => ?_)
  · obtain ⟨u, rfl⟩ : ∃ u : Nat, x = (u : Int) := ⟨x.toNat, by omega⟩
    have hm := hmn u (by omega)
    refine w_aload_n dX12_write_10 rfl ?_
    refine w_getr 46 0 dX12_write_11 fl_X12_47 rfl (by decide) ?_
    refine w_iload_n dX12_write_14 rfl ?_
    refine w_ialdE (v := h 46 0 u) dX12_write_15 rfl (by decide) (by omega) (by omega) rfl ?_
    refine w_iconst dX12_write_16 ?_
    refine w_icmp_ne 23 dX12_write_17 (by decide) (by omega) (by omega) (fun c17 => ?_) (fun c17 => ?_)
    · refine w_iload_n dX12_write_23 rfl ?_
      refine w_i2l dX12_write_24 (by omega) ?_
      refine w_lconst (z := 0) dX12_write_25 rfl ?_
      refine w_aload_n dX12_write_26 rfl ?_
      refine w_getr 46 0 dX12_write_27 fl_X12_47 rfl (by decide) ?_
      refine w_iload_n dX12_write_30 rfl ?_
      refine w_ialdE (v := h 46 0 u) dX12_write_31 rfl (by decide) (by omega) (by omega) rfl ?_
      refine w_iconst dX12_write_32 ?_
      refine w_isub dX12_write_33 ?_
      refine w_i2l dX12_write_34 (by omega) ?_
      refine w_callS (d := d + 1) (S := []) [aJ y, aJ 0, aJ ((h 46 0 u) - 1)] dX12_write_35 ml_X12_65 ok_X12_in st_X12_in rfl (Nat.le_of_ble_eq_true rfl) ?_
      refine c_X12_in (d := (d + 1)) y 0 ((h 46 0 u) - 1) (by omega) (by omega) (by omega) ?_
      show fwWP mX12_write (d + 2) 38 [some (aR 12 0), some (aI (u : Int)), some (aI y), some (aJ v), none] [aI (fwB (0 ≤ y ∧ y ≤ ((h 46 0 u) - 1)))] h Q
      refine w_ifB_ne 44 dX12_write_38 (by decide) (fun c38 => ?_) (fun c38 => ?_)
      · refine w_aload_n dX12_write_44 rfl ?_
        refine w_getr 48 0 dX12_write_45 fl_X12_53 rfl (by decide) ?_
        refine w_bipush dX12_write_48 rfl ?_
        refine w_iload_n dX12_write_50 rfl ?_
        refine w_imul dX12_write_51 ?_
        refine w_iload_n dX12_write_52 rfl ?_
        refine w_iadd dX12_write_53 ?_
        refine w_lload_n dX12_write_54 rfl ?_
        refine w_aload_n dX12_write_55 rfl ?_
        refine w_getr 47 0 dX12_write_56 fl_X12_50 rfl (by decide) ?_
        refine w_iload_n dX12_write_59 rfl ?_
        refine w_ialdE (v := h 47 0 u) dX12_write_60 rfl (by decide) (by omega) (by omega) rfl ?_
        refine w_callS (d := d + 1) (S := [aI ((60 * (u : Int)) + y), aR 48 0]) [aJ v, aI (h 47 0 u)] dX12_write_61 ml_X12_407 ok_X12_cut st_X12_cut rfl (Nat.le_of_ble_eq_true rfl) ?_
        refine c_X12_cut (d := (d + 1)) v (h 47 0 u) ?_
        show fwWP mX12_write (d + 2) 64 [some (aR 12 0), some (aI (u : Int)), some (aI y), some (aJ v), none] [aJ (mdCut v (h 47 0 u)), aI ((60 * (u : Int)) + y), aR 48 0] h Q
        refine w_last dX12_write_64 rfl (by decide) (by omega) (by omega) ?_
        refine w_iconst dX12_write_65 ?_
        rw [show (60 * (u : Int) + y).toNat = 60 * u + y.toNat by omega]
        exact w_iretE dX12_write_66 rfl rfl (k.2.2.2 (by omega) (by show h 46 0 u ≠ -1; omega) (by show 0 ≤ y ∧ y < h 46 0 u; omega))
      · refine w_bipush dX12_write_41 rfl ?_
        exact w_iretE dX12_write_43 rfl rfl (k.2.2.1 (by omega) (by show h 46 0 u ≠ -1; omega) (by show ¬ (0 ≤ y ∧ y < h 46 0 u); omega))
    · refine w_bipush dX12_write_20 rfl ?_
      exact w_iretE dX12_write_22 rfl rfl (k.2.1 (by omega) (by show h 46 0 u = -1; omega))
  · refine w_bipush dX12_write_7 rfl ?_
    exact w_iretE dX12_write_9 rfl rfl (k.1 (by omega))
theorem mLaid_r (S : Nat → Int) : ∀ c : Nat, 0 ≤ mLaid S c ∧ mLaid S c ≤ c := by
  intro c
  induction c with
  | zero => simp [mLaid]
  | succ c ih => rw [mLaid]; split <;> omega
set_option maxRecDepth 100000 in
set_option maxHeartbeats 4000000 in
theorem c_X12_count {d : Nat} {h gg : fwH} {Q : Option fwV → fwH → Prop} (x : Int) (J : cOk gg) (R : jF gg h) (S : jS gg h) (T5 : h 12 0 5 = gg 1 0 1) (hx : -2147483648 ≤ x ∧ x < 2147483648) (k : Q (some (aI (an_count gg x))) h) : fwCt mX12_count (d + 1) [aR 12 0, aI x] h Q := by
  refine fwCt_of [some (aR 12 0), some (aI x), none, none] rfl rfl rfl ?_
  obtain ⟨hl, hP, hG, -, -, -, hlw, -, ha, hs, -, hsc⟩ := id J
  obtain ⟨⟨g1, g2⟩, ⟨g3, g4⟩, ⟨g5, g6⟩, g7, -⟩ := id hG
  have hpz := hP.1
  refine w_iconst dX12_count_0 ?_
  refine w_istore_n [some (aR 12 0), some (aI x), some (aI 0), none] dX12_count_1 rfl (by decide) ?_
  refine w_iload_n dX12_count_2 rfl ?_
  rcases (show x = 0 ∨ x = 1 ∨ x = 2 ∨ x = 3 ∨ x = 4 ∨ x = 5 ∨ x = 6 ∨ x = 7 ∨ x = 8 ∨ x = 9 ∨ (x < 0 ∨ 9 < x) by omega) with rfl | rfl | rfl | rfl | rfl | rfl | rfl | rfl | rfl | rfl | hc9
  · refine w_tabIn (off := 53) 56 dX12_count_3 (by omega) (by omega) (by omega) rfl (by decide) ?_
    refine w_aload_n dX12_count_56 rfl ?_
    refine w_getr 36 0 dX12_count_57 fl_X12_9 rfl (by decide) ?_
    refine w_iconst dX12_count_60 ?_
    refine w_ialdE (v := gg 4 0 1) dX12_count_61 rfl (by decide) (by omega) (by omega) R.1 ?_
    exact w_iretE dX12_count_62 rfl (by rfl) k
  · refine w_tabIn (off := 60) 63 dX12_count_3 (by omega) (by omega) (by omega) rfl (by decide) ?_
    refine w_aload_n dX12_count_63 rfl ?_
    refine w_getr 36 0 dX12_count_64 fl_X12_9 rfl (by decide) ?_
    refine w_bipush dX12_count_67 rfl ?_
    refine w_ialdE (v := gg 5 0 3) dX12_count_69 rfl (by decide) (by omega) (by omega) R.2.2.2.2.2.2.1 ?_
    exact w_iretE dX12_count_70 rfl (by rfl) k
  · refine w_tabIn (off := 68) 71 dX12_count_3 (by omega) (by omega) (by omega) rfl (by decide) ?_
    refine w_aload_n dX12_count_71 rfl ?_
    refine w_getr 36 0 dX12_count_72 fl_X12_9 rfl (by decide) ?_
    refine w_iconst dX12_count_75 ?_
    refine w_ialdE (v := gg 4 0 2) dX12_count_76 rfl (by decide) (by omega) (by omega) R.2.1 ?_
    exact w_iretE dX12_count_77 rfl (by rfl) k
  · refine w_tabIn (off := 75) 78 dX12_count_3 (by omega) (by omega) (by omega) rfl (by decide) ?_
    refine w_aload_n dX12_count_78 rfl ?_
    refine w_getr 36 0 dX12_count_79 fl_X12_9 rfl (by decide) ?_
    refine w_iconst dX12_count_82 ?_
    refine w_ialdE (v := gg 4 0 3) dX12_count_83 rfl (by decide) (by omega) (by omega) R.2.2.1 ?_
    exact w_iretE dX12_count_84 rfl (by rfl) k
  · refine w_tabIn (off := 82) 85 dX12_count_3 (by omega) (by omega) (by omega) rfl (by decide) ?_
    refine w_aload_n dX12_count_85 rfl ?_
    refine w_getr 36 0 dX12_count_86 fl_X12_9 rfl (by decide) ?_
    refine w_iconst dX12_count_89 ?_
    refine w_ialdE (v := gg 3 0 4) dX12_count_90 rfl (by decide) (by omega) (by omega) R.2.2.2.1 ?_
    exact w_iretE dX12_count_91 rfl (by rfl) k
  · refine w_tabIn (off := 89) 92 dX12_count_3 (by omega) (by omega) (by omega) rfl (by decide) ?_
    refine w_aload_n dX12_count_92 rfl ?_
    refine w_getr 36 0 dX12_count_93 fl_X12_9 rfl (by decide) ?_
    refine w_iconst dX12_count_96 ?_
    refine w_ialdE (v := gg 3 0 5) dX12_count_97 rfl (by decide) (by omega) (by omega) R.2.2.2.2.2.1 ?_
    exact w_iretE dX12_count_98 rfl (by rfl) k
  · refine w_tabIn (off := 96) 99 dX12_count_3 (by omega) (by omega) (by omega) rfl (by decide) ?_
    refine w_aload_n dX12_count_99 rfl ?_
    refine w_getr 36 0 dX12_count_100 fl_X12_9 rfl (by decide) ?_
    refine w_bipush dX12_count_103 rfl ?_
    refine w_ialdE (v := gg 3 0 6) dX12_count_105 rfl (by decide) (by omega) (by omega) R.2.2.2.2.2.2.2.1 ?_
    exact w_iretE dX12_count_106 rfl (by rfl) k
  · refine w_tabIn (off := 104) 107 dX12_count_3 (by omega) (by omega) (by omega) rfl (by decide) ?_
    refine w_aload_n dX12_count_107 rfl ?_
    refine w_getiE (v := gg 1 0 1) dX12_count_108 fl_X12_81 rfl (by decide) T5 ?_
    exact w_iretE dX12_count_111 rfl (by rfl) k
  · refine w_tabIn (off := 109) 112 dX12_count_3 (by omega) (by omega) (by omega) rfl (by decide) ?_
    refine w_aload_n dX12_count_112 rfl ?_
    refine w_getr 36 0 dX12_count_113 fl_X12_9 rfl (by decide) ?_
    refine w_bipush dX12_count_116 rfl ?_
    refine w_ialdE (v := gg 3 0 3) dX12_count_118 rfl (by decide) (by omega) (by omega) R.2.2.2.2.2.2.2.2.1 ?_
    exact w_iretE dX12_count_119 rfl (by rfl) k
  · refine w_tabIn (off := 117) 120 dX12_count_3 (by omega) (by omega) (by omega) rfl (by decide) ?_
    refine w_iconst dX12_count_120 ?_
    refine w_istore_n [some (aR 12 0), some (aI 9), some (aI 0), some (aI 0)] dX12_count_121 rfl (by decide) ?_
    have lp122 : ∀ c : Nat, c ≤ 4 → ∀ (y122 nv : Int), y122 = (c : Int) → nv = mLaid (gg 35 0) c → fwWP mX12_count (d + 1) 122 [some (aR 12 0), some (aI 9), some (aI nv), some (aI y122)] [] h Q := by
      refine fw_up (fun c hc122 ih122 => ?_)
      intro y122 nv ey122 e_nv
      subst ey122
      subst e_nv
      show fwWP mX12_count (d + 1) 122 [some (aR 12 0), some (aI 9), some (aI (mLaid (gg 35 0) c)), some (aI (c : Int))] [] h Q
      refine w_iload_n dX12_count_122 rfl ?_
      refine w_iconst dX12_count_123 ?_
      refine w_icmp_ge 151 dX12_count_124 (by decide) (by omega) (by omega) (fun c124 => ?_) (fun c124 => ?_)
      · have ec122 : 4 = c := by omega
        subst ec122
        refine w_iload_n dX12_count_151 rfl ?_
        exact w_iretE dX12_count_152 rfl (by rfl) k
      · have hlr := mLaid_r (gg 35 0) c
        have hsz := (hs c (by omega)).1
        refine w_iload_n dX12_count_127 rfl ?_
        refine w_aload_n dX12_count_128 rfl ?_
        refine w_getr 46 0 dX12_count_129 fl_X12_47 rfl (by decide) ?_
        refine w_iload_n dX12_count_132 rfl ?_
        refine w_ialdE (v := gg 35 0 c) dX12_count_133 rfl (by decide) (by omega) (by omega) (S c (by omega)).1 ?_
        refine w_iconst dX12_count_134 ?_
        refine w_icmp_ne 142 dX12_count_135 (by decide) (by omega) (by omega) (fun c135 => ?_) (fun c135 => ?_)
        · refine w_iconst dX12_count_142 ?_
          refine w_iadd dX12_count_143 ?_
          refine w_istore_n [some (aR 12 0), some (aI 9), some (aI ((mLaid (gg 35 0) c) + 1)), some (aI (c : Int))] dX12_count_144 rfl (by decide) ?_
          refine w_iinc [some (aR 12 0), some (aI 9), some (aI ((mLaid (gg 35 0) c) + 1)), some (aI ((c : Int) + 1))] dX12_count_145 rfl rfl (by decide) ?_
          refine w_goto 122 dX12_count_148 (by decide) ?_
          refine ih122 (by omega) _ _ ?_ ?_
          · exact (by omega)
          · exact (by rw [mLaid, if_pos (by omega)])
        · refine w_iconst dX12_count_138 ?_
          refine w_goto 143 dX12_count_139 (by decide) ?_
          refine w_iadd dX12_count_143 ?_
          refine w_istore_n [some (aR 12 0), some (aI 9), some (aI ((mLaid (gg 35 0) c) + 0)), some (aI (c : Int))] dX12_count_144 rfl (by decide) ?_
          refine w_iinc [some (aR 12 0), some (aI 9), some (aI ((mLaid (gg 35 0) c) + 0)), some (aI ((c : Int) + 1))] dX12_count_145 rfl rfl (by decide) ?_
          refine w_goto 122 dX12_count_148 (by decide) ?_
          refine ih122 (by omega) _ _ ?_ ?_
          · exact (by omega)
          · exact (by rw [mLaid, if_neg (by omega)]; omega)
    refine lp122 0 (Nat.zero_le _) _ _ ?_ ?_
    · exact (by omega)
    · exact rfl
  · refine w_tabOut 153 dX12_count_3 (by omega) (by omega) (by decide) ?_
    refine w_iconst dX12_count_153 ?_
    exact w_iretE dX12_count_154 rfl (by unfold an_count; rw [if_neg (by omega)]; rw [if_neg (by omega)]; rw [if_neg (by omega)]; rw [if_neg (by omega)]; rw [if_neg (by omega)]; rw [if_neg (by omega)]; rw [if_neg (by omega)]; rw [if_neg (by omega)]; rw [if_neg (by omega)]; rw [if_neg (by omega)]) k
end

set_option maxRecDepth 100000 in
set_option maxHeartbeats 4000000 in
theorem c_X12_votesFor {d : Nat} {h gg : fwH} {Q : Option fwV → fwH → Prop} (x y : Nat) (J : cOk gg) (R : jF gg h) (hH : hiR (gg 4 0 1) (h 42 0) (gg 17 0)) (hx : (x : Int) < gg 4 0 1) (hy : (y : Int) < gg 4 0 1) (hx2 : 0 < gg 17 0 x) (hy2 : 0 < gg 17 0 y) (k : ∀ A, hiR (gg 4 0 1) A (gg 17 0) → Q (some (aI (mVo gg x y))) (fwUc h 42 0 A)) : fwCt mX12_votesFor (d + 5) [aR 12 0, aI (x : Int), aI (y : Int)] h Q := by
  refine fwCt_of [some (aR 12 0), some (aI (x : Int)), some (aI (y : Int)), none, none, none] rfl rfl rfl ?_
  obtain ⟨hl, hP, hG, -, -, -, hlw, -, ha, hs, -, hsc⟩ := id J
  obtain ⟨⟨g1, g2⟩, ⟨g3, g4⟩, ⟨g5, g6⟩, g7, -⟩ := id hG
  have hpz := hP.1
  have hb17 : hB (gg 17 0) := fun c hc => by have := J.2.2.2.1 c hc; omega
  have hbx := J.2.2.2.1 x (by omega)
  have hby := J.2.2.2.1 y (by omega)
  refine w_iconst dX12_votesFor_0 ?_
  refine w_istore_n [some (aR 12 0), some (aI (x : Int)), some (aI (y : Int)), some (aI 0), none, none] dX12_votesFor_1 rfl (by decide) ?_
  refine w_iconst dX12_votesFor_2 ?_
  refine w_istore [some (aR 12 0), some (aI (x : Int)), some (aI (y : Int)), some (aI 0), some (aI 0), none] dX12_votesFor_3 rfl (by decide) ?_
  have lp5 : ∀ c : Nat, c ≤ (gg 5 0 3).toNat → ∀ (y5 se : Int) (A5 : Nat → Int), y5 = (c : Int) → se = mBits (mVoB gg x y) c → hiR (gg 4 0 1) A5 (gg 17 0) → fwWP mX12_votesFor (d + 5) 5 [some (aR 12 0), some (aI (x : Int)), some (aI (y : Int)), some (aI se), some (aI y5), none] [] (fwUc h 42 0 A5) Q := by
    refine fw_up (fun c hc5 ih5 => ?_)
    intro y5 se A5 ey5 e_se hA5
    subst ey5
    subst e_se
    show fwWP mX12_votesFor (d + 5) 5 [some (aR 12 0), some (aI (x : Int)), some (aI (y : Int)), some (aI (mBits (mVoB gg x y) c)), some (aI (c : Int)), none] [] (fwUc h 42 0 A5) Q
    refine w_iload dX12_votesFor_5 rfl ?_
    refine w_aload_n dX12_votesFor_7 rfl ?_
    refine w_getr 36 0 dX12_votesFor_8 fl_X12_9 rfl (by decide) ?_
    refine w_bipush dX12_votesFor_11 rfl ?_
    refine w_ialdE (v := gg 5 0 3) dX12_votesFor_13 rfl (by decide) (by omega) (by omega) R.2.2.2.2.2.2.1 ?_
    refine w_icmp_ge 93 dX12_votesFor_14 (by decide) (by omega) (by omega) (fun c14 => ?_) (fun c14 => ?_)
    · have ec5 : (gg 5 0 3).toNat = c := by omega
      subst ec5
      refine w_iload_n dX12_votesFor_93 rfl ?_
      exact w_iret dX12_votesFor_94 rfl (k _ hA5)
    · refine w_aload_n dX12_votesFor_17 rfl ?_
      refine w_getr 42 0 dX12_votesFor_18 fl_X12_34 rfl (by decide) ?_
      refine w_iload_n dX12_votesFor_21 rfl ?_
      refine w_dup2 dX12_votesFor_22 rfl rfl ?_
      refine w_ialdE (v := (gg 17 0) x) dX12_votesFor_23 rfl (by decide) (by omega) (by omega) (hA5 _ (by omega)) ?_
      refine w_iconst dX12_votesFor_24 ?_
      refine w_isub dX12_votesFor_25 ?_
      refine w_iast dX12_votesFor_26 rfl (by decide) (by omega) (by omega) ?_
      rw [show (fwUp (fwUc h 42 0 A5) 42 0 ((x : Int)).toNat (((gg 17 0) x) - 1)) = (fwUc h 42 0 (fwFu A5 x (((gg 17 0) x) - 1))) from by rw [fwUp_fu]; rw [fwUc_uc]; rfl]
      have hA26 := hiR_fu hA5 x (((gg 17 0) x) - 1)
      have hb26 : hB (fwFu (gg 17 0) x (((gg 17 0) x) - 1)) := hB_fu hb17 (by omega)
      refine w_aload_n dX12_votesFor_27 rfl ?_
      refine w_iload dX12_votesFor_28 rfl ?_
      refine w_callV (d := d + 4) (S := []) [aI (c : Int)] dX12_votesFor_30 ml_X12_232 ok_X12_gainOf vi_X12_gainOf rfl rfl (by decide) rfl (Nat.le_of_ble_eq_true rfl) ?_
      refine c_X12_gainOf (d := d) c (fwFu (gg 17 0) x (((gg 17 0) x) - 1)) J R hA26 hb26 (show 1 ≤ gg 4 0 1 by omega) (show (c : Int) < gg 5 0 3 by omega) ?_
      show fwWP mX12_votesFor (d + 5) 33 [some (aR 12 0), some (aI (x : Int)), some (aI (y : Int)), some (aI (mBits (mVoB gg x y) c)), some (aI (c : Int)), none] [aI (mGain (gg 4 0 1) (fwFu (gg 17 0) x (((gg 17 0) x) - 1)) (gg 4 0 2) (gg 18 0) c)] (fwUc h 42 0 (fwFu A5 x (((gg 17 0) x) - 1))) Q
      have hgr2 := mGain_r2 J hb26 c (by omega)
      refine w_istore [some (aR 12 0), some (aI (x : Int)), some (aI (y : Int)), some (aI (mBits (mVoB gg x y) c)), some (aI (c : Int)), some (aI (mGain (gg 4 0 1) (fwFu (gg 17 0) x (((gg 17 0) x) - 1)) (gg 4 0 2) (gg 18 0) c))] dX12_votesFor_33 rfl (by decide) ?_
      refine w_aload_n dX12_votesFor_35 rfl ?_
      refine w_getr 42 0 dX12_votesFor_36 fl_X12_34 rfl (by decide) ?_
      refine w_iload_n dX12_votesFor_39 rfl ?_
      refine w_dup2 dX12_votesFor_40 rfl rfl ?_
      refine w_ialdE (v := (fwFu (gg 17 0) x (((gg 17 0) x) - 1)) x) dX12_votesFor_41 rfl (by decide) (by omega) (by omega) (hA26 _ (by omega)) ?_
      refine w_iconst dX12_votesFor_42 ?_
      refine w_iadd dX12_votesFor_43 ?_
      refine w_iast dX12_votesFor_44 rfl (by decide) (by omega) (by omega) ?_
      rw [show (fwUp (fwUc h 42 0 (fwFu A5 x (((gg 17 0) x) - 1))) 42 0 ((x : Int)).toNat (((fwFu (gg 17 0) x (((gg 17 0) x) - 1)) x) + 1)) = (fwUc h 42 0 (fwFu (fwFu A5 x (((gg 17 0) x) - 1)) x (((fwFu (gg 17 0) x (((gg 17 0) x) - 1)) x) + 1))) from by rw [fwUp_fu]; rw [fwUc_uc]; rfl]
      have hA44 := hiR_fu hA26 x (((fwFu (gg 17 0) x (((gg 17 0) x) - 1)) x) + 1)
      rw [fwFu_mp] at hA44
      refine w_aload_n dX12_votesFor_45 rfl ?_
      refine w_getr 42 0 dX12_votesFor_46 fl_X12_34 rfl (by decide) ?_
      refine w_iload_n dX12_votesFor_49 rfl ?_
      refine w_dup2 dX12_votesFor_50 rfl rfl ?_
      refine w_ialdE (v := (gg 17 0) y) dX12_votesFor_51 rfl (by decide) (by omega) (by omega) (hA44 _ (by omega)) ?_
      refine w_iconst dX12_votesFor_52 ?_
      refine w_isub dX12_votesFor_53 ?_
      refine w_iast dX12_votesFor_54 rfl (by decide) (by omega) (by omega) ?_
      rw [show (fwUp (fwUc h 42 0 (fwFu (fwFu A5 x (((gg 17 0) x) - 1)) x (((fwFu (gg 17 0) x (((gg 17 0) x) - 1)) x) + 1))) 42 0 ((y : Int)).toNat (((gg 17 0) y) - 1)) = (fwUc h 42 0 (fwFu (fwFu (fwFu A5 x (((gg 17 0) x) - 1)) x (((fwFu (gg 17 0) x (((gg 17 0) x) - 1)) x) + 1)) y (((gg 17 0) y) - 1))) from by rw [fwUp_fu]; rw [fwUc_uc]; rfl]
      have hA54 := hiR_fu hA44 y (((gg 17 0) y) - 1)
      have hb54 : hB (fwFu (gg 17 0) y (((gg 17 0) y) - 1)) := hB_fu hb17 (by omega)
      refine w_iload_n dX12_votesFor_55 rfl ?_
      refine w_iload dX12_votesFor_56 rfl ?_
      refine w_aload_n dX12_votesFor_58 rfl ?_
      refine w_iload dX12_votesFor_59 rfl ?_
      refine w_callV (d := d + 4) (S := [aI (mGain (gg 4 0 1) (fwFu (gg 17 0) x (((gg 17 0) x) - 1)) (gg 4 0 2) (gg 18 0) c), aI (mBits (mVoB gg x y) c)]) [aI (c : Int)] dX12_votesFor_61 ml_X12_232 ok_X12_gainOf vi_X12_gainOf rfl rfl (by decide) rfl (Nat.le_of_ble_eq_true rfl) ?_
      refine c_X12_gainOf (d := d) c (fwFu (gg 17 0) y (((gg 17 0) y) - 1)) J R hA54 hb54 (show 1 ≤ gg 4 0 1 by omega) (show (c : Int) < gg 5 0 3 by omega) ?_
      show fwWP mX12_votesFor (d + 5) 64 [some (aR 12 0), some (aI (x : Int)), some (aI (y : Int)), some (aI (mBits (mVoB gg x y) c)), some (aI (c : Int)), some (aI (mGain (gg 4 0 1) (fwFu (gg 17 0) x (((gg 17 0) x) - 1)) (gg 4 0 2) (gg 18 0) c))] [aI (mGain (gg 4 0 1) (fwFu (gg 17 0) y (((gg 17 0) y) - 1)) (gg 4 0 2) (gg 18 0) c), aI (mGain (gg 4 0 1) (fwFu (gg 17 0) x (((gg 17 0) x) - 1)) (gg 4 0 2) (gg 18 0) c), aI (mBits (mVoB gg x y) c)] (fwUc h 42 0 (fwFu (fwFu (fwFu A5 x (((gg 17 0) x) - 1)) x (((fwFu (gg 17 0) x (((gg 17 0) x) - 1)) x) + 1)) y (((gg 17 0) y) - 1))) Q
      have hgr3 := mGain_r2 J hb54 c (by omega)
      refine w_icmp_le 74 dX12_votesFor_64 (by decide) (by omega) (by omega) (fun c64 => ?_) (fun c64 => ?_)
      · refine w_iconst dX12_votesFor_74 ?_
        refine w_ior dX12_votesFor_75 ?_
        refine w_istore_n [some (aR 12 0), some (aI (x : Int)), some (aI (y : Int)), some (aI (fwOr (mBits (mVoB gg x y) c) 0)), some (aI (c : Int)), some (aI (mGain (gg 4 0 1) (fwFu (gg 17 0) x (((gg 17 0) x) - 1)) (gg 4 0 2) (gg 18 0) c))] dX12_votesFor_76 rfl (by decide) ?_
        refine w_aload_n dX12_votesFor_77 rfl ?_
        refine w_getr 42 0 dX12_votesFor_78 fl_X12_34 rfl (by decide) ?_
        refine w_iload_n dX12_votesFor_81 rfl ?_
        refine w_dup2 dX12_votesFor_82 rfl rfl ?_
        refine w_ialdE (v := (fwFu (gg 17 0) y (((gg 17 0) y) - 1)) y) dX12_votesFor_83 rfl (by decide) (by omega) (by omega) (hA54 _ (by omega)) ?_
        refine w_iconst dX12_votesFor_84 ?_
        refine w_iadd dX12_votesFor_85 ?_
        refine w_iast dX12_votesFor_86 rfl (by decide) (by omega) (by omega) ?_
        rw [show (fwUp (fwUc h 42 0 (fwFu (fwFu (fwFu A5 x (((gg 17 0) x) - 1)) x (((fwFu (gg 17 0) x (((gg 17 0) x) - 1)) x) + 1)) y (((gg 17 0) y) - 1))) 42 0 ((y : Int)).toNat (((fwFu (gg 17 0) y (((gg 17 0) y) - 1)) y) + 1)) = (fwUc h 42 0 (fwFu (fwFu (fwFu (fwFu A5 x (((gg 17 0) x) - 1)) x (((fwFu (gg 17 0) x (((gg 17 0) x) - 1)) x) + 1)) y (((gg 17 0) y) - 1)) y (((fwFu (gg 17 0) y (((gg 17 0) y) - 1)) y) + 1))) from by rw [fwUp_fu]; rw [fwUc_uc]; rfl]
        have hA86 := hiR_fu hA54 y (((fwFu (gg 17 0) y (((gg 17 0) y) - 1)) y) + 1)
        rw [fwFu_mp] at hA86
        refine w_iinc [some (aR 12 0), some (aI (x : Int)), some (aI (y : Int)), some (aI (fwOr (mBits (mVoB gg x y) c) 0)), some (aI ((c : Int) + 1)), some (aI (mGain (gg 4 0 1) (fwFu (gg 17 0) x (((gg 17 0) x) - 1)) (gg 4 0 2) (gg 18 0) c))] dX12_votesFor_87 rfl rfl (by decide) ?_
        refine w_goto 5 dX12_votesFor_90 (by decide) ?_
        refine w_drop [5] [some (aR 12 0), some (aI (x : Int)), some (aI (y : Int)), some (aI (fwOr (mBits (mVoB gg x y) c) 0)), some (aI ((c : Int) + 1)), none] rfl ?_
        refine ih5 (by omega) _ _ _ ?_ ?_ ?_
        · exact (by omega)
        · exact (by rw [mBits, if_neg (by unfold mVoB mGn; rw [decide_eq_true_eq, ← Int.sub_eq_add_neg, ← Int.sub_eq_add_neg]; omega), fwOr_0 (mBits_rng _ _)])
        · exact hA86
      · refine w_iconst dX12_votesFor_67 ?_
        refine w_iload dX12_votesFor_68 rfl ?_
        refine w_ishl dX12_votesFor_70 ?_
        refine w_goto 75 dX12_votesFor_71 (by decide) ?_
        refine w_ior dX12_votesFor_75 ?_
        refine w_istore_n [some (aR 12 0), some (aI (x : Int)), some (aI (y : Int)), some (aI (fwOr (mBits (mVoB gg x y) c) (fwShl 1 (c : Int)))), some (aI (c : Int)), some (aI (mGain (gg 4 0 1) (fwFu (gg 17 0) x (((gg 17 0) x) - 1)) (gg 4 0 2) (gg 18 0) c))] dX12_votesFor_76 rfl (by decide) ?_
        refine w_aload_n dX12_votesFor_77 rfl ?_
        refine w_getr 42 0 dX12_votesFor_78 fl_X12_34 rfl (by decide) ?_
        refine w_iload_n dX12_votesFor_81 rfl ?_
        refine w_dup2 dX12_votesFor_82 rfl rfl ?_
        refine w_ialdE (v := (fwFu (gg 17 0) y (((gg 17 0) y) - 1)) y) dX12_votesFor_83 rfl (by decide) (by omega) (by omega) (hA54 _ (by omega)) ?_
        refine w_iconst dX12_votesFor_84 ?_
        refine w_iadd dX12_votesFor_85 ?_
        refine w_iast dX12_votesFor_86 rfl (by decide) (by omega) (by omega) ?_
        rw [show (fwUp (fwUc h 42 0 (fwFu (fwFu (fwFu A5 x (((gg 17 0) x) - 1)) x (((fwFu (gg 17 0) x (((gg 17 0) x) - 1)) x) + 1)) y (((gg 17 0) y) - 1))) 42 0 ((y : Int)).toNat (((fwFu (gg 17 0) y (((gg 17 0) y) - 1)) y) + 1)) = (fwUc h 42 0 (fwFu (fwFu (fwFu (fwFu A5 x (((gg 17 0) x) - 1)) x (((fwFu (gg 17 0) x (((gg 17 0) x) - 1)) x) + 1)) y (((gg 17 0) y) - 1)) y (((fwFu (gg 17 0) y (((gg 17 0) y) - 1)) y) + 1))) from by rw [fwUp_fu]; rw [fwUc_uc]; rfl]
        have hA86 := hiR_fu hA54 y (((fwFu (gg 17 0) y (((gg 17 0) y) - 1)) y) + 1)
        rw [fwFu_mp] at hA86
        refine w_iinc [some (aR 12 0), some (aI (x : Int)), some (aI (y : Int)), some (aI (fwOr (mBits (mVoB gg x y) c) (fwShl 1 (c : Int)))), some (aI ((c : Int) + 1)), some (aI (mGain (gg 4 0 1) (fwFu (gg 17 0) x (((gg 17 0) x) - 1)) (gg 4 0 2) (gg 18 0) c))] dX12_votesFor_87 rfl rfl (by decide) ?_
        refine w_goto 5 dX12_votesFor_90 (by decide) ?_
        refine w_drop [5] [some (aR 12 0), some (aI (x : Int)), some (aI (y : Int)), some (aI (fwOr (mBits (mVoB gg x y) c) (fwShl 1 (c : Int)))), some (aI ((c : Int) + 1)), none] rfl ?_
        refine ih5 (by omega) _ _ _ ?_ ?_ ?_
        · exact (by omega)
        · exact (by rw [mBits, if_pos (show mVoB gg x y c = true from decide_eq_true (by unfold mGn; rw [← Int.sub_eq_add_neg, ← Int.sub_eq_add_neg]; omega))])
        · exact hA86
  have z5 := lp5 0 (Nat.zero_le _) _ _ (h 42 0) (by exact (show 0 = ((0 : Nat) : Int) by omega)) (by exact (show 0 = mBits (mVoB gg x y) 0 from rfl)) hH
  rw [fwUc_self] at z5
  exact z5
set_option maxRecDepth 100000 in
set_option maxHeartbeats 4000000 in
theorem c_X12_votes {d : Nat} {h gg : fwH} {Q : Option fwV → fwH → Prop} (x : Int) (y : Int) (J : cOk gg) (R : jF gg h) (K : jA gg h) (hsh : sc h) (hx : -2147483648 ≤ x ∧ x < 2147483648) (hy : -2147483648 ≤ y ∧ y < 2147483648) (k : ∀ g, scr h g → Q (some (aI (an_votes gg x y))) g) : fwCt mX12_votes (d + 6) [aR 12 0, aI x, aI y] h Q := by
  refine fwCt_of [some (aR 12 0), some (aI x), some (aI y)] rfl rfl rfl ?_
  obtain ⟨hl, hP, hG, hM0, htd, hut, hlw, hhc, ha, hs, hT, hsc⟩ := id J
  have hb17 : hB (gg 17 0) := fun c hc => by have := hM0 c hc; omega
  obtain ⟨⟨g1, g2⟩, ⟨g3, g4⟩, ⟨g5, g6⟩, g7, -⟩ := id hG
  have h17_99 : ∀ c : Nat, (c : Int) < gg 4 0 1 → gg 17 0 c ≤ 99 := fun c hc => (hM0 c (by omega)).2
  have hpz := hP.1
  have hrs1 := R.2.2.2.2.2.2.2.2.2.2.2
  refine w_aload_n dX12_votes_0 rfl ?_
  refine w_iload_n dX12_votes_1 rfl ?_
  refine w_i2l dX12_votes_2 (by omega) ?_
  refine w_callV (d := d + 5) (S := []) [aJ x] dX12_votes_3 ml_X12_203 ok_X12_isCell vi_X12_isCell rfl rfl (by decide) rfl (Nat.le_of_ble_eq_true rfl) ?_
  refine c_X12_isCell (d := (d + 4)) x J R (by omega) ?_
  show fwWP mX12_votes (d + 6) 6 [some (aR 12 0), some (aI x), some (aI y)] [aI (fwB (0 ≤ x ∧ x ≤ gg 4 0 1 - 1))] h Q
  refine w_ifB_eq 18 dX12_votes_6 (by decide) (fun c6 => ?_) (fun c6 => ?_)
  · refine w_bipush dX12_votes_18 rfl ?_
    exact w_iretE dX12_votes_20 rfl (by unfold an_votes; rw [if_pos (by by_cases q0 : 0 ≤ x ∧ x < gg 4 0 1; (right; unfold hOf; rw [if_neg (by omega)]); (left; unfold hOf; rw [if_neg q0]))]) (k _ (scr_rf hsh))
  · refine w_aload_n dX12_votes_9 rfl ?_
    refine w_iload_n dX12_votes_10 rfl ?_
    refine w_i2l dX12_votes_11 (by omega) ?_
    refine w_callV (d := d + 5) (S := []) [aJ y] dX12_votes_12 ml_X12_203 ok_X12_isCell vi_X12_isCell rfl rfl (by decide) rfl (Nat.le_of_ble_eq_true rfl) ?_
    refine c_X12_isCell (d := (d + 4)) y J R (by omega) ?_
    show fwWP mX12_votes (d + 6) 15 [some (aR 12 0), some (aI x), some (aI y)] [aI (fwB (0 ≤ y ∧ y ≤ gg 4 0 1 - 1))] h Q
    refine w_ifB_ne 21 dX12_votes_15 (by decide) (fun c15 => ?_) (fun c15 => ?_)
    · obtain ⟨f, rfl⟩ : ∃ f : Nat, x = (f : Int) := ⟨x.toNat, by omega⟩
      obtain ⟨u, rfl⟩ : ∃ u : Nat, y = (u : Int) := ⟨y.toNat, by omega⟩
      have hbf := hM0 f (by omega)
      have hbu := hM0 u (by omega)
      have ho1 : hOf (gg 4 0 1) (gg 17 0) (f : Int) = gg 17 0 f := hOf_p (by omega)
      have ho2 : hOf (gg 4 0 1) (gg 17 0) (u : Int) = gg 17 0 u := hOf_p (by omega)
      refine w_aload_n dX12_votes_21 rfl ?_
      refine w_callV (d := d + 5) (S := []) [] dX12_votes_22 ml_X12_240 ok_X12_asItIs vi_X12_asItIs rfl rfl (by decide) rfl (Nat.le_of_ble_eq_true rfl) ?_
      refine c_X12_asItIs (d := d) J R K (show 1 ≤ gg 4 0 1 by omega) (show 1 ≤ gg 4 0 3 by omega) ?_
      intro A22_3 hA22_3
      show fwWP mX12_votes (d + 6) 25 [some (aR 12 0), some (aI (f : Int)), some (aI (u : Int))] [] (fwUc h 42 0 A22_3) Q
      refine w_aload_n dX12_votes_25 rfl ?_
      refine w_getr 42 0 dX12_votes_26 fl_X12_34 rfl (by decide) ?_
      refine w_iload_n dX12_votes_29 rfl ?_
      refine w_ialdE (v := (gg 17 0) f) dX12_votes_30 rfl (by decide) (by omega) (by omega) (hA22_3 _ (by omega)) ?_
      refine w_if_eq 43 dX12_votes_31 (by decide) (by omega) (fun c31 => ?_) (fun c31 => ?_)
      · refine w_bipush dX12_votes_43 rfl ?_
        refine w_goto 54 dX12_votes_45 (by decide) ?_
        exact w_iretE dX12_votes_54 rfl (by unfold an_votes; first | (rw [if_pos (by omega)]; done) | (rw [if_neg (by omega)]; rfl)) (k _ (scr_uc (scr_rf hsh) rfl (by decide) (by decide) (by decide)))
      · refine w_aload_n dX12_votes_34 rfl ?_
        refine w_getr 42 0 dX12_votes_35 fl_X12_34 rfl (by decide) ?_
        refine w_iload_n dX12_votes_38 rfl ?_
        refine w_ialdE (v := (gg 17 0) u) dX12_votes_39 rfl (by decide) (by omega) (by omega) (hA22_3 _ (by omega)) ?_
        refine w_if_ne 48 dX12_votes_40 (by decide) (by omega) (fun c40 => ?_) (fun c40 => ?_)
        · refine w_aload_n dX12_votes_48 rfl ?_
          refine w_iload_n dX12_votes_49 rfl ?_
          refine w_iload_n dX12_votes_50 rfl ?_
          refine w_callV (d := d + 5) (S := []) [aI (f : Int), aI (u : Int)] dX12_votes_51 ml_X12_332 ok_X12_votesFor vi_X12_votesFor rfl rfl (by decide) rfl (Nat.le_of_ble_eq_true rfl) ?_
          refine c_X12_votesFor (d := d) f u J R hA22_3 (show (f : Int) < gg 4 0 1 by omega) (show (u : Int) < gg 4 0 1 by omega) (show 0 < gg 17 0 f by omega) (show 0 < gg 17 0 u by omega) ?_
          intro A51_6 hA51_6
          show fwWP mX12_votes (d + 6) 54 [some (aR 12 0), some (aI (f : Int)), some (aI (u : Int))] [aI (mVo gg f u)] (fwUc (fwUc h 42 0 A22_3) 42 0 A51_6) Q
          rw [show (fwUc (fwUc h 42 0 A22_3) 42 0 A51_6) = (fwUc h 42 0 A51_6) from by funext a b; simp only [fwUc]; (repeat' split); all_goals first | rfl | (exfalso; omega)]
          exact w_iretE dX12_votes_54 rfl (by unfold an_votes; first | (rw [if_pos (by omega)]; done) | (rw [if_neg (by omega)]; rfl)) (k _ (scr_uc (scr_rf hsh) rfl (by decide) (by decide) (by decide)))
        · refine w_bipush dX12_votes_43 rfl ?_
          refine w_goto 54 dX12_votes_45 (by decide) ?_
          exact w_iretE dX12_votes_54 rfl (by unfold an_votes; first | (rw [if_pos (by omega)]; done) | (rw [if_neg (by omega)]; rfl)) (k _ (scr_uc (scr_rf hsh) rfl (by decide) (by decide) (by decide)))
    · refine w_bipush dX12_votes_18 rfl ?_
      exact w_iretE dX12_votes_20 rfl (by unfold an_votes; rw [if_pos (by by_cases q0 : 0 ≤ x ∧ x < gg 4 0 1; (right; unfold hOf; rw [if_neg (by omega)]); (left; unfold hOf; rw [if_neg q0]))]) (k _ (scr_rf hsh))

theorem raE (X : fwH) : fwE (advH (fwUp (fwUp (fwUp (fwUp (fwUp (fwUp (fwUp (fwUc (fwUp (fwUc X 4 1 (fun _ => 0)) 5 1 3 0) 18 1 (fun _ => 0)) 3 1 3 0) 3 1 4 0) 3 1 5 0) 3 1 6 0) 2 0 6 0) 2 0 7 (-1)) 2 0 2 0) 0) (rH X 0 0 (-1) (fun _ => 0) (X 17 1)) := by
  intro a b s hb hs hr
  by_cases e2 : a = 2 ∧ b = 0
  · obtain ⟨rfl, rfl⟩ := e2
    rcases (show s = 0 ∨ s = 1 ∨ s = 2 ∨ s = 3 ∨ s = 4 ∨ s = 5 ∨ s = 6 ∨ s = 7 by have : s < 8 := hs; omega) with rfl | rfl | rfl | rfl | rfl | rfl | rfl | rfl
    · cases hr
    · cases hr
    all_goals rfl
  · by_cases e3 : a = 3 ∧ b = 1
    · obtain ⟨rfl, rfl⟩ := e3
      rcases (show s = 0 ∨ s = 1 ∨ s = 2 ∨ s = 3 ∨ s = 4 ∨ s = 5 ∨ s = 6 by have : s < 7 := hs; omega) with rfl | rfl | rfl | rfl | rfl | rfl | rfl
      · cases hr
      · cases hr
      · cases hr
      all_goals rfl
    · by_cases e4 : a = 4 ∧ b = 1
      · obtain ⟨rfl, rfl⟩ := e4
        rcases (show s = 0 ∨ s = 1 ∨ s = 2 ∨ s = 3 ∨ s = 4 by have : s < 5 := hs; omega) with rfl | rfl | rfl | rfl | rfl
        · cases hr
        all_goals rfl
      · by_cases e5 : a = 5 ∧ b = 1
        · obtain ⟨rfl, rfl⟩ := e5
          rcases (show s = 0 ∨ s = 1 ∨ s = 2 ∨ s = 3 by have : s < 4 := hs; omega) with rfl | rfl | rfl | rfl
          · cases hr
          · cases hr
          · cases hr
          all_goals rfl
        · by_cases e7 : a = 17 ∧ b = 1
          · obtain ⟨rfl, rfl⟩ := e7
            rfl
          · by_cases e8 : a = 18 ∧ b = 1
            · obtain ⟨rfl, rfl⟩ := e8
              rfl
            · have u : ∀ (h : fwH) (k i j : Nat) (x : Int), ¬ (a = k ∧ b = i) → fwUp h k i j x a b s = h a b s := fun h k i j x q => by
                unfold fwUp
                rw [if_neg (fun z => q ⟨z.1, z.2.1⟩)]
              unfold advH
              rw [u _ 2 0 _ _ e2, u _ 2 0 _ _ e2, u _ 2 0 _ _ e2, u _ 2 0 _ _ e2, u _ 2 0 _ _ e2, u _ 2 0 _ _ e2, u _ 2 0 _ _ e2, u _ 3 1 _ _ e3, u _ 3 1 _ _ e3, u _ 3 1 _ _ e3, u _ 3 1 _ _ e3]
              unfold rH
              rw [fwUc_ne e8, u _ 5 1 _ _ e5, fwUc_ne e4, fwUc_ne e8, fwUc_ne e7, fwUc_ne e5, fwUc_ne e4, fwUc_ne e3, fwUc_ne e2]
set_option maxRecDepth 100000 in
set_option maxHeartbeats 4000000 in
theorem c_X5_readAll {d : Nat} {h : fwH} {Q : Option fwV → fwH → Prop} (T : Nat) (hT0 : tOk h) (hT : tk (cutH h) T) (h17 : rHg (h 17 1)) (k : rK (cutH h) T Q (qRun (cutH h 14 0) (cutH h 16 0) 900)) : fwCt mX5_readAll (d + 7) [aR 2 0] h Q := by
  refine fwCt_of [some (aR 2 0), none] rfl rfl rfl ?_
  obtain ⟨t1, t2, t3, t4⟩ := id hT
  refine w_aload_n dX5_readAll_0 rfl ?_
  refine w_getr 1 0 dX5_readAll_1 fl_X5_22 rfl (by decide) ?_
  refine w_callV (d := d + 6) (S := []) [] dX5_readAll_4 ml_X5_26 ok_X9_cutTokens vi_X9_cutTokens rfl rfl (by decide) rfl (Nat.le_of_ble_eq_true rfl) ?_
  refine c_X9_cutTokens (d := d) hT0 ?_
  show fwWP mX5_readAll (d + 7) 7 [some (aR 2 0), none] [] (cutH h) Q
  refine w_aload_n dX5_readAll_7 rfl ?_
  refine w_getr 3 1 dX5_readAll_8 fl_X5_12 rfl (by decide) ?_
  refine w_callV (d := d + 6) (S := []) [] dX5_readAll_11 ml_X5_31 ok_X2_clear vi_X2_clear rfl rfl (by decide) rfl (Nat.le_of_ble_eq_true rfl) ?_
  refine c_X2_clear (d := (d + 5)) ?_
  show fwWP mX5_readAll (d + 7) 14 [some (aR 2 0), none] [] (fwUp (fwUp (fwUp (fwUp (fwUc (fwUp (fwUc (cutH h) 4 1 (fun _ => 0)) 5 1 3 0) 18 1 (fun _ => 0)) 3 1 3 0) 3 1 4 0) 3 1 5 0) 3 1 6 0) Q
  refine w_aload_n dX5_readAll_14 rfl ?_
  refine w_iconst dX5_readAll_15 ?_
  refine w_puti dX5_readAll_16 fl_X5_34 fp_2_6 rfl (by decide) ?_
  refine w_aload_n dX5_readAll_19 rfl ?_
  refine w_iconst dX5_readAll_20 ?_
  refine w_puti dX5_readAll_21 fl_X5_18 fp_2_7 rfl (by decide) ?_
  refine w_aload_n dX5_readAll_24 rfl ?_
  refine w_iconst dX5_readAll_25 ?_
  refine w_puti dX5_readAll_26 fl_X5_37 fp_2_2 rfl (by decide) ?_
  refine w_aload_n dX5_readAll_29 rfl ?_
  refine w_callV (d := d + 6) (S := []) [] dX5_readAll_30 ml_X5_40 ok_X5_advance vi_X5_advance rfl rfl (by decide) rfl (Nat.le_of_ble_eq_true rfl) ?_
  refine c_X5_advance (d := (d + 6)) 0 rfl (by show (0 : Int) < cutH h 1 0 5; omega) (by show cutH h 1 0 5 ≤ 901; omega) ?_
  show fwWP mX5_readAll (d + 7) 33 [some (aR 2 0), none] [] (advH (fwUp (fwUp (fwUp (fwUp (fwUp (fwUp (fwUp (fwUc (fwUp (fwUc (cutH h) 4 1 (fun _ => 0)) 5 1 3 0) 18 1 (fun _ => 0)) 3 1 3 0) 3 1 4 0) 3 1 5 0) 3 1 6 0) 2 0 6 0) 2 0 7 (-1)) 2 0 2 0) 0) Q
  refine w_heq (rH (cutH h) 0 0 (-1) (fun _ => 0) (cutH h 17 1)) (raE (cutH h)) ?_
  refine w_iconst dX5_readAll_33 ?_
  refine w_istore_n [some (aR 2 0), some (aI 0)] dX5_readAll_34 rfl (by decide) ?_
  have lp35 : ∀ c : Nat, c ≤ 900 → ∀ (y : Int) (i9 : Nat) (W9 H9 : Nat → Int), y = (c : Int) → i9 ≤ T → rHr W9 H9 → qRun (cutH h 14 0) (cutH h 16 0) c = .inr (i9, W9) → wL W9 → W9 7 = (c : Int) → fwWP mX5_readAll (d + 7) 35 [some (aR 2 0), some (aI y)] [] (rH (cutH h) i9 0 (-1) W9 H9) Q := by
    refine fw_up (fun c hc35 ih35 => ?_)
    intro y i9 W9 H9 ey hi9 hH9 iv1 iv2 iv3
    subst ey
    have hrg := wL_rng iv2
    have hkr := (t4 i9 hi9).1
    show fwWP mX5_readAll (d + 7) 35 [some (aR 2 0), some (aI (c : Int))] [] (rH (cutH h) i9 0 (-1) W9 H9) Q
    refine w_iload_n dX5_readAll_35 rfl ?_
    refine w_sipush dX5_readAll_36 rfl ?_
    refine w_icmp_ge 77 dX5_readAll_39 (by decide) (by omega) (by omega) (fun c39 => ?_) (fun c39 => ?_)
    · refine w_iconst dX5_readAll_77 ?_
      by_cases e900 : c = 900
      · subst e900
        exact w_zret dX5_readAll_78 rfl (Or.inr rfl) (k.2 _ _ _ iv1 hi9 hH9)
      · have hs9 := qRun_stay iv1 (by first | exact c46 | omega) (900 - c)
        rw [show c + (900 - c) = 900 by omega] at hs9
        exact w_zret dX5_readAll_78 rfl (Or.inr rfl) (k.2 _ _ _ hs9 hi9 hH9)
    · refine w_aload_n dX5_readAll_42 rfl ?_
      refine w_getiE (v := (cutH h) 14 0 i9) dX5_readAll_43 fl_X5_43 rfl (by decide) rfl ?_
      refine w_if_eq 77 dX5_readAll_46 (by decide) (by omega) (fun c46 => ?_) (fun c46 => ?_)
      · refine w_iconst dX5_readAll_77 ?_
        by_cases e900 : c = 900
        · subst e900
          exact w_zret dX5_readAll_78 rfl (Or.inr rfl) (k.2 _ _ _ iv1 hi9 hH9)
        · have hs9 := qRun_stay iv1 (by first | exact c46 | omega) (900 - c)
          rw [show c + (900 - c) = 900 by omega] at hs9
          exact w_zret dX5_readAll_78 rfl (Or.inr rfl) (k.2 _ _ _ hs9 hi9 hH9)
      · refine w_aload_n dX5_readAll_49 rfl ?_
        refine w_callV (d := d + 6) (S := []) [] dX5_readAll_50 ml_X5_46 ok_X5_readLine vi_X5_readLine rfl rfl (by decide) rfl (Nat.le_of_ble_eq_true rfl) ?_
        refine c_X5_readLine (d := (d + 1)) i9 T W9 H9 hT hi9 hrg.1 hrg.2.1 (by omega) hrg.2.2 hH9 ⟨fun fk33 j33 i33 W33 H33 e33 hj33 hg33 => ?_, fun i33 W33 H33 e33 hi33 hH33 => ?_⟩
        · show fwWP mX5_readAll (d + 7) 53 [some (aR 2 0), some (aI (c : Int))] [aI 0] (rH (cutH h) i33 fk33 ((cutH h) 15 0 j33) W33 H33) Q
          refine w_if_ne 58 dX5_readAll_53 (by decide) (by omega) (fun c53 => ?_) (fun c53 => ?_)
          · (exfalso; omega)
          · refine w_iconst dX5_readAll_56 ?_
            have hf9 : qRun (cutH h 14 0) (cutH h 16 0) (c + 1) = .inl (fk33, j33) := by rw [qRun_next iv1 c46, e33]; rfl
            have hf8 := qRun_flt hf9 (899 - c)
            rw [show c + 1 + (899 - c) = 900 by omega] at hf8
            exact w_zret dX5_readAll_57 rfl (Or.inl rfl) (k.1 _ _ _ _ _ hf8 hj33 hg33)
        · show fwWP mX5_readAll (d + 7) 53 [some (aR 2 0), some (aI (c : Int))] [aI 1] (rH (cutH h) i33 0 (-1) W33 H33) Q
          refine w_if_ne 58 dX5_readAll_53 (by decide) (by omega) (fun c53 => ?_) (fun c53 => ?_)
          · refine w_aload_n dX5_readAll_58 rfl ?_
            refine w_getr 3 1 dX5_readAll_59 fl_X5_12 rfl (by decide) ?_
            refine w_dup dX5_readAll_62 rfl ?_
            refine w_getiE (v := W33 7) dX5_readAll_63 fl_X5_50 rfl (by decide) rfl ?_
            refine w_iconst dX5_readAll_66 ?_
            refine w_iadd dX5_readAll_67 ?_
            refine w_puti dX5_readAll_68 fl_X5_50 fp_3_6 rfl (by decide) ?_
            rw [show (fwUp (rH (cutH h) i33 0 (-1) W33 H33) 3 1 6 ((W33 7) + 1)) = (rH (cutH h) i33 0 (-1) (fwFu W33 7 ((W33 7) + 1)) H33) from rH_lines _ _ _ _ _ _ _]
            refine w_iinc [some (aR 2 0), some (aI ((c : Int) + 1))] dX5_readAll_71 rfl rfl (by decide) ?_
            refine w_goto 35 dX5_readAll_74 (by decide) ?_
            have hnx := qRun_wL iv2 e33
            exact ih35 (by omega) _ _ _ _ (by omega) (by omega) (rHr_fu hH33 (by omega) (by omega)) (by rw [qRun_next iv1 c46, e33]; rfl) hnx.2.1 (by rw [fwFu_at, hnx.2.2, iv3]; omega)
          · (exfalso; omega)
  exact lp35 0 (Nat.zero_le _) _ _ _ _ rfl (Nat.zero_le _) ⟨h17, fun c hc => absurd hc (by show ¬ (c : Int) < 0; omega)⟩ rfl wL_init rfl

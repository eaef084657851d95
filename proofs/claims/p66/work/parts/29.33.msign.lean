theorem hB_fu {H : Nat → Int} (hb : hB H) {t : Nat} {x : Int} (hx : 0 ≤ x ∧ x ≤ 1000) : hB (fwFu H t x) := by
  intro c hc
  unfold fwFu
  split
  · exact hx
  · exact hb c hc
theorem fwFu_mp (H : Nat → Int) (t : Nat) : fwFu (fwFu H t (H t - 1)) t (fwFu H t (H t - 1) t + 1) = H := by
  funext s
  unfold fwFu
  split
  · rename_i e; subst e; rw [if_pos rfl]; omega
  · rfl
theorem fwFu_pm (H : Nat → Int) (t : Nat) : fwFu (fwFu H t (H t + 1)) t (fwFu H t (H t + 1) t - 1) = H := by
  funext s
  unfold fwFu
  split
  · rename_i e; subst e; rw [if_pos rfl]; omega
  · rfl
theorem mLw_hb {h : fwH} (J : cOk h) (k : Nat) : hB (mLw h k) := mLowN_rng (by have := J.2.2.1.1; omega) (fun c hc => by have := J.2.2.2.1 c hc; omega) k
theorem mLw_99 {h : fwH} (J : cOk h) (k : Nat) : ∀ c : Nat, c < 10 → 0 ≤ mLw h k c ∧ mLw h k c ≤ 99 := mLowN_rng (by have := J.2.2.1.1; omega) J.2.2.2.1 k
set_option maxRecDepth 100000 in
set_option maxHeartbeats 4000000 in
theorem c_X12_dark {d : Nat} {h gg : fwH} {Q : Option fwV → fwH → Prop} (x : Int) (J : cOk gg) (R : jF gg h) (K : jA gg h) (hsh : sc h) (hx : -2147483648 ≤ x ∧ x < 2147483648) (k : ∀ g, scr h g → Q (some (aI (an_dark gg x))) g) : fwCt mX12_dark (d + 6) [aR 12 0, aI x] h Q := by
  refine fwCt_of [some (aR 12 0), some (aI x), none, none] rfl rfl rfl ?_
  obtain ⟨hl, hP, hG, hM0, htd, hut, hlw, hhc, ha, hs, hT, hsc⟩ := id J
  have hb17 : hB (gg 17 0) := fun c hc => by have := hM0 c hc; omega
  obtain ⟨⟨g1, g2⟩, ⟨g3, g4⟩, ⟨g5, g6⟩, g7, -⟩ := id hG
  have h17_99 : ∀ c : Nat, (c : Int) < gg 4 0 1 → gg 17 0 c ≤ 99 := fun c hc => (hM0 c (by omega)).2
  have hpz := hP.1
  have hrs1 := R.2.2.2.2.2.2.2.2.2.2.2
  refine w_aload_n dX12_dark_0 rfl ?_
  refine w_callV (d := d + 5) (S := []) [] dX12_dark_1 ml_X12_73 ok_X12_isMount vi_X12_isMount rfl rfl (by decide) rfl (Nat.le_of_ble_eq_true rfl) ?_
  refine c_X12_isMount (d := (d + 5)) J R ?_
  show fwWP mX12_dark (d + 6) 4 [some (aR 12 0), some (aI x), none, none] [aI (fwB (0 < gg 3 0 6))] h Q
  refine w_ifB_eq 15 dX12_dark_4 (by decide) (fun c4 => ?_) (fun c4 => ?_)
  · refine w_bipush dX12_dark_15 rfl ?_
    exact w_iretE dX12_dark_17 rfl (by unfold an_dark; first | (rw [if_pos (by omega)]; done) | (rw [if_neg (by omega)]; done) | (rw [if_pos (by omega)]; rfl) | (rw [if_neg (by omega)]; rfl)) (k _ (scr_rf hsh))
  · refine w_iload_n dX12_dark_7 rfl ?_
    refine w_i2l dX12_dark_8 (by omega) ?_
    refine w_callS (d := d + 5) (S := []) [aJ x] dX12_dark_9 ml_X12_243 ok_X12_isHour st_X12_isHour rfl (Nat.le_of_ble_eq_true rfl) ?_
    refine c_X12_isHour (d := (d + 4)) x (by omega) ?_
    show fwWP mX12_dark (d + 6) 12 [some (aR 12 0), some (aI x), none, none] [aI (fwB (x ≠ 0 ∧ -9 ≤ x ∧ x ≤ 9))] h Q
    refine w_ifB_ne 18 dX12_dark_12 (by decide) (fun c12 => ?_) (fun c12 => ?_)
    · refine w_aload_n dX12_dark_18 rfl ?_
      refine w_callV (d := d + 5) (S := []) [] dX12_dark_19 ml_X12_240 ok_X12_asItIs vi_X12_asItIs rfl rfl (by decide) rfl (Nat.le_of_ble_eq_true rfl) ?_
      refine c_X12_asItIs (d := d) J R K (show 1 ≤ gg 4 0 1 by omega) (show 1 ≤ gg 4 0 3 by omega) ?_
      intro A19_3 hA19_3
      show fwWP mX12_dark (d + 6) 22 [some (aR 12 0), some (aI x), none, none] [] (fwUc h 42 0 A19_3) Q
      refine w_iconst dX12_dark_22 ?_
      refine w_istore_n [some (aR 12 0), some (aI x), some (aI 0), none] dX12_dark_23 rfl (by decide) ?_
      refine w_iconst dX12_dark_24 ?_
      refine w_istore_n [some (aR 12 0), some (aI x), some (aI 0), some (aI 0)] dX12_dark_25 rfl (by decide) ?_
      have lp26 : ∀ c : Nat, c ≤ (gg 4 0 1).toNat → ∀ (y26 se : Int), y26 = (c : Int) → se = mBits (fun c => mShadeB (gg 4 0 1) (gg 17 0) (c : Int) x) c → fwWP mX12_dark (d + 6) 26 [some (aR 12 0), some (aI x), some (aI se), some (aI y26)] [] (fwUc h 42 0 A19_3) Q := by
        refine fw_up (fun c hc26 ih26 => ?_)
        intro y26 se ey26 e_se
        subst ey26
        subst e_se
        show fwWP mX12_dark (d + 6) 26 [some (aR 12 0), some (aI x), some (aI (mBits (fun c => mShadeB (gg 4 0 1) (gg 17 0) (c : Int) x) c)), some (aI (c : Int))] [] (fwUc h 42 0 A19_3) Q
        refine w_iload_n dX12_dark_26 rfl ?_
        refine w_aload_n dX12_dark_27 rfl ?_
        refine w_getr 36 0 dX12_dark_28 fl_X12_9 rfl (by decide) ?_
        refine w_iconst dX12_dark_31 ?_
        refine w_ialdE (v := gg 4 0 1) dX12_dark_32 rfl (by decide) (by omega) (by omega) R.1 ?_
        refine w_icmp_ge 61 dX12_dark_33 (by decide) (by omega) (by omega) (fun c33 => ?_) (fun c33 => ?_)
        · have ec26 : (gg 4 0 1).toNat = c := by omega
          subst ec26
          refine w_iload_n dX12_dark_61 rfl ?_
          exact w_iretE dX12_dark_62 rfl (by unfold an_dark; first | (rw [if_pos (by omega)]; done) | (rw [if_neg (by omega)]; done) | (rw [if_pos (by omega)]; rfl) | (rw [if_neg (by omega)]; rfl)) (k _ (scr_uc (scr_rf hsh) rfl (by decide) (by decide) (by decide)))
        · refine w_iload_n dX12_dark_36 rfl ?_
          refine w_aload_n dX12_dark_37 rfl ?_
          refine w_iload_n dX12_dark_38 rfl ?_
          refine w_iload_n dX12_dark_39 rfl ?_
          refine w_callV (d := d + 5) (S := [aI (mBits (fun c => mShadeB (gg 4 0 1) (gg 17 0) (c : Int) x) c)]) [aI (c : Int), aI x] dX12_dark_40 ml_X12_217 ok_X12_isDark vi_X12_isDark rfl rfl (by decide) rfl (Nat.le_of_ble_eq_true rfl) ?_
          refine c_X12_isDark (d := (d + 3)) (c : Int) x (gg 17 0) J R hA19_3 hb17 (show 0 ≤ (c : Int) ∧ (c : Int) < gg 4 0 1 by omega) (by omega) ?_
          show fwWP mX12_dark (d + 6) 43 [some (aR 12 0), some (aI x), some (aI (mBits (fun c => mShadeB (gg 4 0 1) (gg 17 0) (c : Int) x) c)), some (aI (c : Int))] [aI (fwB (mShadeB (gg 4 0 1) (gg 17 0) (c : Int) x = true)), aI (mBits (fun c => mShadeB (gg 4 0 1) (gg 17 0) (c : Int) x) c)] (fwUc h 42 0 A19_3) Q
          refine w_ifB_eq 52 dX12_dark_43 (by decide) (fun c43 => ?_) (fun c43 => ?_)
          · refine w_iconst dX12_dark_52 ?_
            refine w_ior dX12_dark_53 ?_
            refine w_istore_n [some (aR 12 0), some (aI x), some (aI (fwOr (mBits (fun c => mShadeB (gg 4 0 1) (gg 17 0) (c : Int) x) c) 0)), some (aI (c : Int))] dX12_dark_54 rfl (by decide) ?_
            refine w_iinc [some (aR 12 0), some (aI x), some (aI (fwOr (mBits (fun c => mShadeB (gg 4 0 1) (gg 17 0) (c : Int) x) c) 0)), some (aI ((c : Int) + 1))] dX12_dark_55 rfl rfl (by decide) ?_
            refine w_goto 26 dX12_dark_58 (by decide) ?_
            refine ih26 (by omega) _ _ ?_ ?_
            · exact (by omega)
            · exact (by rw [mBits, if_neg c43, fwOr_0 (mBits_rng _ _)])
          · refine w_iconst dX12_dark_46 ?_
            refine w_iload_n dX12_dark_47 rfl ?_
            refine w_ishl dX12_dark_48 ?_
            refine w_goto 53 dX12_dark_49 (by decide) ?_
            refine w_ior dX12_dark_53 ?_
            refine w_istore_n [some (aR 12 0), some (aI x), some (aI (fwOr (mBits (fun c => mShadeB (gg 4 0 1) (gg 17 0) (c : Int) x) c) (fwShl 1 (c : Int)))), some (aI (c : Int))] dX12_dark_54 rfl (by decide) ?_
            refine w_iinc [some (aR 12 0), some (aI x), some (aI (fwOr (mBits (fun c => mShadeB (gg 4 0 1) (gg 17 0) (c : Int) x) c) (fwShl 1 (c : Int)))), some (aI ((c : Int) + 1))] dX12_dark_55 rfl rfl (by decide) ?_
            refine w_goto 26 dX12_dark_58 (by decide) ?_
            refine ih26 (by omega) _ _ ?_ ?_
            · exact (by omega)
            · exact (by rw [mBits, if_pos c43])
      refine lp26 0 (Nat.zero_le _) _ _ ?_ ?_
      · exact (by omega)
      · exact rfl
    · refine w_bipush dX12_dark_15 rfl ?_
      exact w_iretE dX12_dark_17 rfl (by unfold an_dark; first | (rw [if_pos (by omega)]; done) | (rw [if_neg (by omega)]; done) | (rw [if_pos (by omega)]; rfl) | (rw [if_neg (by omega)]; rfl)) (k _ (scr_rf hsh))
set_option maxRecDepth 100000 in
set_option maxHeartbeats 4000000 in
theorem c_X12_hopesOf {d : Nat} {h gg : fwH} {Q : Option fwV → fwH → Prop} (f u : Nat) (J : cOk gg) (R : jF gg h) (K : jA gg h) (ht : 0 < gg 3 0 6) (hf : (f : Int) < gg 5 0 3) (hu : u ≤ 100) (k : ∀ A, Q (some (aI (mGain (gg 4 0 1) (mLw gg u) (gg 4 0 2) (gg 18 0) f - mGain (gg 4 0 1) (gg 17 0) (gg 4 0 2) (gg 18 0) f))) (fwUc h 42 0 A)) : fwCt mX12_hopesOf (d + 6) [aR 12 0, aI (f : Int), aI (u : Int)] h Q := by
  refine fwCt_of [some (aR 12 0), some (aI (f : Int)), some (aI (u : Int)), none, none] rfl rfl rfl ?_
  obtain ⟨hl, hP, hG, hM0, htd, hut, hlw, hhc, ha, hs, hT, hsc⟩ := id J
  have hb17 : hB (gg 17 0) := fun c hc => by have := hM0 c hc; omega
  obtain ⟨⟨g1, g2⟩, ⟨g3, g4⟩, ⟨g5, g6⟩, g7, -⟩ := id hG
  have h17_99 : ∀ c : Nat, (c : Int) < gg 4 0 1 → gg 17 0 c ≤ 99 := fun c hc => (hM0 c (by omega)).2
  have hpz := hP.1
  have hrs1 := R.2.2.2.2.2.2.2.2.2.2.2
  refine w_aload_n dX12_hopesOf_0 rfl ?_
  refine w_callV (d := d + 5) (S := []) [] dX12_hopesOf_1 ml_X12_240 ok_X12_asItIs vi_X12_asItIs rfl rfl (by decide) rfl (Nat.le_of_ble_eq_true rfl) ?_
  refine c_X12_asItIs (d := d) J R K (show 1 ≤ gg 4 0 1 by omega) (show 1 ≤ gg 4 0 3 by omega) ?_
  intro A1_1 hA1_1
  show fwWP mX12_hopesOf (d + 6) 4 [some (aR 12 0), some (aI (f : Int)), some (aI (u : Int)), none, none] [] (fwUc h 42 0 A1_1) Q
  refine w_aload_n dX12_hopesOf_4 rfl ?_
  refine w_iload_n dX12_hopesOf_5 rfl ?_
  refine w_callV (d := d + 5) (S := []) [aI (f : Int)] dX12_hopesOf_6 ml_X12_232 ok_X12_gainOf vi_X12_gainOf rfl rfl (by decide) rfl (Nat.le_of_ble_eq_true rfl) ?_
  refine c_X12_gainOf (d := (d + 1)) f (gg 17 0) J R hA1_1 hb17 (show 1 ≤ gg 4 0 1 by omega) (show (f : Int) < gg 5 0 3 by omega) ?_
  show fwWP mX12_hopesOf (d + 6) 9 [some (aR 12 0), some (aI (f : Int)), some (aI (u : Int)), none, none] [aI (mGain (gg 4 0 1) (gg 17 0) (gg 4 0 2) (gg 18 0) f)] (fwUc h 42 0 A1_1) Q
  have hgr2 := mGain_r2 J hb17 f (by omega)
  refine w_istore_n [some (aR 12 0), some (aI (f : Int)), some (aI (u : Int)), some (aI (mGain (gg 4 0 1) (gg 17 0) (gg 4 0 2) (gg 18 0) f)), none] dX12_hopesOf_9 rfl (by decide) ?_
  refine w_iconst dX12_hopesOf_10 ?_
  refine w_istore [some (aR 12 0), some (aI (f : Int)), some (aI (u : Int)), some (aI (mGain (gg 4 0 1) (gg 17 0) (gg 4 0 2) (gg 18 0) f)), some (aI 0)] dX12_hopesOf_11 rfl (by decide) ?_
  have lp13 : ∀ c : Nat, c ≤ u → ∀ (y13 : Int) (A13 : Nat → Int), y13 = (c : Int) → hiR (gg 4 0 1) A13 (mLw gg c) → fwWP mX12_hopesOf (d + 6) 13 [some (aR 12 0), some (aI (f : Int)), some (aI (u : Int)), some (aI (mGain (gg 4 0 1) (gg 17 0) (gg 4 0 2) (gg 18 0) f)), some (aI y13)] [] (fwUc h 42 0 A13) Q := by
    refine fw_up (fun c hc13 ih13 => ?_)
    intro y13 A13 ey13 hA13
    subst ey13
    show fwWP mX12_hopesOf (d + 6) 13 [some (aR 12 0), some (aI (f : Int)), some (aI (u : Int)), some (aI (mGain (gg 4 0 1) (gg 17 0) (gg 4 0 2) (gg 18 0) f)), some (aI (c : Int))] [] (fwUc h 42 0 A13) Q
    refine w_iload dX12_hopesOf_13 rfl ?_
    refine w_iload_n dX12_hopesOf_15 rfl ?_
    refine w_icmp_ge 30 dX12_hopesOf_16 (by decide) (by omega) (by omega) (fun c16 => ?_) (fun c16 => ?_)
    · have ec13 : u = c := by omega
      subst ec13
      have hbu := mLw_hb J u
      refine w_aload_n dX12_hopesOf_30 rfl ?_
      refine w_iload_n dX12_hopesOf_31 rfl ?_
      refine w_callV (d := d + 5) (S := []) [aI (f : Int)] dX12_hopesOf_32 ml_X12_232 ok_X12_gainOf vi_X12_gainOf rfl rfl (by decide) rfl (Nat.le_of_ble_eq_true rfl) ?_
      refine c_X12_gainOf (d := (d + 1)) f (mLw gg u) J R hA13 hbu (show 1 ≤ gg 4 0 1 by omega) (show (f : Int) < gg 5 0 3 by omega) ?_
      show fwWP mX12_hopesOf (d + 6) 35 [some (aR 12 0), some (aI (f : Int)), some (aI (u : Int)), some (aI (mGain (gg 4 0 1) (gg 17 0) (gg 4 0 2) (gg 18 0) f)), some (aI ((u : Nat) : Int))] [aI (mGain (gg 4 0 1) (mLw gg u) (gg 4 0 2) (gg 18 0) f)] (fwUc h 42 0 A13) Q
      have hgr4 := mGain_r2 J hbu f (by omega)
      refine w_iload_n dX12_hopesOf_35 rfl ?_
      refine w_isub dX12_hopesOf_36 ?_
      exact w_iretE dX12_hopesOf_37 rfl rfl (k _)
    · have hbl := mLw_hb J c
      refine w_aload_n dX12_hopesOf_19 rfl ?_
      refine w_callV (d := d + 5) (S := []) [] dX12_hopesOf_20 ml_X12_194 ok_X12_take0 vi_X12_take0 rfl rfl (by decide) rfl (Nat.le_of_ble_eq_true rfl) ?_
      refine c_X12_take0 (d := (d + 4)) (mLw gg c) J R hA13 hbl (show 1 ≤ gg 4 0 1 by omega) ?_
      intro A20_5 hA20_5
      show fwWP mX12_hopesOf (d + 6) 23 [some (aR 12 0), some (aI (f : Int)), some (aI (u : Int)), some (aI (mGain (gg 4 0 1) (gg 17 0) (gg 4 0 2) (gg 18 0) f)), some (aI (c : Int))] [aI (fwB (0 < (gg 4 0 1).toNat ∧ (mLw gg c) (mTop (mLw gg c) (gg 4 0 4) (gg 4 0 1).toNat).toNat ≠ 0))] (fwUc (fwUc h 42 0 A13) 42 0 A20_5) Q
      rw [show (fwUc (fwUc h 42 0 A13) 42 0 A20_5) = (fwUc h 42 0 A20_5) from by funext a b; simp only [fwUc]; (repeat' split); all_goals first | rfl | (exfalso; omega)]
      refine w_pop dX12_hopesOf_23 rfl ?_
      refine w_iinc [some (aR 12 0), some (aI (f : Int)), some (aI (u : Int)), some (aI (mGain (gg 4 0 1) (gg 17 0) (gg 4 0 2) (gg 18 0) f)), some (aI ((c : Int) + 1))] dX12_hopesOf_24 rfl rfl (by decide) ?_
      refine w_goto 13 dX12_hopesOf_27 (by decide) ?_
      refine ih13 (by omega) _ _ ?_ ?_
      · exact (by omega)
      · exact hA20_5
  have z13 := lp13 0 (Nat.zero_le _) _ A1_1 (by exact (show 0 = ((0 : Nat) : Int) by omega))  hA1_1
  exact z13
theorem c_hoE {d : Nat} {h gg : fwH} {Q : Option fwV → fwH → Prop} (f u : Nat) (x : Int) (J : cOk gg) (R : jF gg h) (K : jA gg h) (ht : 0 < gg 3 0 6) (ex : x = (u : Int)) (hf : (f : Int) < gg 5 0 3) (hu : u ≤ 100) (k : ∀ A, Q (some (aI (mGain (gg 4 0 1) (mLw gg u) (gg 4 0 2) (gg 18 0) f - mGain (gg 4 0 1) (gg 17 0) (gg 4 0 2) (gg 18 0) f))) (fwUc h 42 0 A)) : fwCt mX12_hopesOf (d + 6) [aR 12 0, aI (f : Int), aI x] h Q := by
  subst ex
  exact c_X12_hopesOf f u J R K ht hf hu k
theorem mWish_2 (h : fwH) (f : Nat) : ∀ k : Nat, (0 ≤ (mWish h f k).1 ∧ (mWish h f k).1 ≤ k) ∧ (mWish h f k).2 = mGain (h 4 0 1) (mLw h (mWish h f k).1.toNat) (h 4 0 2) (h 18 0) f := by
  intro k
  induction k with
  | zero => exact ⟨by rw [mWish]; dsimp only; omega, rfl⟩
  | succ k ih =>
    rw [mWish]
    split
    · refine ⟨by dsimp only; omega, ?_⟩
      show _ = mGain (h 4 0 1) (mLw h ((k : Int) + 1).toNat) (h 4 0 2) (h 18 0) f
      rw [show ((k : Int) + 1).toNat = k + 1 by omega]
    · exact ⟨by omega, ih.2⟩
set_option maxRecDepth 100000 in
set_option maxHeartbeats 4000000 in
theorem c_X12_hopes {d : Nat} {h gg : fwH} {Q : Option fwV → fwH → Prop} (x : Int) (y : Int) (J : cOk gg) (R : jF gg h) (K : jA gg h) (hsh : sc h) (hx : -2147483648 ≤ x ∧ x < 2147483648) (hy : -2147483648 ≤ y ∧ y < 2147483648) (k : ∀ g, scr h g → Q (some (aI (an_hopes gg x y))) g) : fwCt mX12_hopes (d + 7) [aR 12 0, aI x, aI y] h Q := by
  refine fwCt_of [some (aR 12 0), some (aI x), some (aI y)] rfl rfl rfl ?_
  obtain ⟨hl, hP, hG, hM0, htd, hut, hlw, hhc, ha, hs, hT, hsc⟩ := id J
  have hb17 : hB (gg 17 0) := fun c hc => by have := hM0 c hc; omega
  obtain ⟨⟨g1, g2⟩, ⟨g3, g4⟩, ⟨g5, g6⟩, g7, -⟩ := id hG
  have h17_99 : ∀ c : Nat, (c : Int) < gg 4 0 1 → gg 17 0 c ≤ 99 := fun c hc => (hM0 c (by omega)).2
  have hpz := hP.1
  have hrs1 := R.2.2.2.2.2.2.2.2.2.2.2
  refine w_aload_n dX12_hopes_0 rfl ?_
  refine w_iload_n dX12_hopes_1 rfl ?_
  refine w_i2l dX12_hopes_2 (by omega) ?_
  refine w_callV (d := d + 6) (S := []) [aJ x] dX12_hopes_3 ml_X12_235 ok_X12_isFolk vi_X12_isFolk rfl rfl (by decide) rfl (Nat.le_of_ble_eq_true rfl) ?_
  refine c_X12_isFolk (d := (d + 5)) x J R (by omega) ?_
  show fwWP mX12_hopes (d + 7) 6 [some (aR 12 0), some (aI x), some (aI y)] [aI (fwB (0 ≤ x ∧ x ≤ gg 5 0 3 - 1))] h Q
  refine w_ifB_eq 30 dX12_hopes_6 (by decide) (fun c6 => ?_) (fun c6 => ?_)
  · refine w_sipush dX12_hopes_30 rfl ?_
    exact w_iretE dX12_hopes_33 rfl (by unfold an_hopes; first | (rw [if_pos (by omega)]; done) | (rw [if_neg (by omega)]; done) | (rw [if_pos (by omega)]; rfl) | (rw [if_neg (by omega)]; rfl)) (k _ (scr_rf hsh))
  · refine w_iload_n dX12_hopes_9 rfl ?_
    refine w_i2l dX12_hopes_10 (by omega) ?_
    refine w_lconst (z := 0) dX12_hopes_11 rfl ?_
    refine w_ldc2 (n := 20) dX12_hopes_12 cs_X12_246 ?_
    refine w_callS (d := d + 6) (S := []) [aJ y, aJ 0, aJ 20] dX12_hopes_15 ml_X12_65 ok_X12_in st_X12_in rfl (Nat.le_of_ble_eq_true rfl) ?_
    refine c_X12_in (d := (d + 6)) y 0 20 (by omega) (by omega) (by omega) ?_
    show fwWP mX12_hopes (d + 7) 18 [some (aR 12 0), some (aI x), some (aI y)] [aI (fwB (0 ≤ y ∧ y ≤ 20))] h Q
    refine w_ifB_eq 30 dX12_hopes_18 (by decide) (fun c18 => ?_) (fun c18 => ?_)
    · refine w_sipush dX12_hopes_30 rfl ?_
      exact w_iretE dX12_hopes_33 rfl (by unfold an_hopes; first | (rw [if_pos (by omega)]; done) | (rw [if_neg (by omega)]; done) | (rw [if_pos (by omega)]; rfl) | (rw [if_neg (by omega)]; rfl)) (k _ (scr_rf hsh))
    · obtain ⟨f, rfl⟩ : ∃ f : Nat, x = (f : Int) := ⟨x.toNat, by omega⟩
      obtain ⟨u, rfl⟩ : ∃ u : Nat, y = (u : Int) := ⟨y.toNat, by omega⟩
      refine w_aload_n dX12_hopes_21 rfl ?_
      refine w_iload_n dX12_hopes_22 rfl ?_
      refine w_iload_n dX12_hopes_23 rfl ?_
      refine w_callV (d := d + 6) (S := []) [aI (f : Int), aI (u : Int)] dX12_hopes_24 ml_X12_248 ok_X12_hopesOf vi_X12_hopesOf rfl rfl (by decide) rfl (Nat.le_of_ble_eq_true rfl) ?_
      refine c_hoE (d := d) f u (u : Int) J R K (show 0 < gg 3 0 6 by omega) (by omega) (show (f : Int) < gg 5 0 3 by omega) (by omega) ?_
      intro A24_3
      show fwWP mX12_hopes (d + 7) 27 [some (aR 12 0), some (aI (f : Int)), some (aI (u : Int))] [aI (mGain (gg 4 0 1) (mLw gg u) (gg 4 0 2) (gg 18 0) f - mGain (gg 4 0 1) (gg 17 0) (gg 4 0 2) (gg 18 0) f)] (fwUc h 42 0 A24_3) Q
      have hgr3 := mGain_r2 J (mLw_hb J u) f (by omega)
      have hgq3 := mGain_r2 J hb17 f (by omega)
      refine w_goto 33 dX12_hopes_27 (by decide) ?_
      exact w_iretE dX12_hopes_33 rfl (by unfold an_hopes; first | (rw [if_pos (by omega)]; done) | (rw [if_neg (by omega)]; done) | (rw [if_pos (by omega)]; rfl) | (rw [if_neg (by omega)]; rfl)) (k _ (scr_uc (scr_rf hsh) rfl (by decide) (by decide) (by decide)))
set_option maxRecDepth 100000 in
set_option maxHeartbeats 4000000 in
theorem c_X12_wishes {d : Nat} {h gg : fwH} {Q : Option fwV → fwH → Prop} (x : Int) (J : cOk gg) (R : jF gg h) (K : jA gg h) (hsh : sc h) (hx : -2147483648 ≤ x ∧ x < 2147483648) (k : ∀ g, scr h g → Q (some (aI (an_wishes gg x))) g) : fwCt mX12_wishes (d + 7) [aR 12 0, aI x] h Q := by
  refine fwCt_of [some (aR 12 0), some (aI x), none, none] rfl rfl rfl ?_
  obtain ⟨hl, hP, hG, hM0, htd, hut, hlw, hhc, ha, hs, hT, hsc⟩ := id J
  have hb17 : hB (gg 17 0) := fun c hc => by have := hM0 c hc; omega
  obtain ⟨⟨g1, g2⟩, ⟨g3, g4⟩, ⟨g5, g6⟩, g7, -⟩ := id hG
  have h17_99 : ∀ c : Nat, (c : Int) < gg 4 0 1 → gg 17 0 c ≤ 99 := fun c hc => (hM0 c (by omega)).2
  have hpz := hP.1
  have hrs1 := R.2.2.2.2.2.2.2.2.2.2.2
  refine w_aload_n dX12_wishes_0 rfl ?_
  refine w_iload_n dX12_wishes_1 rfl ?_
  refine w_i2l dX12_wishes_2 (by omega) ?_
  refine w_callV (d := d + 6) (S := []) [aJ x] dX12_wishes_3 ml_X12_235 ok_X12_isFolk vi_X12_isFolk rfl rfl (by decide) rfl (Nat.le_of_ble_eq_true rfl) ?_
  refine c_X12_isFolk (d := (d + 5)) x J R (by omega) ?_
  show fwWP mX12_wishes (d + 7) 6 [some (aR 12 0), some (aI x), none, none] [aI (fwB (0 ≤ x ∧ x ≤ gg 5 0 3 - 1))] h Q
  refine w_ifB_ne 12 dX12_wishes_6 (by decide) (fun c6 => ?_) (fun c6 => ?_)
  · obtain ⟨f, rfl⟩ : ∃ f : Nat, x = (f : Int) := ⟨x.toNat, by omega⟩
    refine w_iconst dX12_wishes_12 ?_
    refine w_istore_n [some (aR 12 0), some (aI (f : Int)), some (aI 0), none] dX12_wishes_13 rfl (by decide) ?_
    refine w_iconst dX12_wishes_14 ?_
    refine w_istore_n [some (aR 12 0), some (aI (f : Int)), some (aI 0), some (aI 1)] dX12_wishes_15 rfl (by decide) ?_
    have lp16 : ∀ c : Nat, c ≤ 20 → ∀ (y16 be : Int) (A16 : Nat → Int), y16 = (c : Int) + 1 → be = (mWish gg f c).1 → fwWP mX12_wishes (d + 7) 16 [some (aR 12 0), some (aI (f : Int)), some (aI be), some (aI y16)] [] (fwUc h 42 0 A16) Q := by
      refine fw_up (fun c hc16 ih16 => ?_)
      intro y16 be A16 ey16 e_be
      subst ey16
      subst e_be
      have hw2 := (mWish_2 gg f c).1
      show fwWP mX12_wishes (d + 7) 16 [some (aR 12 0), some (aI (f : Int)), some (aI ((mWish gg f c).1)), some (aI ((c : Int) + 1))] [] (fwUc h 42 0 A16) Q
      refine w_iload_n dX12_wishes_16 rfl ?_
      refine w_bipush dX12_wishes_17 rfl ?_
      refine w_icmp_gt 49 dX12_wishes_19 (by decide) (by omega) (by omega) (fun c19 => ?_) (fun c19 => ?_)
      · have ec16 : 20 = c := by omega
        subst ec16
        refine w_iload_n dX12_wishes_49 rfl ?_
        exact w_iretE dX12_wishes_50 rfl (by unfold an_wishes; first | (rw [if_neg (by omega)]; done) | (rw [if_pos (by omega)]; done) | (rw [if_pos (by omega)]; rfl)) (k _ (scr_uc (scr_rf hsh) rfl (by decide) (by decide) (by decide)))
      · refine w_aload_n dX12_wishes_22 rfl ?_
        refine w_iload_n dX12_wishes_23 rfl ?_
        refine w_iload_n dX12_wishes_24 rfl ?_
        refine w_callV (d := d + 6) (S := []) [aI (f : Int), aI ((c : Int) + 1)] dX12_wishes_25 ml_X12_248 ok_X12_hopesOf vi_X12_hopesOf rfl rfl (by decide) rfl (Nat.le_of_ble_eq_true rfl) ?_
        refine c_hoE (d := d) f (c + 1) ((c : Int) + 1) J R K (show 0 < gg 3 0 6 by omega) (by omega) (show (f : Int) < gg 5 0 3 by omega) (by omega) ?_
        intro A25_4
        show fwWP mX12_wishes (d + 7) 28 [some (aR 12 0), some (aI (f : Int)), some (aI ((mWish gg f c).1)), some (aI ((c : Int) + 1))] [aI (mGain (gg 4 0 1) (mLw gg (c + 1)) (gg 4 0 2) (gg 18 0) f - mGain (gg 4 0 1) (gg 17 0) (gg 4 0 2) (gg 18 0) f)] (fwUc (fwUc h 42 0 A16) 42 0 A25_4) Q
        rw [show (fwUc (fwUc h 42 0 A16) 42 0 A25_4) = (fwUc h 42 0 A25_4) from by funext a b; simp only [fwUc]; (repeat' split); all_goals first | rfl | (exfalso; omega)]
        have hgra := mGain_r2 J (mLw_hb J (c + 1)) f (by omega)
        have hgrb := mGain_r2 J hb17 f (by omega)
        refine w_aload_n dX12_wishes_28 rfl ?_
        refine w_iload_n dX12_wishes_29 rfl ?_
        refine w_iload_n dX12_wishes_30 rfl ?_
        refine w_callV (d := d + 6) (S := [aI (mGain (gg 4 0 1) (mLw gg (c + 1)) (gg 4 0 2) (gg 18 0) f - mGain (gg 4 0 1) (gg 17 0) (gg 4 0 2) (gg 18 0) f)]) [aI (f : Int), aI ((mWish gg f c).1)] dX12_wishes_31 ml_X12_248 ok_X12_hopesOf vi_X12_hopesOf rfl rfl (by decide) rfl (Nat.le_of_ble_eq_true rfl) ?_
        refine c_hoE (d := d) f ((mWish gg f c).1).toNat ((mWish gg f c).1) J R K (show 0 < gg 3 0 6 by omega) (by omega) (show (f : Int) < gg 5 0 3 by omega) (by omega) ?_
        intro A31_5
        show fwWP mX12_wishes (d + 7) 34 [some (aR 12 0), some (aI (f : Int)), some (aI ((mWish gg f c).1)), some (aI ((c : Int) + 1))] [aI (mGain (gg 4 0 1) (mLw gg ((mWish gg f c).1).toNat) (gg 4 0 2) (gg 18 0) f - mGain (gg 4 0 1) (gg 17 0) (gg 4 0 2) (gg 18 0) f), aI (mGain (gg 4 0 1) (mLw gg (c + 1)) (gg 4 0 2) (gg 18 0) f - mGain (gg 4 0 1) (gg 17 0) (gg 4 0 2) (gg 18 0) f)] (fwUc (fwUc h 42 0 A25_4) 42 0 A31_5) Q
        rw [show (fwUc (fwUc h 42 0 A25_4) 42 0 A31_5) = (fwUc h 42 0 A31_5) from by funext a b; simp only [fwUc]; (repeat' split); all_goals first | rfl | (exfalso; omega)]
        have hgr5 := mGain_r2 J (mLw_hb J (((mWish gg f c).1).toNat)) f (by omega)
        have hgq5 := mGain_r2 J hb17 f (by omega)
        refine w_icmp_le 41 dX12_wishes_34 (by decide) (by omega) (by omega) (fun c34 => ?_) (fun c34 => ?_)
        · refine w_iload_n dX12_wishes_41 rfl ?_
          refine w_istore_n [some (aR 12 0), some (aI (f : Int)), some (aI ((mWish gg f c).1)), some (aI ((c : Int) + 1))] dX12_wishes_42 rfl (by decide) ?_
          refine w_iinc [some (aR 12 0), some (aI (f : Int)), some (aI ((mWish gg f c).1)), some (aI (((c : Int) + 1) + 1))] dX12_wishes_43 rfl rfl (by decide) ?_
          refine w_goto 16 dX12_wishes_46 (by decide) ?_
          refine ih16 (by omega) _ _ _ ?_ ?_
          · exact (by omega)
          · exact (by rw [mWish.eq_2, if_neg (by rw [(mWish_2 gg f c).2]; omega)])
        · refine w_iload_n dX12_wishes_37 rfl ?_
          refine w_goto 42 dX12_wishes_38 (by decide) ?_
          refine w_istore_n [some (aR 12 0), some (aI (f : Int)), some (aI ((c : Int) + 1)), some (aI ((c : Int) + 1))] dX12_wishes_42 rfl (by decide) ?_
          refine w_iinc [some (aR 12 0), some (aI (f : Int)), some (aI ((c : Int) + 1)), some (aI (((c : Int) + 1) + 1))] dX12_wishes_43 rfl rfl (by decide) ?_
          refine w_goto 16 dX12_wishes_46 (by decide) ?_
          refine ih16 (by omega) _ _ _ ?_ ?_
          · exact (by omega)
          · exact (by rw [mWish.eq_2, if_pos (by rw [(mWish_2 gg f c).2]; omega)])
    have z16 := lp16 0 (Nat.zero_le _) _ _ (h 42 0) (by exact (show 1 = ((0 : Nat) : Int) + 1 by omega)) (by exact (show 0 = (mWish gg f 0).1 from rfl))
    rw [fwUc_self] at z16
    exact z16
  · refine w_bipush dX12_wishes_9 rfl ?_
    exact w_iretE dX12_wishes_11 rfl (by unfold an_wishes; first | (rw [if_neg (by omega)]; done) | (rw [if_pos (by omega)]; done) | (rw [if_pos (by omega)]; rfl)) (k _ (scr_rf hsh))
set_option maxRecDepth 100000 in
set_option maxHeartbeats 4000000 in
theorem c_X12_willingSet {d : Nat} {h gg : fwH} {Q : Option fwV → fwH → Prop} (H : Nat → Int) (J : cOk gg) (R : jF gg h) (hH : hiR (gg 4 0 1) (h 42 0) H) (hb : hB H) (hn : 1 ≤ gg 4 0 1) (k : ∀ A, hiR (gg 4 0 1) A H → Q (some (aI (mGers (gg 4 0 1) H (gg 4 0 2) (gg 4 0 4) (gg 18 0) (gg 5 0 3).toNat (-1)))) (fwUc h 42 0 A)) : fwCt mX12_willingSet (d + 5) [aR 12 0] h Q := by
  refine fwCt_of [some (aR 12 0), none, none, none, none] rfl rfl rfl ?_
  obtain ⟨hl, hP, hG, -, -, -, hlw, -, ha, hs, -, hsc⟩ := id J
  obtain ⟨⟨g1, g2⟩, ⟨g3, g4⟩, ⟨g5, g6⟩, g7, -⟩ := id hG
  have hpz := hP.1
  refine w_iconst dX12_willingSet_0 ?_
  refine w_istore_n [some (aR 12 0), some (aI 0), none, none, none] dX12_willingSet_1 rfl (by decide) ?_
  refine w_aload_n dX12_willingSet_2 rfl ?_
  refine w_callV (d := d + 4) (S := []) [] dX12_willingSet_3 ml_X12_200 ok_X12_topCell vi_X12_topCell rfl rfl (by decide) rfl (Nat.le_of_ble_eq_true rfl) ?_
  refine c_X12_topCell (d := (d + 4)) H J R hH hb (show 1 ≤ gg 4 0 1 by omega) ?_
  show fwWP mX12_willingSet (d + 5) 6 [some (aR 12 0), some (aI 0), none, none, none] [aI (mTop H (gg 4 0 4) (gg 4 0 1).toNat)] h Q
  have htp1 := mTop_r2 H (gg 4 0 4) (gg 4 0 1).toNat (by omega)
  refine w_istore_n [some (aR 12 0), some (aI 0), some (aI (mTop H (gg 4 0 4) (gg 4 0 1).toNat)), none, none] dX12_willingSet_6 rfl (by decide) ?_
  have hbt := hb (mTop H (gg 4 0 4) (gg 4 0 1).toNat).toNat (by omega)
  refine w_aload_n dX12_willingSet_7 rfl ?_
  refine w_getr 42 0 dX12_willingSet_8 fl_X12_34 rfl (by decide) ?_
  refine w_iload_n dX12_willingSet_11 rfl ?_
  refine w_ialdE (v := H (mTop H (gg 4 0 4) (gg 4 0 1).toNat).toNat) dX12_willingSet_12 rfl (by decide) (by omega) (by omega) (hH _ (by omega)) ?_
  refine w_if_ne 18 dX12_willingSet_13 (by decide) (by omega) (fun c13 => ?_) (fun c13 => ?_)
  · refine w_iconst dX12_willingSet_18 ?_
    refine w_istore_n [some (aR 12 0), some (aI 0), some (aI (mTop H (gg 4 0 4) (gg 4 0 1).toNat)), some (aI 0), none] dX12_willingSet_19 rfl (by decide) ?_
    have lp20 : ∀ c : Nat, c ≤ (gg 5 0 3).toNat → ∀ (y20 se : Int) (A20 : Nat → Int), y20 = (c : Int) → se = mBits (fun f => decide (mGain (gg 4 0 1) H (gg 4 0 2) (gg 18 0) f < mGain (gg 4 0 1) (fwFu H (mTop H (gg 4 0 4) (gg 4 0 1).toNat).toNat (H (mTop H (gg 4 0 4) (gg 4 0 1).toNat).toNat + -1)) (gg 4 0 2) (gg 18 0) f)) c → hiR (gg 4 0 1) A20 H → fwWP mX12_willingSet (d + 5) 20 [some (aR 12 0), some (aI se), some (aI (mTop H (gg 4 0 4) (gg 4 0 1).toNat)), some (aI y20), none] [] (fwUc h 42 0 A20) Q := by
      refine fw_up (fun c hc20 ih20 => ?_)
      intro y20 se A20 ey20 e_se hA20
      subst ey20
      subst e_se
      show fwWP mX12_willingSet (d + 5) 20 [some (aR 12 0), some (aI (mBits (fun f => decide (mGain (gg 4 0 1) H (gg 4 0 2) (gg 18 0) f < mGain (gg 4 0 1) (fwFu H (mTop H (gg 4 0 4) (gg 4 0 1).toNat).toNat (H (mTop H (gg 4 0 4) (gg 4 0 1).toNat).toNat + -1)) (gg 4 0 2) (gg 18 0) f)) c)), some (aI (mTop H (gg 4 0 4) (gg 4 0 1).toNat)), some (aI (c : Int)), none] [] (fwUc h 42 0 A20) Q
      refine w_iload_n dX12_willingSet_20 rfl ?_
      refine w_aload_n dX12_willingSet_21 rfl ?_
      refine w_getr 36 0 dX12_willingSet_22 fl_X12_9 rfl (by decide) ?_
      refine w_bipush dX12_willingSet_25 rfl ?_
      refine w_ialdE (v := gg 5 0 3) dX12_willingSet_27 rfl (by decide) (by omega) (by omega) R.2.2.2.2.2.2.1 ?_
      refine w_icmp_ge 84 dX12_willingSet_28 (by decide) (by omega) (by omega) (fun c28 => ?_) (fun c28 => ?_)
      · have ec20 : (gg 5 0 3).toNat = c := by omega
        subst ec20
        refine w_iload_n dX12_willingSet_84 rfl ?_
        have k2 := k _ hA20
        rw [mGers, if_neg (by omega)] at k2
        exact w_iret dX12_willingSet_85 rfl k2
      · refine w_aload_n dX12_willingSet_31 rfl ?_
        refine w_iload_n dX12_willingSet_32 rfl ?_
        refine w_callV (d := d + 4) (S := []) [aI (c : Int)] dX12_willingSet_33 ml_X12_232 ok_X12_gainOf vi_X12_gainOf rfl rfl (by decide) rfl (Nat.le_of_ble_eq_true rfl) ?_
        refine c_X12_gainOf (d := d) c H J R hA20 hb (show 1 ≤ gg 4 0 1 by omega) (show (c : Int) < gg 5 0 3 by omega) ?_
        show fwWP mX12_willingSet (d + 5) 36 [some (aR 12 0), some (aI (mBits (fun f => decide (mGain (gg 4 0 1) H (gg 4 0 2) (gg 18 0) f < mGain (gg 4 0 1) (fwFu H (mTop H (gg 4 0 4) (gg 4 0 1).toNat).toNat (H (mTop H (gg 4 0 4) (gg 4 0 1).toNat).toNat + -1)) (gg 4 0 2) (gg 18 0) f)) c)), some (aI (mTop H (gg 4 0 4) (gg 4 0 1).toNat)), some (aI (c : Int)), none] [aI (mGain (gg 4 0 1) H (gg 4 0 2) (gg 18 0) c)] (fwUc h 42 0 A20) Q
        have hgr4 := mGain_r2 J hb c (by omega)
        refine w_istore [some (aR 12 0), some (aI (mBits (fun f => decide (mGain (gg 4 0 1) H (gg 4 0 2) (gg 18 0) f < mGain (gg 4 0 1) (fwFu H (mTop H (gg 4 0 4) (gg 4 0 1).toNat).toNat (H (mTop H (gg 4 0 4) (gg 4 0 1).toNat).toNat + -1)) (gg 4 0 2) (gg 18 0) f)) c)), some (aI (mTop H (gg 4 0 4) (gg 4 0 1).toNat)), some (aI (c : Int)), some (aI (mGain (gg 4 0 1) H (gg 4 0 2) (gg 18 0) c))] dX12_willingSet_36 rfl (by decide) ?_
        refine w_aload_n dX12_willingSet_38 rfl ?_
        refine w_getr 42 0 dX12_willingSet_39 fl_X12_34 rfl (by decide) ?_
        refine w_iload_n dX12_willingSet_42 rfl ?_
        refine w_dup2 dX12_willingSet_43 rfl rfl ?_
        refine w_ialdE (v := H (mTop H (gg 4 0 4) (gg 4 0 1).toNat).toNat) dX12_willingSet_44 rfl (by decide) (by omega) (by omega) (hA20 _ (by omega)) ?_
        refine w_iconst dX12_willingSet_45 ?_
        refine w_isub dX12_willingSet_46 ?_
        refine w_iast dX12_willingSet_47 rfl (by decide) (by omega) (by omega) ?_
        rw [show (fwUp (fwUc h 42 0 A20) 42 0 (mTop H (gg 4 0 4) (gg 4 0 1).toNat).toNat ((H (mTop H (gg 4 0 4) (gg 4 0 1).toNat).toNat) - 1)) = (fwUc h 42 0 (fwFu A20 (mTop H (gg 4 0 4) (gg 4 0 1).toNat).toNat ((H (mTop H (gg 4 0 4) (gg 4 0 1).toNat).toNat) - 1))) from by rw [fwUp_fu]; rw [fwUc_uc]; rfl]
        have hA47 := hiR_fu hA20 (mTop H (gg 4 0 4) (gg 4 0 1).toNat).toNat ((H (mTop H (gg 4 0 4) (gg 4 0 1).toNat).toNat) - 1)
        have hb47 : hB (fwFu H (mTop H (gg 4 0 4) (gg 4 0 1).toNat).toNat ((H (mTop H (gg 4 0 4) (gg 4 0 1).toNat).toNat) - 1)) := hB_fu hb (by omega)
        refine w_iload_n dX12_willingSet_48 rfl ?_
        refine w_aload_n dX12_willingSet_49 rfl ?_
        refine w_iload_n dX12_willingSet_50 rfl ?_
        refine w_callV (d := d + 4) (S := [aI (mBits (fun f => decide (mGain (gg 4 0 1) H (gg 4 0 2) (gg 18 0) f < mGain (gg 4 0 1) (fwFu H (mTop H (gg 4 0 4) (gg 4 0 1).toNat).toNat (H (mTop H (gg 4 0 4) (gg 4 0 1).toNat).toNat + -1)) (gg 4 0 2) (gg 18 0) f)) c)]) [aI (c : Int)] dX12_willingSet_51 ml_X12_232 ok_X12_gainOf vi_X12_gainOf rfl rfl (by decide) rfl (Nat.le_of_ble_eq_true rfl) ?_
        refine c_X12_gainOf (d := d) c (fwFu H (mTop H (gg 4 0 4) (gg 4 0 1).toNat).toNat ((H (mTop H (gg 4 0 4) (gg 4 0 1).toNat).toNat) - 1)) J R hA47 hb47 (show 1 ≤ gg 4 0 1 by omega) (show (c : Int) < gg 5 0 3 by omega) ?_
        show fwWP mX12_willingSet (d + 5) 54 [some (aR 12 0), some (aI (mBits (fun f => decide (mGain (gg 4 0 1) H (gg 4 0 2) (gg 18 0) f < mGain (gg 4 0 1) (fwFu H (mTop H (gg 4 0 4) (gg 4 0 1).toNat).toNat (H (mTop H (gg 4 0 4) (gg 4 0 1).toNat).toNat + -1)) (gg 4 0 2) (gg 18 0) f)) c)), some (aI (mTop H (gg 4 0 4) (gg 4 0 1).toNat)), some (aI (c : Int)), some (aI (mGain (gg 4 0 1) H (gg 4 0 2) (gg 18 0) c))] [aI (mGain (gg 4 0 1) (fwFu H (mTop H (gg 4 0 4) (gg 4 0 1).toNat).toNat ((H (mTop H (gg 4 0 4) (gg 4 0 1).toNat).toNat) - 1)) (gg 4 0 2) (gg 18 0) c), aI (mBits (fun f => decide (mGain (gg 4 0 1) H (gg 4 0 2) (gg 18 0) f < mGain (gg 4 0 1) (fwFu H (mTop H (gg 4 0 4) (gg 4 0 1).toNat).toNat (H (mTop H (gg 4 0 4) (gg 4 0 1).toNat).toNat + -1)) (gg 4 0 2) (gg 18 0) f)) c)] (fwUc h 42 0 (fwFu A20 (mTop H (gg 4 0 4) (gg 4 0 1).toNat).toNat ((H (mTop H (gg 4 0 4) (gg 4 0 1).toNat).toNat) - 1))) Q
        have hgr5 := mGain_r2 J hb47 c (by omega)
        refine w_iload dX12_willingSet_54 rfl ?_
        refine w_icmp_le 65 dX12_willingSet_56 (by decide) (by omega) (by omega) (fun c56 => ?_) (fun c56 => ?_)
        · refine w_iconst dX12_willingSet_65 ?_
          refine w_ior dX12_willingSet_66 ?_
          refine w_istore_n [some (aR 12 0), some (aI (fwOr (mBits (fun f => decide (mGain (gg 4 0 1) H (gg 4 0 2) (gg 18 0) f < mGain (gg 4 0 1) (fwFu H (mTop H (gg 4 0 4) (gg 4 0 1).toNat).toNat (H (mTop H (gg 4 0 4) (gg 4 0 1).toNat).toNat + -1)) (gg 4 0 2) (gg 18 0) f)) c) 0)), some (aI (mTop H (gg 4 0 4) (gg 4 0 1).toNat)), some (aI (c : Int)), some (aI (mGain (gg 4 0 1) H (gg 4 0 2) (gg 18 0) c))] dX12_willingSet_67 rfl (by decide) ?_
          refine w_aload_n dX12_willingSet_68 rfl ?_
          refine w_getr 42 0 dX12_willingSet_69 fl_X12_34 rfl (by decide) ?_
          refine w_iload_n dX12_willingSet_72 rfl ?_
          refine w_dup2 dX12_willingSet_73 rfl rfl ?_
          refine w_ialdE (v := (fwFu H (mTop H (gg 4 0 4) (gg 4 0 1).toNat).toNat ((H (mTop H (gg 4 0 4) (gg 4 0 1).toNat).toNat) - 1)) (mTop H (gg 4 0 4) (gg 4 0 1).toNat).toNat) dX12_willingSet_74 rfl (by decide) (by omega) (by omega) (hA47 _ (by omega)) ?_
          refine w_iconst dX12_willingSet_75 ?_
          refine w_iadd dX12_willingSet_76 ?_
          refine w_iast dX12_willingSet_77 rfl (by decide) (by omega) (by omega) ?_
          rw [show (fwUp (fwUc h 42 0 (fwFu A20 (mTop H (gg 4 0 4) (gg 4 0 1).toNat).toNat ((H (mTop H (gg 4 0 4) (gg 4 0 1).toNat).toNat) - 1))) 42 0 (mTop H (gg 4 0 4) (gg 4 0 1).toNat).toNat (((fwFu H (mTop H (gg 4 0 4) (gg 4 0 1).toNat).toNat ((H (mTop H (gg 4 0 4) (gg 4 0 1).toNat).toNat) - 1)) (mTop H (gg 4 0 4) (gg 4 0 1).toNat).toNat) + 1)) = (fwUc h 42 0 (fwFu (fwFu A20 (mTop H (gg 4 0 4) (gg 4 0 1).toNat).toNat ((H (mTop H (gg 4 0 4) (gg 4 0 1).toNat).toNat) - 1)) (mTop H (gg 4 0 4) (gg 4 0 1).toNat).toNat (((fwFu H (mTop H (gg 4 0 4) (gg 4 0 1).toNat).toNat ((H (mTop H (gg 4 0 4) (gg 4 0 1).toNat).toNat) - 1)) (mTop H (gg 4 0 4) (gg 4 0 1).toNat).toNat) + 1))) from by rw [fwUp_fu]; rw [fwUc_uc]; rfl]
          have hA77 := hiR_fu hA47 (mTop H (gg 4 0 4) (gg 4 0 1).toNat).toNat (((fwFu H (mTop H (gg 4 0 4) (gg 4 0 1).toNat).toNat ((H (mTop H (gg 4 0 4) (gg 4 0 1).toNat).toNat) - 1)) (mTop H (gg 4 0 4) (gg 4 0 1).toNat).toNat) + 1)
          rw [fwFu_mp] at hA77
          refine w_iinc [some (aR 12 0), some (aI (fwOr (mBits (fun f => decide (mGain (gg 4 0 1) H (gg 4 0 2) (gg 18 0) f < mGain (gg 4 0 1) (fwFu H (mTop H (gg 4 0 4) (gg 4 0 1).toNat).toNat (H (mTop H (gg 4 0 4) (gg 4 0 1).toNat).toNat + -1)) (gg 4 0 2) (gg 18 0) f)) c) 0)), some (aI (mTop H (gg 4 0 4) (gg 4 0 1).toNat)), some (aI ((c : Int) + 1)), some (aI (mGain (gg 4 0 1) H (gg 4 0 2) (gg 18 0) c))] dX12_willingSet_78 rfl rfl (by decide) ?_
          refine w_goto 20 dX12_willingSet_81 (by decide) ?_
          refine w_drop [4] [some (aR 12 0), some (aI (fwOr (mBits (fun f => decide (mGain (gg 4 0 1) H (gg 4 0 2) (gg 18 0) f < mGain (gg 4 0 1) (fwFu H (mTop H (gg 4 0 4) (gg 4 0 1).toNat).toNat (H (mTop H (gg 4 0 4) (gg 4 0 1).toNat).toNat + -1)) (gg 4 0 2) (gg 18 0) f)) c) 0)), some (aI (mTop H (gg 4 0 4) (gg 4 0 1).toNat)), some (aI ((c : Int) + 1)), none] rfl ?_
          refine ih20 (by omega) _ _ _ ?_ ?_ ?_
          · exact (by omega)
          · exact (by rw [mBits, if_neg (by rw [decide_eq_true_eq, ← Int.sub_eq_add_neg]; omega), fwOr_0 (mBits_rng _ _)])
          · exact hA77
        · refine w_iconst dX12_willingSet_59 ?_
          refine w_iload_n dX12_willingSet_60 rfl ?_
          refine w_ishl dX12_willingSet_61 ?_
          refine w_goto 66 dX12_willingSet_62 (by decide) ?_
          refine w_ior dX12_willingSet_66 ?_
          refine w_istore_n [some (aR 12 0), some (aI (fwOr (mBits (fun f => decide (mGain (gg 4 0 1) H (gg 4 0 2) (gg 18 0) f < mGain (gg 4 0 1) (fwFu H (mTop H (gg 4 0 4) (gg 4 0 1).toNat).toNat (H (mTop H (gg 4 0 4) (gg 4 0 1).toNat).toNat + -1)) (gg 4 0 2) (gg 18 0) f)) c) (fwShl 1 (c : Int)))), some (aI (mTop H (gg 4 0 4) (gg 4 0 1).toNat)), some (aI (c : Int)), some (aI (mGain (gg 4 0 1) H (gg 4 0 2) (gg 18 0) c))] dX12_willingSet_67 rfl (by decide) ?_
          refine w_aload_n dX12_willingSet_68 rfl ?_
          refine w_getr 42 0 dX12_willingSet_69 fl_X12_34 rfl (by decide) ?_
          refine w_iload_n dX12_willingSet_72 rfl ?_
          refine w_dup2 dX12_willingSet_73 rfl rfl ?_
          refine w_ialdE (v := (fwFu H (mTop H (gg 4 0 4) (gg 4 0 1).toNat).toNat ((H (mTop H (gg 4 0 4) (gg 4 0 1).toNat).toNat) - 1)) (mTop H (gg 4 0 4) (gg 4 0 1).toNat).toNat) dX12_willingSet_74 rfl (by decide) (by omega) (by omega) (hA47 _ (by omega)) ?_
          refine w_iconst dX12_willingSet_75 ?_
          refine w_iadd dX12_willingSet_76 ?_
          refine w_iast dX12_willingSet_77 rfl (by decide) (by omega) (by omega) ?_
          rw [show (fwUp (fwUc h 42 0 (fwFu A20 (mTop H (gg 4 0 4) (gg 4 0 1).toNat).toNat ((H (mTop H (gg 4 0 4) (gg 4 0 1).toNat).toNat) - 1))) 42 0 (mTop H (gg 4 0 4) (gg 4 0 1).toNat).toNat (((fwFu H (mTop H (gg 4 0 4) (gg 4 0 1).toNat).toNat ((H (mTop H (gg 4 0 4) (gg 4 0 1).toNat).toNat) - 1)) (mTop H (gg 4 0 4) (gg 4 0 1).toNat).toNat) + 1)) = (fwUc h 42 0 (fwFu (fwFu A20 (mTop H (gg 4 0 4) (gg 4 0 1).toNat).toNat ((H (mTop H (gg 4 0 4) (gg 4 0 1).toNat).toNat) - 1)) (mTop H (gg 4 0 4) (gg 4 0 1).toNat).toNat (((fwFu H (mTop H (gg 4 0 4) (gg 4 0 1).toNat).toNat ((H (mTop H (gg 4 0 4) (gg 4 0 1).toNat).toNat) - 1)) (mTop H (gg 4 0 4) (gg 4 0 1).toNat).toNat) + 1))) from by rw [fwUp_fu]; rw [fwUc_uc]; rfl]
          have hA77 := hiR_fu hA47 (mTop H (gg 4 0 4) (gg 4 0 1).toNat).toNat (((fwFu H (mTop H (gg 4 0 4) (gg 4 0 1).toNat).toNat ((H (mTop H (gg 4 0 4) (gg 4 0 1).toNat).toNat) - 1)) (mTop H (gg 4 0 4) (gg 4 0 1).toNat).toNat) + 1)
          rw [fwFu_mp] at hA77
          refine w_iinc [some (aR 12 0), some (aI (fwOr (mBits (fun f => decide (mGain (gg 4 0 1) H (gg 4 0 2) (gg 18 0) f < mGain (gg 4 0 1) (fwFu H (mTop H (gg 4 0 4) (gg 4 0 1).toNat).toNat (H (mTop H (gg 4 0 4) (gg 4 0 1).toNat).toNat + -1)) (gg 4 0 2) (gg 18 0) f)) c) (fwShl 1 (c : Int)))), some (aI (mTop H (gg 4 0 4) (gg 4 0 1).toNat)), some (aI ((c : Int) + 1)), some (aI (mGain (gg 4 0 1) H (gg 4 0 2) (gg 18 0) c))] dX12_willingSet_78 rfl rfl (by decide) ?_
          refine w_goto 20 dX12_willingSet_81 (by decide) ?_
          refine w_drop [4] [some (aR 12 0), some (aI (fwOr (mBits (fun f => decide (mGain (gg 4 0 1) H (gg 4 0 2) (gg 18 0) f < mGain (gg 4 0 1) (fwFu H (mTop H (gg 4 0 4) (gg 4 0 1).toNat).toNat (H (mTop H (gg 4 0 4) (gg 4 0 1).toNat).toNat + -1)) (gg 4 0 2) (gg 18 0) f)) c) (fwShl 1 (c : Int)))), some (aI (mTop H (gg 4 0 4) (gg 4 0 1).toNat)), some (aI ((c : Int) + 1)), none] rfl ?_
          refine ih20 (by omega) _ _ _ ?_ ?_ ?_
          · exact (by omega)
          · exact (by rw [mBits, if_pos (decide_eq_true (by rw [← Int.sub_eq_add_neg]; omega))])
          · exact hA77
    have z20 := lp20 0 (Nat.zero_le _) _ _ (h 42 0) (by exact (show 0 = ((0 : Nat) : Int) by omega)) (by exact (show 0 = mBits (fun f => decide (mGain (gg 4 0 1) H (gg 4 0 2) (gg 18 0) f < mGain (gg 4 0 1) (fwFu H (mTop H (gg 4 0 4) (gg 4 0 1).toNat).toNat (H (mTop H (gg 4 0 4) (gg 4 0 1).toNat).toNat + -1)) (gg 4 0 2) (gg 18 0) f)) 0 from rfl)) hH
    rw [fwUc_self] at z20
    exact z20
  · refine w_iconst dX12_willingSet_16 ?_
    have k2 := k (h 42 0) hH
    rw [fwUc_self, mGers, if_pos (by omega)] at k2
    exact w_iret dX12_willingSet_17 rfl k2
theorem mGers_r (n : Int) (H : Nat → Int) (sl ls : Int) (F : Nat → Int) {m : Nat} (y : Int) (hn : m ≤ 8) : 0 ≤ mGers n H sl ls F m y ∧ mGers n H sl ls F m y < 1024 := by
  unfold mGers
  split
  · omega
  · exact mBits_10 (by omega)
set_option maxRecDepth 100000 in
set_option maxHeartbeats 4000000 in
theorem c_X12_willing {d : Nat} {h gg : fwH} {Q : Option fwV → fwH → Prop}  (J : cOk gg) (R : jF gg h) (K : jA gg h) (hsh : sc h)  (k : ∀ g, scr h g → Q (some (aI (an_willing gg ))) g) : fwCt mX12_willing (d + 6) [aR 12 0] h Q := by
  refine fwCt_of [some (aR 12 0)] rfl rfl rfl ?_
  obtain ⟨hl, hP, hG, hM0, htd, hut, hlw, hhc, ha, hs, hT, hsc⟩ := id J
  have hb17 : hB (gg 17 0) := fun c hc => by have := hM0 c hc; omega
  obtain ⟨⟨g1, g2⟩, ⟨g3, g4⟩, ⟨g5, g6⟩, g7, -⟩ := id hG
  have h17_99 : ∀ c : Nat, (c : Int) < gg 4 0 1 → gg 17 0 c ≤ 99 := fun c hc => (hM0 c (by omega)).2
  have hpz := hP.1
  have hrs1 := R.2.2.2.2.2.2.2.2.2.2.2
  refine w_aload_n dX12_willing_0 rfl ?_
  refine w_callV (d := d + 5) (S := []) [] dX12_willing_1 ml_X12_73 ok_X12_isMount vi_X12_isMount rfl rfl (by decide) rfl (Nat.le_of_ble_eq_true rfl) ?_
  refine c_X12_isMount (d := (d + 5)) J R ?_
  show fwWP mX12_willing (d + 6) 4 [some (aR 12 0)] [aI (fwB (0 < gg 3 0 6))] h Q
  refine w_ifB_ne 10 dX12_willing_4 (by decide) (fun c4 => ?_) (fun c4 => ?_)
  · refine w_aload_n dX12_willing_10 rfl ?_
    refine w_callV (d := d + 5) (S := []) [] dX12_willing_11 ml_X12_240 ok_X12_asItIs vi_X12_asItIs rfl rfl (by decide) rfl (Nat.le_of_ble_eq_true rfl) ?_
    refine c_X12_asItIs (d := d) J R K (show 1 ≤ gg 4 0 1 by omega) (show 1 ≤ gg 4 0 3 by omega) ?_
    intro A11_2 hA11_2
    show fwWP mX12_willing (d + 6) 14 [some (aR 12 0)] [] (fwUc h 42 0 A11_2) Q
    refine w_aload_n dX12_willing_14 rfl ?_
    refine w_callV (d := d + 5) (S := []) [] dX12_willing_15 ml_X12_263 ok_X12_willingSet vi_X12_willingSet rfl rfl (by decide) rfl (Nat.le_of_ble_eq_true rfl) ?_
    refine c_X12_willingSet (d := d) (gg 17 0) J R hA11_2 hb17 (show 1 ≤ gg 4 0 1 by omega) ?_
    intro A15_3 hA15_3
    show fwWP mX12_willing (d + 6) 18 [some (aR 12 0)] [aI (mGers (gg 4 0 1) (gg 17 0) (gg 4 0 2) (gg 4 0 4) (gg 18 0) (gg 5 0 3).toNat (-1))] (fwUc (fwUc h 42 0 A11_2) 42 0 A15_3) Q
    rw [show (fwUc (fwUc h 42 0 A11_2) 42 0 A15_3) = (fwUc h 42 0 A15_3) from by funext a b; simp only [fwUc]; (repeat' split); all_goals first | rfl | (exfalso; omega)]
    have hwr3 := mGers_r (gg 4 0 1) (gg 17 0) (gg 4 0 2) (gg 4 0 4) (gg 18 0) (m := (gg 5 0 3).toNat) (-1) (by omega)
    exact w_iretE dX12_willing_18 rfl (by unfold an_willing; first | (rw [if_pos (by omega)]; done) | (rw [if_neg (by omega)]; done) | (rw [if_pos (by omega)]; rfl) | (rw [if_neg (by omega)]; rfl)) (k _ (scr_uc (scr_rf hsh) rfl (by decide) (by decide) (by decide)))
  · refine w_bipush dX12_willing_7 rfl ?_
    exact w_iretE dX12_willing_9 rfl (by unfold an_willing; first | (rw [if_pos (by omega)]; done) | (rw [if_neg (by omega)]; done) | (rw [if_pos (by omega)]; rfl) | (rw [if_neg (by omega)]; rfl)) (k _ (scr_rf hsh))

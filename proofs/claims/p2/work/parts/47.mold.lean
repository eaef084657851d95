theorem fwFu_kk (H : Nat → Int) (t : Nat) (k : Int) : fwFu (fwFu H t (H t + k)) t (fwFu H t (H t + k) t - k) = H := by
  funext s
  unfold fwFu
  split
  · rename_i e; subst e; rw [if_pos rfl]; omega
  · rfl
theorem mOH_hb {h : fwH} (J : cOk h) {k : Nat} (hk : k ≤ 50) : hB (mOH h k) := fun c hc => by
  have := mOH_rng (fun c hc => by have := J.2.2.2.1 c hc; omega) hk J.2.2.1.1.2 c hc
  omega
set_option maxRecDepth 100000 in
set_option maxHeartbeats 4000000 in
theorem c_X12_wasDark {d : Nat} {h gg : fwH} {Q : Option fwV → fwH → Prop} (p : Nat) (x y : Int) (J : cOk gg) (R : jF gg h) (hH : hiR (gg 4 0 1) (h 42 0) (gg 17 0)) (hp : p ≤ 50) (hx : 0 ≤ x ∧ x < gg 4 0 1) (hy : y ≠ 0 ∧ -9 ≤ y ∧ y ≤ 9) (k : ∀ A, hiR (gg 4 0 1) A (gg 17 0) → Q (some (aI (fwB (mShadeB (gg 4 0 1) (mOH gg p) x y = true)))) (fwUc h 42 0 A)) : fwCt mX12_wasDark (d + 3) [aR 12 0, aI (p : Int), aI x, aI y] h Q := by
  refine fwCt_of [some (aR 12 0), some (aI (p : Int)), some (aI x), some (aI y), none, none] rfl rfl rfl ?_
  obtain ⟨hl, hP, hG, -, -, -, hlw, -, ha, hs, -, hsc⟩ := id J
  obtain ⟨⟨g1, g2⟩, ⟨g3, g4⟩, ⟨g5, g6⟩, g7, -⟩ := id hG
  have hpz := hP.1
  have hb17 : hB (gg 17 0) := fun c hc => by have := J.2.2.2.1 c hc; omega
  refine w_aload_n dX12_wasDark_0 rfl ?_
  refine w_callV (d := d + 2) (S := []) [] dX12_wasDark_1 ml_X12_200 ok_X12_topCell vi_X12_topCell rfl rfl (by decide) rfl (Nat.le_of_ble_eq_true rfl) ?_
  refine c_X12_topCell (d := (d + 2)) (gg 17 0) J R hH hb17 (show 1 ≤ gg 4 0 1 by omega) ?_
  show fwWP mX12_wasDark (d + 3) 4 [some (aR 12 0), some (aI (p : Int)), some (aI x), some (aI y), none, none] [aI (mTop (gg 17 0) (gg 4 0 4) (gg 4 0 1).toNat)] h Q
  have htp1 := mTop_r2 (gg 17 0) (gg 4 0 4) (gg 4 0 1).toNat (by omega)
  refine w_istore [some (aR 12 0), some (aI (p : Int)), some (aI x), some (aI y), some (aI (mTop (gg 17 0) (gg 4 0 4) (gg 4 0 1).toNat)), none] dX12_wasDark_4 rfl (by decide) ?_
  refine w_aload_n dX12_wasDark_6 rfl ?_
  refine w_getr 42 0 dX12_wasDark_7 fl_X12_34 rfl (by decide) ?_
  refine w_iload dX12_wasDark_10 rfl ?_
  refine w_dup2 dX12_wasDark_12 rfl rfl ?_
  refine w_ialdE (v := (gg 17 0) (mTop (gg 17 0) (gg 4 0 4) (gg 4 0 1).toNat).toNat) dX12_wasDark_13 rfl (by decide) (by omega) (by omega) (hH _ (by omega)) ?_
  refine w_iload_n dX12_wasDark_14 rfl ?_
  refine w_iadd dX12_wasDark_15 ?_
  refine w_iast dX12_wasDark_16 rfl (by decide) (by omega) (by omega) ?_
  rw [show (fwUp h 42 0 (mTop (gg 17 0) (gg 4 0 4) (gg 4 0 1).toNat).toNat (((gg 17 0) (mTop (gg 17 0) (gg 4 0 4) (gg 4 0 1).toNat).toNat) + (p : Int))) = (fwUc h 42 0 (fwFu (h 42 0) (mTop (gg 17 0) (gg 4 0 4) (gg 4 0 1).toNat).toNat (((gg 17 0) (mTop (gg 17 0) (gg 4 0 4) (gg 4 0 1).toNat).toNat) + (p : Int)))) from by rw [fwUp_fu]; try rfl]
  have hA16 : hiR (gg 4 0 1) _ (mOH gg p) := hiR_fu hH (mTop (gg 17 0) (gg 4 0 4) (gg 4 0 1).toNat).toNat (((gg 17 0) (mTop (gg 17 0) (gg 4 0 4) (gg 4 0 1).toNat).toNat) + (p : Int))
  have hb16 := mOH_hb J (k := p) (by omega)
  refine w_aload_n dX12_wasDark_17 rfl ?_
  refine w_iload_n dX12_wasDark_18 rfl ?_
  refine w_iload_n dX12_wasDark_19 rfl ?_
  refine w_callV (d := d + 2) (S := []) [aI x, aI y] dX12_wasDark_20 ml_X12_217 ok_X12_isDark vi_X12_isDark rfl rfl (by decide) rfl (Nat.le_of_ble_eq_true rfl) ?_
  refine c_X12_isDark (d := d) x y (mOH gg p) J R hA16 hb16 (show 0 ≤ x ∧ x < gg 4 0 1 by omega) (by omega) ?_
  show fwWP mX12_wasDark (d + 3) 23 [some (aR 12 0), some (aI (p : Int)), some (aI x), some (aI y), some (aI (mTop (gg 17 0) (gg 4 0 4) (gg 4 0 1).toNat)), none] [aI (fwB (mShadeB (gg 4 0 1) (mOH gg p) x y = true))] (fwUc h 42 0 (fwFu (h 42 0) (mTop (gg 17 0) (gg 4 0 4) (gg 4 0 1).toNat).toNat (((gg 17 0) (mTop (gg 17 0) (gg 4 0 4) (gg 4 0 1).toNat).toNat) + (p : Int)))) Q
  refine w_istore [some (aR 12 0), some (aI (p : Int)), some (aI x), some (aI y), some (aI (mTop (gg 17 0) (gg 4 0 4) (gg 4 0 1).toNat)), some (aI (fwB (mShadeB (gg 4 0 1) (mOH gg p) x y = true)))] dX12_wasDark_23 rfl (by decide) ?_
  refine w_aload_n dX12_wasDark_25 rfl ?_
  refine w_getr 42 0 dX12_wasDark_26 fl_X12_34 rfl (by decide) ?_
  refine w_iload dX12_wasDark_29 rfl ?_
  refine w_dup2 dX12_wasDark_31 rfl rfl ?_
  refine w_ialdE (v := (mOH gg p) (mTop (gg 17 0) (gg 4 0 4) (gg 4 0 1).toNat).toNat) dX12_wasDark_32 rfl (by decide) (by omega) (by omega) (hA16 _ (by omega)) ?_
  refine w_iload_n dX12_wasDark_33 rfl ?_
  refine w_isub dX12_wasDark_34 ?_
  refine w_iast dX12_wasDark_35 rfl (by decide) (by omega) (by omega) ?_
  rw [show (fwUp (fwUc h 42 0 (fwFu (h 42 0) (mTop (gg 17 0) (gg 4 0 4) (gg 4 0 1).toNat).toNat (((gg 17 0) (mTop (gg 17 0) (gg 4 0 4) (gg 4 0 1).toNat).toNat) + (p : Int)))) 42 0 (mTop (gg 17 0) (gg 4 0 4) (gg 4 0 1).toNat).toNat (((mOH gg p) (mTop (gg 17 0) (gg 4 0 4) (gg 4 0 1).toNat).toNat) - (p : Int))) = (fwUc h 42 0 (fwFu (fwFu (h 42 0) (mTop (gg 17 0) (gg 4 0 4) (gg 4 0 1).toNat).toNat (((gg 17 0) (mTop (gg 17 0) (gg 4 0 4) (gg 4 0 1).toNat).toNat) + (p : Int))) (mTop (gg 17 0) (gg 4 0 4) (gg 4 0 1).toNat).toNat (((mOH gg p) (mTop (gg 17 0) (gg 4 0 4) (gg 4 0 1).toNat).toNat) - (p : Int)))) from by rw [fwUp_fu]; rw [fwUc_uc]; rfl]
  have hA35 := hiR_fu hA16 (mTop (gg 17 0) (gg 4 0 4) (gg 4 0 1).toNat).toNat (((mOH gg p) (mTop (gg 17 0) (gg 4 0 4) (gg 4 0 1).toNat).toNat) - (p : Int))
  have e35 : fwFu (mOH gg p) (mTop (gg 17 0) (gg 4 0 4) (gg 4 0 1).toNat).toNat (((mOH gg p) (mTop (gg 17 0) (gg 4 0 4) (gg 4 0 1).toNat).toNat) - (p : Int)) = gg 17 0 := fwFu_kk (gg 17 0) (mTop (gg 17 0) (gg 4 0 4) (gg 4 0 1).toNat).toNat (p : Int)
  rw [e35] at hA35
  refine w_iload dX12_wasDark_36 rfl ?_
  exact w_zret dX12_wasDark_38 rfl (fwB_01 _) (k _ hA35)
set_option maxRecDepth 100000 in
set_option maxHeartbeats 4000000 in
theorem c_X12_asksOld {d : Nat} {h gg : fwH} {Q : Option fwV → fwH → Prop} (x : Int) (J : cOk gg) (R : jF gg h) (K : jA gg h) (S : jS gg h) (hx : -2147483648 ≤ x ∧ x < 2147483648) (k : (¬ mLd gg x → Q (some (aI (mLdR gg x))) h) ∧ (mLd gg x → ∀ A, hiR (gg 4 0 1) A (gg 17 0) → Q (some (aI 0)) (fwUc h 42 0 A))) : fwCt mX12_asksOld (d + 6) [aR 12 0, aI x] h Q := by
  refine fwCt_of [some (aR 12 0), some (aI x), none] rfl rfl rfl ?_
  obtain ⟨hl, hP, hG, hM0, htd, hut, hlw, hhc, ha, hs, hT, hsc⟩ := id J
  have hb17 : hB (gg 17 0) := fun c hc => by have := hM0 c hc; omega
  obtain ⟨⟨g1, g2⟩, ⟨g3, g4⟩, ⟨g5, g6⟩, g7, -⟩ := id hG
  have h17_99 : ∀ c : Nat, (c : Int) < gg 4 0 1 → gg 17 0 c ≤ 99 := fun c hc => (hM0 c (by omega)).2
  have hpz := hP.1
  have hrs1 := R.2.2.2.2.2.2.2.2.2.2.2
  refine w_iload_n dX12_asksOld_0 rfl ?_
  refine w_callS (d := d + 5) (S := []) [aI x] dX12_asksOld_1 ml_X12_357 ok_X12_isSlot st_X12_isSlot rfl (Nat.le_of_ble_eq_true rfl) ?_
  refine c_X12_isSlot (d := (d + 4)) x (by omega) ?_
  show fwWP mX12_asksOld (d + 6) 4 [some (aR 12 0), some (aI x), none] [aI (fwB (0 ≤ x ∧ x ≤ 3))] h Q
  refine w_ifB_eq 14 dX12_asksOld_4 (by decide) (fun c4 => ?_) (fun c4 => ?_)
  · refine w_bipush dX12_asksOld_14 rfl ?_
    exact w_iretE dX12_asksOld_16 rfl (by unfold mLdR; rw [if_neg (by omega)]) (k.1 (fun q0 => by have q1 := q0.1; have q2 := q0.2.1; omega))
  · refine w_aload_n dX12_asksOld_7 rfl ?_
    refine w_callV (d := d + 5) (S := []) [] dX12_asksOld_8 ml_X12_73 ok_X12_isMount vi_X12_isMount rfl rfl (by decide) rfl (Nat.le_of_ble_eq_true rfl) ?_
    refine c_X12_isMount (d := (d + 5)) J R ?_
    show fwWP mX12_asksOld (d + 6) 11 [some (aR 12 0), some (aI x), none] [aI (fwB (0 < gg 3 0 6))] h Q
    refine w_ifB_ne 17 dX12_asksOld_11 (by decide) (fun c11 => ?_) (fun c11 => ?_)
    · obtain ⟨s, rfl⟩ : ∃ s : Nat, x = (s : Int) := ⟨x.toNat, by omega⟩
      have hs35 := (hs s (by omega)).1
      refine w_aload_n dX12_asksOld_17 rfl ?_
      refine w_getr 46 0 dX12_asksOld_18 fl_X12_47 rfl (by decide) ?_
      refine w_iload_n dX12_asksOld_21 rfl ?_
      refine w_ialdE (v := gg 35 0 s) dX12_asksOld_22 rfl (by decide) (by omega) (by omega) (S s (by omega)).1 ?_
      refine w_iconst dX12_asksOld_23 ?_
      refine w_icmp_ne 30 dX12_asksOld_24 (by decide) (by omega) (by omega) (fun c24 => ?_) (fun c24 => ?_)
      · refine w_aload_n dX12_asksOld_30 rfl ?_
        refine w_getr 46 0 dX12_asksOld_31 fl_X12_47 rfl (by decide) ?_
        refine w_iload_n dX12_asksOld_34 rfl ?_
        refine w_ialdE (v := gg 35 0 s) dX12_asksOld_35 rfl (by decide) (by omega) (by omega) (S s (by omega)).1 ?_
        refine w_iconst dX12_asksOld_36 ?_
        have hrm : fwRem (gg 35 0 s) 3 = gg 35 0 s % 3 := fwRem_nn (by omega) (by omega)
        refine w_irem dX12_asksOld_37 (by omega) (by omega) ?_
        rw [hrm]
        refine w_if_eq 44 dX12_asksOld_38 (by decide) (by omega) (fun c38 => ?_) (fun c38 => ?_)
        · refine w_iconst dX12_asksOld_44 ?_
          refine w_istore_n [some (aR 12 0), some (aI (s : Int)), some (aI 0)] dX12_asksOld_45 rfl (by decide) ?_
          have lp46 : ∀ c : Nat, c ≤ (gg 35 0 s / 3).toNat → ∀ (y46  : Int), y46 = 3 * (c : Int) → (mAll (mSiP (gg 33 s) (gg 4 0 1)) c = true) → fwWP mX12_asksOld (d + 6) 46 [some (aR 12 0), some (aI (s : Int)), some (aI y46)] [] h Q := by
            refine fw_up (fun c hc46 ih46 => ?_)
            intro y46  ey46 iv46_0
            subst ey46
            show fwWP mX12_asksOld (d + 6) 46 [some (aR 12 0), some (aI (s : Int)), some (aI (3 * (c : Int)))] [] h Q
            refine w_iload_n dX12_asksOld_46 rfl ?_
            refine w_aload_n dX12_asksOld_47 rfl ?_
            refine w_getr 46 0 dX12_asksOld_48 fl_X12_47 rfl (by decide) ?_
            refine w_iload_n dX12_asksOld_51 rfl ?_
            refine w_ialdE (v := gg 35 0 s) dX12_asksOld_52 rfl (by decide) (by omega) (by omega) (S s (by omega)).1 ?_
            refine w_icmp_ge 108 dX12_asksOld_53 (by decide) (by omega) (by omega) (fun c53 => ?_) (fun c53 => ?_)
            · have ec46 : (gg 35 0 s / 3).toNat = c := by omega
              subst ec46
              refine w_aload_n dX12_asksOld_108 rfl ?_
              refine w_callV (d := d + 5) (S := []) [] dX12_asksOld_109 ml_X12_240 ok_X12_asItIs vi_X12_asItIs rfl rfl (by decide) rfl (Nat.le_of_ble_eq_true rfl) ?_
              refine c_X12_asItIs (d := d) J R K (show 1 ≤ gg 4 0 1 by omega) (show 1 ≤ gg 4 0 3 by omega) ?_
              intro A109_6 hA109_6
              show fwWP mX12_asksOld (d + 6) 112 [some (aR 12 0), some (aI (s : Int)), some (aI (3 * (((gg 35 0 s / 3).toNat : Nat) : Int)))] [] (fwUc h 42 0 A109_6) Q
              refine w_iconst dX12_asksOld_112 ?_
              exact w_iret dX12_asksOld_113 rfl (k.2 ⟨by omega, by omega, c24, by show gg 35 0 s % 3 = 0; omega, iv46_0⟩ _ hA109_6)
            · refine w_aload_n dX12_asksOld_56 rfl ?_
              refine w_aload_n dX12_asksOld_57 rfl ?_
              refine w_iload_n dX12_asksOld_58 rfl ?_
              refine w_iload_n dX12_asksOld_59 rfl ?_
              refine w_callV (d := d + 5) (S := [aR 12 0]) [aI (s : Int), aI (3 * (c : Int))] dX12_asksOld_60 ml_X12_360 ok_X12_numberAt vi_X12_numberAt rfl rfl (by decide) rfl (Nat.le_of_ble_eq_true rfl) ?_
              refine c_naE (d := (d + 5)) s (3 * c) (s : Int) (3 * (c : Int)) S (by omega) (by omega) (by omega) (by omega) ?_
              show fwWP mX12_asksOld (d + 6) 63 [some (aR 12 0), some (aI (s : Int)), some (aI (3 * (c : Int)))] [aJ (gg 33 s (3 * c)), aR 12 0] h Q
              have hl7 := (hs s (by omega)).2.2 (3 * c) (by omega)
              refine w_callV (d := d + 5) (S := []) [aJ (gg 33 s (3 * c))] dX12_asksOld_63 ml_X12_203 ok_X12_isCell vi_X12_isCell rfl rfl (by decide) rfl (Nat.le_of_ble_eq_true rfl) ?_
              refine c_X12_isCell (d := (d + 4)) (gg 33 s (3 * c)) J R (by omega) ?_
              show fwWP mX12_asksOld (d + 6) 66 [some (aR 12 0), some (aI (s : Int)), some (aI (3 * (c : Int)))] [aI (fwB (0 ≤ (gg 33 s (3 * c)) ∧ (gg 33 s (3 * c)) ≤ gg 4 0 1 - 1))] h Q
              refine w_ifB_eq 99 dX12_asksOld_66 (by decide) (fun c66 => ?_) (fun c66 => ?_)
              · refine w_bipush dX12_asksOld_99 rfl ?_
                exact w_iretE dX12_asksOld_101 rfl (by unfold mLdR; rw [if_neg (fun q0 => c24 q0.2.2)]) (k.1 (fun q0 => by have q9 : mAll (mSiP (gg 33 s) (gg 4 0 1)) (gg 35 0 s / 3).toNat = true := q0.2.2.2.2; have q1 := of_decide_eq_true ((mAll_iff _ _).mp q9 c (by omega)); omega))
              · refine w_aload_n dX12_asksOld_69 rfl ?_
                refine w_iload_n dX12_asksOld_70 rfl ?_
                refine w_iload_n dX12_asksOld_71 rfl ?_
                refine w_iconst dX12_asksOld_72 ?_
                refine w_iadd dX12_asksOld_73 ?_
                refine w_callV (d := d + 5) (S := []) [aI (s : Int), aI ((3 * (c : Int)) + 1)] dX12_asksOld_74 ml_X12_360 ok_X12_numberAt vi_X12_numberAt rfl rfl (by decide) rfl (Nat.le_of_ble_eq_true rfl) ?_
                refine c_naE (d := (d + 5)) s ((3 * c) + 1) (s : Int) ((3 * (c : Int)) + 1) S (by omega) (by omega) (by omega) (by omega) ?_
                show fwWP mX12_asksOld (d + 6) 77 [some (aR 12 0), some (aI (s : Int)), some (aI (3 * (c : Int)))] [aJ (gg 33 s ((3 * c) + 1))] h Q
                have hl9 := (hs s (by omega)).2.2 ((3 * c) + 1) (by omega)
                refine w_callS (d := d + 5) (S := []) [aJ (gg 33 s ((3 * c) + 1))] dX12_asksOld_77 ml_X12_243 ok_X12_isHour st_X12_isHour rfl (Nat.le_of_ble_eq_true rfl) ?_
                refine c_X12_isHour (d := (d + 4)) (gg 33 s ((3 * c) + 1)) (by omega) ?_
                show fwWP mX12_asksOld (d + 6) 80 [some (aR 12 0), some (aI (s : Int)), some (aI (3 * (c : Int)))] [aI (fwB ((gg 33 s ((3 * c) + 1)) ≠ 0 ∧ -9 ≤ (gg 33 s ((3 * c) + 1)) ∧ (gg 33 s ((3 * c) + 1)) ≤ 9))] h Q
                refine w_ifB_eq 99 dX12_asksOld_80 (by decide) (fun c80 => ?_) (fun c80 => ?_)
                · refine w_bipush dX12_asksOld_99 rfl ?_
                  exact w_iretE dX12_asksOld_101 rfl (by unfold mLdR; rw [if_neg (fun q0 => c24 q0.2.2)]) (k.1 (fun q0 => by have q9 : mAll (mSiP (gg 33 s) (gg 4 0 1)) (gg 35 0 s / 3).toNat = true := q0.2.2.2.2; have q1 := of_decide_eq_true ((mAll_iff _ _).mp q9 c (by omega)); omega))
                · refine w_aload_n dX12_asksOld_83 rfl ?_
                  refine w_iload_n dX12_asksOld_84 rfl ?_
                  refine w_iload_n dX12_asksOld_85 rfl ?_
                  refine w_iconst dX12_asksOld_86 ?_
                  refine w_iadd dX12_asksOld_87 ?_
                  refine w_callV (d := d + 5) (S := []) [aI (s : Int), aI ((3 * (c : Int)) + 2)] dX12_asksOld_88 ml_X12_360 ok_X12_numberAt vi_X12_numberAt rfl rfl (by decide) rfl (Nat.le_of_ble_eq_true rfl) ?_
                  refine c_naE (d := (d + 5)) s ((3 * c) + 2) (s : Int) ((3 * (c : Int)) + 2) S (by omega) (by omega) (by omega) (by omega) ?_
                  show fwWP mX12_asksOld (d + 6) 91 [some (aR 12 0), some (aI (s : Int)), some (aI (3 * (c : Int)))] [aJ (gg 33 s ((3 * c) + 2))] h Q
                  have hl11 := (hs s (by omega)).2.2 ((3 * c) + 2) (by omega)
                  refine w_lconst (z := 0) dX12_asksOld_91 rfl ?_
                  refine w_lconst (z := 1) dX12_asksOld_92 rfl ?_
                  refine w_callS (d := d + 5) (S := []) [aJ (gg 33 s ((3 * c) + 2)), aJ 0, aJ 1] dX12_asksOld_93 ml_X12_65 ok_X12_in st_X12_in rfl (Nat.le_of_ble_eq_true rfl) ?_
                  refine c_X12_in (d := (d + 5)) (gg 33 s ((3 * c) + 2)) 0 1 (by omega) (by omega) (by omega) ?_
                  show fwWP mX12_asksOld (d + 6) 96 [some (aR 12 0), some (aI (s : Int)), some (aI (3 * (c : Int)))] [aI (fwB (0 ≤ (gg 33 s ((3 * c) + 2)) ∧ (gg 33 s ((3 * c) + 2)) ≤ 1))] h Q
                  refine w_ifB_ne 102 dX12_asksOld_96 (by decide) (fun c96 => ?_) (fun c96 => ?_)
                  · refine w_iinc [some (aR 12 0), some (aI (s : Int)), some (aI ((3 * (c : Int)) + 3))] dX12_asksOld_102 rfl rfl (by decide) ?_
                    refine w_goto 46 dX12_asksOld_105 (by decide) ?_
                    refine ih46 (by omega) _ ?_ ?_
                    · exact (by omega)
                    · exact (by rw [mAll, iv46_0, Bool.true_and]; exact decide_eq_true (by omega))
                  · refine w_bipush dX12_asksOld_99 rfl ?_
                    exact w_iretE dX12_asksOld_101 rfl (by unfold mLdR; rw [if_neg (fun q0 => c24 q0.2.2)]) (k.1 (fun q0 => by have q9 : mAll (mSiP (gg 33 s) (gg 4 0 1)) (gg 35 0 s / 3).toNat = true := q0.2.2.2.2; have q1 := of_decide_eq_true ((mAll_iff _ _).mp q9 c (by omega)); omega))
          refine lp46 0 (Nat.zero_le _) _ ?_ ?_
          · exact (by omega)
          · exact rfl
        · refine w_bipush dX12_asksOld_41 rfl ?_
          exact w_iretE dX12_asksOld_43 rfl (by unfold mLdR; rw [if_neg (fun q0 => c24 q0.2.2)]) (k.1 (fun q0 => by have q1 : gg 35 0 s % 3 = 0 := q0.2.2.2.1; omega))
      · refine w_bipush dX12_asksOld_27 rfl ?_
        exact w_iretE dX12_asksOld_29 rfl (by unfold mLdR; rw [if_pos ⟨by omega, by omega, c24⟩]) (k.1 (fun q0 => q0.2.2.1 c24))
    · refine w_bipush dX12_asksOld_14 rfl ?_
      exact w_iretE dX12_asksOld_16 rfl (by unfold mLdR; rw [if_neg (by omega)]) (k.1 (fun q0 => by have q1 := q0.1; have q2 := q0.2.1; omega))

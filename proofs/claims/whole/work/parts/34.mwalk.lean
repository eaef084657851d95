set_option maxRecDepth 100000 in
set_option maxHeartbeats 4000000 in
theorem c_X12_raisers {d : Nat} {h : fwH} {Q : Option fwV → fwH → Prop}  (J : cOk h) (R : jF h) (K : jA h)  (k : ∀ g, scr h g → Q (some (aI (an_raisers h ))) g) : fwCt mX12_raisers (d + 6) [aR 12 0] h Q := by
  refine fwCt_of [some (aR 12 0), none, none, none, none] rfl rfl rfl ?_
  obtain ⟨hl, hP, hG, hM0, htd, hut, hlw, hhc, ha, hs, hT, hsc⟩ := id J
  have hb17 : hB (h 17 0) := fun c hc => by have := hM0 c hc; omega
  obtain ⟨⟨g1, g2⟩, ⟨g3, g4⟩, ⟨g5, g6⟩, g7, -⟩ := id hG
  have h17_99 : ∀ c : Nat, (c : Int) < h 4 0 1 → h 17 0 c ≤ 99 := fun c hc => (hM0 c (by omega)).2
  have hpz := hP.1
  have hrs1 := R.2.2.2.2.2.2.2.2.2.2.2
  refine w_aload_n dX12_raisers_0 rfl ?_
  refine w_callV (d := d + 5) (S := []) [] dX12_raisers_1 ml_X12_73 ok_X12_isMount vi_X12_isMount rfl rfl (by decide) rfl (Nat.le_of_ble_eq_true rfl) ?_
  refine c_X12_isMount (d := (d + 5)) J R ?_
  show fwWP mX12_raisers (d + 6) 4 [some (aR 12 0), none, none, none, none] [aI (fwB (0 < h 3 0 6))] h Q
  refine w_ifB_ne 10 dX12_raisers_4 (by decide) (fun c4 => ?_) (fun c4 => ?_)
  · refine w_aload_n dX12_raisers_10 rfl ?_
    refine w_callV (d := d + 5) (S := []) [] dX12_raisers_11 ml_X12_240 ok_X12_asItIs vi_X12_asItIs rfl rfl (by decide) rfl (Nat.le_of_ble_eq_true rfl) ?_
    refine c_X12_asItIs (d := d) J R K (show 1 ≤ h 4 0 1 by omega) (show 1 ≤ h 4 0 3 by omega) ?_
    intro A11_2 hA11_2
    show fwWP mX12_raisers (d + 6) 14 [some (aR 12 0), none, none, none, none] [] (fwUc h 42 0 A11_2) Q
    refine w_aload_n dX12_raisers_14 rfl ?_
    refine w_callV (d := d + 5) (S := []) [] dX12_raisers_15 ml_X12_200 ok_X12_topCell vi_X12_topCell rfl rfl (by decide) rfl (Nat.le_of_ble_eq_true rfl) ?_
    refine c_X12_topCell (d := (d + 5)) (h 17 0) J R hA11_2 hb17 (show 1 ≤ h 4 0 1 by omega) ?_
    show fwWP mX12_raisers (d + 6) 18 [some (aR 12 0), none, none, none, none] [aI (mTop (h 17 0) (h 4 0 4) (h 4 0 1).toNat)] (fwUc h 42 0 A11_2) Q
    have htp3 := mTop_r2 (h 17 0) (h 4 0 4) (h 4 0 1).toNat (by omega)
    refine w_istore_n [some (aR 12 0), some (aI (mTop (h 17 0) (h 4 0 4) (h 4 0 1).toNat)), none, none, none] dX12_raisers_18 rfl (by decide) ?_
    have hbt := hM0 (mTop (h 17 0) (h 4 0 4) (h 4 0 1).toNat).toNat (by omega)
    refine w_iconst dX12_raisers_19 ?_
    refine w_istore_n [some (aR 12 0), some (aI (mTop (h 17 0) (h 4 0 4) (h 4 0 1).toNat)), some (aI 0), none, none] dX12_raisers_20 rfl (by decide) ?_
    refine w_iconst dX12_raisers_21 ?_
    refine w_istore_n [some (aR 12 0), some (aI (mTop (h 17 0) (h 4 0 4) (h 4 0 1).toNat)), some (aI 0), some (aI 0), none] dX12_raisers_22 rfl (by decide) ?_
    have lp23 : ∀ c : Nat, c ≤ (h 5 0 3).toNat → ∀ (y23 se : Int) (A23 : Nat → Int), y23 = (c : Int) → se = mBits (fun f => decide (mGain (h 4 0 1) (h 17 0) (h 4 0 2) (h 18 0) f < mGain (h 4 0 1) (fwFu (h 17 0) (mTop (h 17 0) (h 4 0 4) (h 4 0 1).toNat).toNat (h 17 0 (mTop (h 17 0) (h 4 0 4) (h 4 0 1).toNat).toNat + 1)) (h 4 0 2) (h 18 0) f)) c → hiR (h 4 0 1) A23 (h 17 0) → fwWP mX12_raisers (d + 6) 23 [some (aR 12 0), some (aI (mTop (h 17 0) (h 4 0 4) (h 4 0 1).toNat)), some (aI se), some (aI y23), none] [] (fwUc h 42 0 A23) Q := by
      refine fw_up (fun c hc23 ih23 => ?_)
      intro y23 se A23 ey23 e_se hA23
      subst ey23
      subst e_se
      show fwWP mX12_raisers (d + 6) 23 [some (aR 12 0), some (aI (mTop (h 17 0) (h 4 0 4) (h 4 0 1).toNat)), some (aI (mBits (fun f => decide (mGain (h 4 0 1) (h 17 0) (h 4 0 2) (h 18 0) f < mGain (h 4 0 1) (fwFu (h 17 0) (mTop (h 17 0) (h 4 0 4) (h 4 0 1).toNat).toNat (h 17 0 (mTop (h 17 0) (h 4 0 4) (h 4 0 1).toNat).toNat + 1)) (h 4 0 2) (h 18 0) f)) c)), some (aI (c : Int)), none] [] (fwUc h 42 0 A23) Q
      refine w_iload_n dX12_raisers_23 rfl ?_
      refine w_aload_n dX12_raisers_24 rfl ?_
      refine w_getr 36 0 dX12_raisers_25 fl_X12_9 rfl (by decide) ?_
      refine w_bipush dX12_raisers_28 rfl ?_
      refine w_ialdE (v := h 5 0 3) dX12_raisers_30 rfl (by decide) (by omega) (by omega) R.2.2.2.2.2.2.1 ?_
      refine w_icmp_ge 87 dX12_raisers_31 (by decide) (by omega) (by omega) (fun c31 => ?_) (fun c31 => ?_)
      · have ec23 : (h 5 0 3).toNat = c := by omega
        subst ec23
        refine w_iload_n dX12_raisers_87 rfl ?_
        exact w_iretE dX12_raisers_88 rfl (by unfold an_raisers; first | (rw [if_neg (by omega)]; done) | (rw [if_pos (by omega), mGers, if_neg (by omega)]; done) | (rw [if_pos (by omega), mGers, if_neg (by have := hM0 (mTop (h 17 0) (h 4 0 4) (h 4 0 1).toNat).toNat (by omega); omega)]; done)) (k _ (scr_uc (scr_rf hsc) rfl (by decide) (by decide) (by decide)))
      · refine w_aload_n dX12_raisers_34 rfl ?_
        refine w_iload_n dX12_raisers_35 rfl ?_
        refine w_callV (d := d + 5) (S := []) [aI (c : Int)] dX12_raisers_36 ml_X12_232 ok_X12_gainOf vi_X12_gainOf rfl rfl (by decide) rfl (Nat.le_of_ble_eq_true rfl) ?_
        refine c_X12_gainOf (d := (d + 1)) c (h 17 0) J R hA23 hb17 (show 1 ≤ h 4 0 1 by omega) (show (c : Int) < h 5 0 3 by omega) ?_
        show fwWP mX12_raisers (d + 6) 39 [some (aR 12 0), some (aI (mTop (h 17 0) (h 4 0 4) (h 4 0 1).toNat)), some (aI (mBits (fun f => decide (mGain (h 4 0 1) (h 17 0) (h 4 0 2) (h 18 0) f < mGain (h 4 0 1) (fwFu (h 17 0) (mTop (h 17 0) (h 4 0 4) (h 4 0 1).toNat).toNat (h 17 0 (mTop (h 17 0) (h 4 0 4) (h 4 0 1).toNat).toNat + 1)) (h 4 0 2) (h 18 0) f)) c)), some (aI (c : Int)), none] [aI (mGain (h 4 0 1) (h 17 0) (h 4 0 2) (h 18 0) c)] (fwUc h 42 0 A23) Q
        have hgr5 := mGain_r2 J hb17 c (by omega)
        refine w_istore [some (aR 12 0), some (aI (mTop (h 17 0) (h 4 0 4) (h 4 0 1).toNat)), some (aI (mBits (fun f => decide (mGain (h 4 0 1) (h 17 0) (h 4 0 2) (h 18 0) f < mGain (h 4 0 1) (fwFu (h 17 0) (mTop (h 17 0) (h 4 0 4) (h 4 0 1).toNat).toNat (h 17 0 (mTop (h 17 0) (h 4 0 4) (h 4 0 1).toNat).toNat + 1)) (h 4 0 2) (h 18 0) f)) c)), some (aI (c : Int)), some (aI (mGain (h 4 0 1) (h 17 0) (h 4 0 2) (h 18 0) c))] dX12_raisers_39 rfl (by decide) ?_
        refine w_aload_n dX12_raisers_41 rfl ?_
        refine w_getr 42 0 dX12_raisers_42 fl_X12_34 rfl (by decide) ?_
        refine w_iload_n dX12_raisers_45 rfl ?_
        refine w_dup2 dX12_raisers_46 rfl rfl ?_
        refine w_ialdE (v := (h 17 0) (mTop (h 17 0) (h 4 0 4) (h 4 0 1).toNat).toNat) dX12_raisers_47 rfl (by decide) (by omega) (by omega) (hA23 _ (by omega)) ?_
        refine w_iconst dX12_raisers_48 ?_
        refine w_iadd dX12_raisers_49 ?_
        refine w_iast dX12_raisers_50 rfl (by decide) (by omega) (by omega) ?_
        rw [show (fwUp (fwUc h 42 0 A23) 42 0 (mTop (h 17 0) (h 4 0 4) (h 4 0 1).toNat).toNat (((h 17 0) (mTop (h 17 0) (h 4 0 4) (h 4 0 1).toNat).toNat) + 1)) = (fwUc h 42 0 (fwFu A23 (mTop (h 17 0) (h 4 0 4) (h 4 0 1).toNat).toNat (((h 17 0) (mTop (h 17 0) (h 4 0 4) (h 4 0 1).toNat).toNat) + 1))) from by rw [fwUp_fu]; rw [fwUc_uc]; rfl]
        have hA50 := hiR_fu hA23 (mTop (h 17 0) (h 4 0 4) (h 4 0 1).toNat).toNat (((h 17 0) (mTop (h 17 0) (h 4 0 4) (h 4 0 1).toNat).toNat) + 1)
        have hb50 : hB (fwFu (h 17 0) (mTop (h 17 0) (h 4 0 4) (h 4 0 1).toNat).toNat (((h 17 0) (mTop (h 17 0) (h 4 0 4) (h 4 0 1).toNat).toNat) + 1)) := hB_fu hb17 (by omega)
        refine w_iload_n dX12_raisers_51 rfl ?_
        refine w_aload_n dX12_raisers_52 rfl ?_
        refine w_iload_n dX12_raisers_53 rfl ?_
        refine w_callV (d := d + 5) (S := [aI (mBits (fun f => decide (mGain (h 4 0 1) (h 17 0) (h 4 0 2) (h 18 0) f < mGain (h 4 0 1) (fwFu (h 17 0) (mTop (h 17 0) (h 4 0 4) (h 4 0 1).toNat).toNat (h 17 0 (mTop (h 17 0) (h 4 0 4) (h 4 0 1).toNat).toNat + 1)) (h 4 0 2) (h 18 0) f)) c)]) [aI (c : Int)] dX12_raisers_54 ml_X12_232 ok_X12_gainOf vi_X12_gainOf rfl rfl (by decide) rfl (Nat.le_of_ble_eq_true rfl) ?_
        refine c_X12_gainOf (d := (d + 1)) c (fwFu (h 17 0) (mTop (h 17 0) (h 4 0 4) (h 4 0 1).toNat).toNat (((h 17 0) (mTop (h 17 0) (h 4 0 4) (h 4 0 1).toNat).toNat) + 1)) J R hA50 hb50 (show 1 ≤ h 4 0 1 by omega) (show (c : Int) < h 5 0 3 by omega) ?_
        show fwWP mX12_raisers (d + 6) 57 [some (aR 12 0), some (aI (mTop (h 17 0) (h 4 0 4) (h 4 0 1).toNat)), some (aI (mBits (fun f => decide (mGain (h 4 0 1) (h 17 0) (h 4 0 2) (h 18 0) f < mGain (h 4 0 1) (fwFu (h 17 0) (mTop (h 17 0) (h 4 0 4) (h 4 0 1).toNat).toNat (h 17 0 (mTop (h 17 0) (h 4 0 4) (h 4 0 1).toNat).toNat + 1)) (h 4 0 2) (h 18 0) f)) c)), some (aI (c : Int)), some (aI (mGain (h 4 0 1) (h 17 0) (h 4 0 2) (h 18 0) c))] [aI (mGain (h 4 0 1) (fwFu (h 17 0) (mTop (h 17 0) (h 4 0 4) (h 4 0 1).toNat).toNat (((h 17 0) (mTop (h 17 0) (h 4 0 4) (h 4 0 1).toNat).toNat) + 1)) (h 4 0 2) (h 18 0) c), aI (mBits (fun f => decide (mGain (h 4 0 1) (h 17 0) (h 4 0 2) (h 18 0) f < mGain (h 4 0 1) (fwFu (h 17 0) (mTop (h 17 0) (h 4 0 4) (h 4 0 1).toNat).toNat (h 17 0 (mTop (h 17 0) (h 4 0 4) (h 4 0 1).toNat).toNat + 1)) (h 4 0 2) (h 18 0) f)) c)] (fwUc h 42 0 (fwFu A23 (mTop (h 17 0) (h 4 0 4) (h 4 0 1).toNat).toNat (((h 17 0) (mTop (h 17 0) (h 4 0 4) (h 4 0 1).toNat).toNat) + 1))) Q
        have hgr6 := mGain_r2 J hb50 c (by omega)
        refine w_iload dX12_raisers_57 rfl ?_
        refine w_icmp_le 68 dX12_raisers_59 (by decide) (by omega) (by omega) (fun c59 => ?_) (fun c59 => ?_)
        · refine w_iconst dX12_raisers_68 ?_
          refine w_ior dX12_raisers_69 ?_
          refine w_istore_n [some (aR 12 0), some (aI (mTop (h 17 0) (h 4 0 4) (h 4 0 1).toNat)), some (aI (fwOr (mBits (fun f => decide (mGain (h 4 0 1) (h 17 0) (h 4 0 2) (h 18 0) f < mGain (h 4 0 1) (fwFu (h 17 0) (mTop (h 17 0) (h 4 0 4) (h 4 0 1).toNat).toNat (h 17 0 (mTop (h 17 0) (h 4 0 4) (h 4 0 1).toNat).toNat + 1)) (h 4 0 2) (h 18 0) f)) c) 0)), some (aI (c : Int)), some (aI (mGain (h 4 0 1) (h 17 0) (h 4 0 2) (h 18 0) c))] dX12_raisers_70 rfl (by decide) ?_
          refine w_aload_n dX12_raisers_71 rfl ?_
          refine w_getr 42 0 dX12_raisers_72 fl_X12_34 rfl (by decide) ?_
          refine w_iload_n dX12_raisers_75 rfl ?_
          refine w_dup2 dX12_raisers_76 rfl rfl ?_
          refine w_ialdE (v := (fwFu (h 17 0) (mTop (h 17 0) (h 4 0 4) (h 4 0 1).toNat).toNat (((h 17 0) (mTop (h 17 0) (h 4 0 4) (h 4 0 1).toNat).toNat) + 1)) (mTop (h 17 0) (h 4 0 4) (h 4 0 1).toNat).toNat) dX12_raisers_77 rfl (by decide) (by omega) (by omega) (hA50 _ (by omega)) ?_
          refine w_iconst dX12_raisers_78 ?_
          refine w_isub dX12_raisers_79 ?_
          refine w_iast dX12_raisers_80 rfl (by decide) (by omega) (by omega) ?_
          rw [show (fwUp (fwUc h 42 0 (fwFu A23 (mTop (h 17 0) (h 4 0 4) (h 4 0 1).toNat).toNat (((h 17 0) (mTop (h 17 0) (h 4 0 4) (h 4 0 1).toNat).toNat) + 1))) 42 0 (mTop (h 17 0) (h 4 0 4) (h 4 0 1).toNat).toNat (((fwFu (h 17 0) (mTop (h 17 0) (h 4 0 4) (h 4 0 1).toNat).toNat (((h 17 0) (mTop (h 17 0) (h 4 0 4) (h 4 0 1).toNat).toNat) + 1)) (mTop (h 17 0) (h 4 0 4) (h 4 0 1).toNat).toNat) - 1)) = (fwUc h 42 0 (fwFu (fwFu A23 (mTop (h 17 0) (h 4 0 4) (h 4 0 1).toNat).toNat (((h 17 0) (mTop (h 17 0) (h 4 0 4) (h 4 0 1).toNat).toNat) + 1)) (mTop (h 17 0) (h 4 0 4) (h 4 0 1).toNat).toNat (((fwFu (h 17 0) (mTop (h 17 0) (h 4 0 4) (h 4 0 1).toNat).toNat (((h 17 0) (mTop (h 17 0) (h 4 0 4) (h 4 0 1).toNat).toNat) + 1)) (mTop (h 17 0) (h 4 0 4) (h 4 0 1).toNat).toNat) - 1))) from by rw [fwUp_fu]; rw [fwUc_uc]; rfl]
          have hA80 := hiR_fu hA50 (mTop (h 17 0) (h 4 0 4) (h 4 0 1).toNat).toNat (((fwFu (h 17 0) (mTop (h 17 0) (h 4 0 4) (h 4 0 1).toNat).toNat (((h 17 0) (mTop (h 17 0) (h 4 0 4) (h 4 0 1).toNat).toNat) + 1)) (mTop (h 17 0) (h 4 0 4) (h 4 0 1).toNat).toNat) - 1)
          rw [fwFu_pm] at hA80
          refine w_iinc [some (aR 12 0), some (aI (mTop (h 17 0) (h 4 0 4) (h 4 0 1).toNat)), some (aI (fwOr (mBits (fun f => decide (mGain (h 4 0 1) (h 17 0) (h 4 0 2) (h 18 0) f < mGain (h 4 0 1) (fwFu (h 17 0) (mTop (h 17 0) (h 4 0 4) (h 4 0 1).toNat).toNat (h 17 0 (mTop (h 17 0) (h 4 0 4) (h 4 0 1).toNat).toNat + 1)) (h 4 0 2) (h 18 0) f)) c) 0)), some (aI ((c : Int) + 1)), some (aI (mGain (h 4 0 1) (h 17 0) (h 4 0 2) (h 18 0) c))] dX12_raisers_81 rfl rfl (by decide) ?_
          refine w_goto 23 dX12_raisers_84 (by decide) ?_
          refine w_drop [4] [some (aR 12 0), some (aI (mTop (h 17 0) (h 4 0 4) (h 4 0 1).toNat)), some (aI (fwOr (mBits (fun f => decide (mGain (h 4 0 1) (h 17 0) (h 4 0 2) (h 18 0) f < mGain (h 4 0 1) (fwFu (h 17 0) (mTop (h 17 0) (h 4 0 4) (h 4 0 1).toNat).toNat (h 17 0 (mTop (h 17 0) (h 4 0 4) (h 4 0 1).toNat).toNat + 1)) (h 4 0 2) (h 18 0) f)) c) 0)), some (aI ((c : Int) + 1)), none] rfl ?_
          refine ih23 (by omega) _ _ _ ?_ ?_ ?_
          · exact (by omega)
          · exact (by rw [mBits, if_neg (by rw [decide_eq_true_eq]; omega), fwOr_0 (mBits_rng _ _)])
          · exact hA80
        · refine w_iconst dX12_raisers_62 ?_
          refine w_iload_n dX12_raisers_63 rfl ?_
          refine w_ishl dX12_raisers_64 ?_
          refine w_goto 69 dX12_raisers_65 (by decide) ?_
          refine w_ior dX12_raisers_69 ?_
          refine w_istore_n [some (aR 12 0), some (aI (mTop (h 17 0) (h 4 0 4) (h 4 0 1).toNat)), some (aI (fwOr (mBits (fun f => decide (mGain (h 4 0 1) (h 17 0) (h 4 0 2) (h 18 0) f < mGain (h 4 0 1) (fwFu (h 17 0) (mTop (h 17 0) (h 4 0 4) (h 4 0 1).toNat).toNat (h 17 0 (mTop (h 17 0) (h 4 0 4) (h 4 0 1).toNat).toNat + 1)) (h 4 0 2) (h 18 0) f)) c) (fwShl 1 (c : Int)))), some (aI (c : Int)), some (aI (mGain (h 4 0 1) (h 17 0) (h 4 0 2) (h 18 0) c))] dX12_raisers_70 rfl (by decide) ?_
          refine w_aload_n dX12_raisers_71 rfl ?_
          refine w_getr 42 0 dX12_raisers_72 fl_X12_34 rfl (by decide) ?_
          refine w_iload_n dX12_raisers_75 rfl ?_
          refine w_dup2 dX12_raisers_76 rfl rfl ?_
          refine w_ialdE (v := (fwFu (h 17 0) (mTop (h 17 0) (h 4 0 4) (h 4 0 1).toNat).toNat (((h 17 0) (mTop (h 17 0) (h 4 0 4) (h 4 0 1).toNat).toNat) + 1)) (mTop (h 17 0) (h 4 0 4) (h 4 0 1).toNat).toNat) dX12_raisers_77 rfl (by decide) (by omega) (by omega) (hA50 _ (by omega)) ?_
          refine w_iconst dX12_raisers_78 ?_
          refine w_isub dX12_raisers_79 ?_
          refine w_iast dX12_raisers_80 rfl (by decide) (by omega) (by omega) ?_
          rw [show (fwUp (fwUc h 42 0 (fwFu A23 (mTop (h 17 0) (h 4 0 4) (h 4 0 1).toNat).toNat (((h 17 0) (mTop (h 17 0) (h 4 0 4) (h 4 0 1).toNat).toNat) + 1))) 42 0 (mTop (h 17 0) (h 4 0 4) (h 4 0 1).toNat).toNat (((fwFu (h 17 0) (mTop (h 17 0) (h 4 0 4) (h 4 0 1).toNat).toNat (((h 17 0) (mTop (h 17 0) (h 4 0 4) (h 4 0 1).toNat).toNat) + 1)) (mTop (h 17 0) (h 4 0 4) (h 4 0 1).toNat).toNat) - 1)) = (fwUc h 42 0 (fwFu (fwFu A23 (mTop (h 17 0) (h 4 0 4) (h 4 0 1).toNat).toNat (((h 17 0) (mTop (h 17 0) (h 4 0 4) (h 4 0 1).toNat).toNat) + 1)) (mTop (h 17 0) (h 4 0 4) (h 4 0 1).toNat).toNat (((fwFu (h 17 0) (mTop (h 17 0) (h 4 0 4) (h 4 0 1).toNat).toNat (((h 17 0) (mTop (h 17 0) (h 4 0 4) (h 4 0 1).toNat).toNat) + 1)) (mTop (h 17 0) (h 4 0 4) (h 4 0 1).toNat).toNat) - 1))) from by rw [fwUp_fu]; rw [fwUc_uc]; rfl]
          have hA80 := hiR_fu hA50 (mTop (h 17 0) (h 4 0 4) (h 4 0 1).toNat).toNat (((fwFu (h 17 0) (mTop (h 17 0) (h 4 0 4) (h 4 0 1).toNat).toNat (((h 17 0) (mTop (h 17 0) (h 4 0 4) (h 4 0 1).toNat).toNat) + 1)) (mTop (h 17 0) (h 4 0 4) (h 4 0 1).toNat).toNat) - 1)
          rw [fwFu_pm] at hA80
          refine w_iinc [some (aR 12 0), some (aI (mTop (h 17 0) (h 4 0 4) (h 4 0 1).toNat)), some (aI (fwOr (mBits (fun f => decide (mGain (h 4 0 1) (h 17 0) (h 4 0 2) (h 18 0) f < mGain (h 4 0 1) (fwFu (h 17 0) (mTop (h 17 0) (h 4 0 4) (h 4 0 1).toNat).toNat (h 17 0 (mTop (h 17 0) (h 4 0 4) (h 4 0 1).toNat).toNat + 1)) (h 4 0 2) (h 18 0) f)) c) (fwShl 1 (c : Int)))), some (aI ((c : Int) + 1)), some (aI (mGain (h 4 0 1) (h 17 0) (h 4 0 2) (h 18 0) c))] dX12_raisers_81 rfl rfl (by decide) ?_
          refine w_goto 23 dX12_raisers_84 (by decide) ?_
          refine w_drop [4] [some (aR 12 0), some (aI (mTop (h 17 0) (h 4 0 4) (h 4 0 1).toNat)), some (aI (fwOr (mBits (fun f => decide (mGain (h 4 0 1) (h 17 0) (h 4 0 2) (h 18 0) f < mGain (h 4 0 1) (fwFu (h 17 0) (mTop (h 17 0) (h 4 0 4) (h 4 0 1).toNat).toNat (h 17 0 (mTop (h 17 0) (h 4 0 4) (h 4 0 1).toNat).toNat + 1)) (h 4 0 2) (h 18 0) f)) c) (fwShl 1 (c : Int)))), some (aI ((c : Int) + 1)), none] rfl ?_
          refine ih23 (by omega) _ _ _ ?_ ?_ ?_
          · exact (by omega)
          · exact (by rw [mBits, if_pos (decide_eq_true (by omega))])
          · exact hA80
    have z23 := lp23 0 (Nat.zero_le _) _ _ A11_2 (by exact (show 0 = ((0 : Nat) : Int) by omega)) (by exact (show 0 = mBits (fun f => decide (mGain (h 4 0 1) (h 17 0) (h 4 0 2) (h 18 0) f < mGain (h 4 0 1) (fwFu (h 17 0) (mTop (h 17 0) (h 4 0 4) (h 4 0 1).toNat).toNat (h 17 0 (mTop (h 17 0) (h 4 0 4) (h 4 0 1).toNat).toNat + 1)) (h 4 0 2) (h 18 0) f)) 0 from rfl)) hA11_2
    exact z23
  · refine w_bipush dX12_raisers_7 rfl ?_
    exact w_iretE dX12_raisers_9 rfl (by unfold an_raisers; first | (rw [if_neg (by omega)]; done) | (rw [if_pos (by omega), mGers, if_neg (by omega)]; done) | (rw [if_pos (by omega), mGers, if_neg (by have := hM0 (mTop (h 17 0) (h 4 0 4) (h 4 0 1).toNat).toNat (by omega); omega)]; done)) (k _ (scr_rf hsc))
theorem mNamesB (F : Nat → Int) (x : Int) (f : Nat) : mNames F x (f + 1) = mNames F x f + fwAnd (fwShr x (f : Int)) 1 * F (7 * f + 1) := by
  rw [mNames]
  rcases bit_01 x f with e | e
  · rw [if_neg (by omega), e]; omega
  · rw [if_pos e, e]; omega
set_option maxRecDepth 100000 in
set_option maxHeartbeats 4000000 in
theorem c_X12_namesOf {d : Nat} {h : fwH} {Q : Option fwV → fwH → Prop} (x : Int) (J : cOk h) (R : jF h) (k : Q (some (aI (mNames (h 18 0) x (h 5 0 3).toNat))) h) : fwCt mX12_namesOf (d + 1) [aR 12 0, aI x] h Q := by
  refine fwCt_of [some (aR 12 0), some (aI x), none, none] rfl rfl rfl ?_
  obtain ⟨hl, hP, hG, -, -, -, hlw, -, ha, hs, -, hsc⟩ := id J
  obtain ⟨⟨g1, g2⟩, ⟨g3, g4⟩, ⟨g5, g6⟩, g7, -⟩ := id hG
  have hpz := hP.1
  refine w_iconst dX12_namesOf_0 ?_
  refine w_istore_n [some (aR 12 0), some (aI x), some (aI 0), none] dX12_namesOf_1 rfl (by decide) ?_
  refine w_iconst dX12_namesOf_2 ?_
  refine w_istore_n [some (aR 12 0), some (aI x), some (aI 0), some (aI 0)] dX12_namesOf_3 rfl (by decide) ?_
  have lp4 : ∀ c : Nat, c ≤ (h 5 0 3).toNat → ∀ (y4 nv : Int), y4 = (c : Int) → nv = mNames (h 18 0) x c → fwWP mX12_namesOf (d + 1) 4 [some (aR 12 0), some (aI x), some (aI nv), some (aI y4)] [] h Q := by
    refine fw_up (fun c hc4 ih4 => ?_)
    intro y4 nv ey4 e_nv
    subst ey4
    subst e_nv
    show fwWP mX12_namesOf (d + 1) 4 [some (aR 12 0), some (aI x), some (aI (mNames (h 18 0) x c)), some (aI (c : Int))] [] h Q
    refine w_iload_n dX12_namesOf_4 rfl ?_
    refine w_aload_n dX12_namesOf_5 rfl ?_
    refine w_getr 36 0 dX12_namesOf_6 fl_X12_9 rfl (by decide) ?_
    refine w_bipush dX12_namesOf_9 rfl ?_
    refine w_ialdE (v := h 5 0 3) dX12_namesOf_11 rfl (by decide) (by omega) (by omega) R.2.2.2.2.2.2.1 ?_
    refine w_icmp_ge 36 dX12_namesOf_12 (by decide) (by omega) (by omega) (fun c12 => ?_) (fun c12 => ?_)
    · have ec4 : (h 5 0 3).toNat = c := by omega
      subst ec4
      refine w_iload_n dX12_namesOf_36 rfl ?_
      exact w_iretE dX12_namesOf_37 rfl (by rfl) k
    · refine w_iload_n dX12_namesOf_15 rfl ?_
      refine w_iload_n dX12_namesOf_16 rfl ?_
      refine w_iload_n dX12_namesOf_17 rfl ?_
      refine w_callS (d := d + 0) (S := [aI (mNames (h 18 0) x c)]) [aI x, aI (c : Int)] dX12_namesOf_18 ml_X12_257 ok_X12_bit st_X12_bit rfl (Nat.le_of_ble_eq_true rfl) ?_
      refine c_X12_bit (d := d) x (c : Int) ?_
      show fwWP mX12_namesOf (d + 1) 21 [some (aR 12 0), some (aI x), some (aI (mNames (h 18 0) x c)), some (aI (c : Int))] [aI (fwAnd (fwShr x (c : Int)) 1), aI (mNames (h 18 0) x c)] h Q
      have hbt2 := bit_01 x (c : Int)
      refine w_aload_n dX12_namesOf_21 rfl ?_
      refine w_iload_n dX12_namesOf_22 rfl ?_
      refine w_iconst dX12_namesOf_23 ?_
      refine w_callV (d := d + 0) (S := [aI (fwAnd (fwShr x (c : Int)) 1), aI (mNames (h 18 0) x c)]) [aI (c : Int), aI 1] dX12_namesOf_24 ml_X12_220 ok_X12_of vi_X12_of rfl rfl (by decide) rfl (Nat.le_of_ble_eq_true rfl) ?_
      refine c_ofE (d := d) c 1 (c : Int) J R (by omega) (by omega) (by omega) ?_
      show fwWP mX12_namesOf (d + 1) 27 [some (aR 12 0), some (aI x), some (aI (mNames (h 18 0) x c)), some (aI (c : Int))] [aI (h 18 0 (7 * c + 1)), aI (fwAnd (fwShr x (c : Int)) 1), aI (mNames (h 18 0) x c)] h Q
      have hof3 := hP.2 c (by omega)
      refine w_imul dX12_namesOf_27 ?_
      refine w_iadd dX12_namesOf_28 ?_
      refine w_istore_n [some (aR 12 0), some (aI x), some (aI ((mNames (h 18 0) x c) + ((fwAnd (fwShr x (c : Int)) 1) * (h 18 0 (7 * c + 1))))), some (aI (c : Int))] dX12_namesOf_29 rfl (by decide) ?_
      refine w_iinc [some (aR 12 0), some (aI x), some (aI ((mNames (h 18 0) x c) + ((fwAnd (fwShr x (c : Int)) 1) * (h 18 0 (7 * c + 1))))), some (aI ((c : Int) + 1))] dX12_namesOf_30 rfl rfl (by decide) ?_
      refine w_goto 4 dX12_namesOf_33 (by decide) ?_
      refine ih4 (by omega) _ _ ?_ ?_
      · exact (by omega)
      · exact (by rw [mNamesB])
  refine lp4 0 (Nat.zero_le _) _ _ ?_ ?_
  · exact (by omega)
  · exact rfl
set_option maxRecDepth 100000 in
set_option maxHeartbeats 4000000 in
theorem c_X12_isEnough {d : Nat} {h : fwH} {Q : Option fwV → fwH → Prop} (x : Int) (J : cOk h) (R : jF h) (k : Q (some (aI (fwB (h 3 0 4 ≤ mNames (h 18 0) x (h 5 0 3).toNat)))) h) : fwCt mX12_isEnough (d + 2) [aR 12 0, aI x] h Q := by
  refine fwCt_of [some (aR 12 0), some (aI x)] rfl rfl rfl ?_
  obtain ⟨hl, hP, hG, -, -, -, hlw, -, ha, hs, -, hsc⟩ := id J
  obtain ⟨⟨g1, g2⟩, ⟨g3, g4⟩, ⟨g5, g6⟩, g7, -⟩ := id hG
  have hpz := hP.1
  refine w_aload_n dX12_isEnough_0 rfl ?_
  refine w_iload_n dX12_isEnough_1 rfl ?_
  refine w_callV (d := d + 1) (S := []) [aI x] dX12_isEnough_2 ml_X12_260 ok_X12_namesOf vi_X12_namesOf rfl rfl (by decide) rfl (Nat.le_of_ble_eq_true rfl) ?_
  refine c_X12_namesOf (d := d) x J R ?_
  show fwWP mX12_isEnough (d + 2) 5 [some (aR 12 0), some (aI x)] [aI (mNames (h 18 0) x (h 5 0 3).toNat)] h Q
  have hnr1 := mNames_r2 hP x
  refine w_aload_n dX12_isEnough_5 rfl ?_
  refine w_getr 36 0 dX12_isEnough_6 fl_X12_9 rfl (by decide) ?_
  refine w_iconst dX12_isEnough_9 ?_
  refine w_ialdE (v := h 3 0 4) dX12_isEnough_10 rfl (by decide) (by omega) (by omega) R.2.2.2.1 ?_
  refine w_icmp_lt 18 dX12_isEnough_11 (by decide) (by omega) (by omega) (fun c11 => ?_) (fun c11 => ?_)
  · refine w_iconst dX12_isEnough_18 ?_
    exact w_zretE dX12_isEnough_19 rfl (by first | (exfalso; omega) | (rw [fwB_t (by omega)]) | (rw [fwB_f (by omega)])) k
  · refine w_iconst dX12_isEnough_14 ?_
    refine w_goto 19 dX12_isEnough_15 (by decide) ?_
    exact w_zretE dX12_isEnough_19 rfl (by first | (exfalso; omega) | (rw [fwB_t (by omega)]) | (rw [fwB_f (by omega)])) k
/-! bits of FOLK's sets as natural numbers below 256 -/
theorem and_255 {a b : Nat} (ha : a < 256) (hb : b < 256) : fwAnd (a : Int) (b : Int) = ((a &&& b : Nat) : Int) := fwAnd_nat (by omega) (by omega)
theorem or_256 {a f : Nat} (ha : a < 256) (hf : f < 8) : fwOr (a : Int) (fwShl 1 (f : Int)) = ((a ||| 2 ^ f : Nat) : Int) ∧ a ||| 2 ^ f < 256 := by
  have h2 : 2 ^ f < 2 ^ 8 := Nat.pow_lt_pow_right (by omega) hf
  rw [fwShl1_nat (by omega), fwOr_nat (by omega) (by omega)]
  exact ⟨rfl, Nat.or_lt_two_pow (n := 8) (by omega) h2⟩
theorem or_same : ∀ f : Nat, f < 8 → ∀ a : Nat, a < 256 → fwAnd (fwShr (a : Int) (f : Int)) 1 = 1 → a ||| 2 ^ f = a := by decide +kernel
theorem or_bit : ∀ f : Nat, f < 8 → ∀ a : Nat, a < 256 → fwAnd (fwShr ((a ||| 2 ^ f : Nat) : Int) (f : Int)) 1 = 1 := by decide +kernel
theorem or_more : ∀ f : Nat, f < 8 → ∀ a : Nat, a < 256 → ¬ fwAnd (fwShr (a : Int) (f : Int)) 1 = 1 → a < a ||| 2 ^ f := by decide +kernel
theorem or_two : ∀ f : Nat, f < 8 → ∀ a : Nat, a < 256 → ∀ b : Nat, b < 256 → (fwAnd (fwShr (fwOr (a : Int) (b : Int)) (f : Int)) 1 = 1 ↔ fwAnd (fwShr (a : Int) (f : Int)) 1 = 1 ∨ fwAnd (fwShr (b : Int) (f : Int)) 1 = 1) := by
  intro f hf a ha b hb
  rw [fwOr_nat (by omega) (by omega)]
  have h9 : a ||| b < 2 ^ 8 := Nat.or_lt_two_pow (n := 8) (by omega) (by omega)
  have key : ∀ z : Nat, z < 256 → (fwAnd (fwShr (z : Int) (f : Int)) 1 = 1 ↔ z.testBit f = true) := by
    intro z hz
    rw [fwBit_nat (by omega) f (by omega)]
    cases z.testBit f <;> simp
  rw [key _ (by omega), key _ ha, key _ hb, Nat.testBit_or, Bool.or_eq_true]

set_option maxRecDepth 100000 in
set_option maxHeartbeats 4000000 in
theorem c_X12_raisers {d : Nat} {h gg : fwH} {Q : Option fwV → fwH → Prop}  (J : cOk gg) (R : jF gg h) (K : jA gg h) (hsh : sc h)  (k : ∀ g, scr h g → Q (some (aI (an_raisers gg ))) g) : fwCt mX12_raisers (d + 6) [aR 12 0] h Q := by
  refine fwCt_of [some (aR 12 0), none, none, none, none] rfl rfl rfl ?_
  obtain ⟨hl, hP, hG, hM0, htd, hut, hlw, hhc, ha, hs, hT, hsc⟩ := id J
  have hb17 : hB (gg 17 0) := fun c hc => by have := hM0 c hc; omega
  obtain ⟨⟨g1, g2⟩, ⟨g3, g4⟩, ⟨g5, g6⟩, g7, -⟩ := id hG
  have h17_99 : ∀ c : Nat, (c : Int) < gg 4 0 1 → gg 17 0 c ≤ 99 := fun c hc => (hM0 c (by omega)).2
  have hpz := hP.1
  have hrs1 := R.2.2.2.2.2.2.2.2.2.2.2
  refine w_aload_n dX12_raisers_0 rfl ?_
  refine w_callV (d := d + 5) (S := []) [] dX12_raisers_1 ml_X12_73 ok_X12_isMount vi_X12_isMount rfl rfl (by decide) rfl (Nat.le_of_ble_eq_true rfl) ?_
  refine c_X12_isMount (d := (d + 5)) J R ?_
  show fwWP mX12_raisers (d + 6) 4 [some (aR 12 0), none, none, none, none] [aI (fwB (0 < gg 3 0 6))] h Q
  refine w_ifB_ne 10 dX12_raisers_4 (by decide) (fun c4 => ?_) (fun c4 => ?_)
  · refine w_aload_n dX12_raisers_10 rfl ?_
    refine w_callV (d := d + 5) (S := []) [] dX12_raisers_11 ml_X12_240 ok_X12_asItIs vi_X12_asItIs rfl rfl (by decide) rfl (Nat.le_of_ble_eq_true rfl) ?_
    refine c_X12_asItIs (d := d) J R K (show 1 ≤ gg 4 0 1 by omega) (show 1 ≤ gg 4 0 3 by omega) ?_
    intro A11_2 hA11_2
    show fwWP mX12_raisers (d + 6) 14 [some (aR 12 0), none, none, none, none] [] (fwUc h 42 0 A11_2) Q
    refine w_aload_n dX12_raisers_14 rfl ?_
    refine w_callV (d := d + 5) (S := []) [] dX12_raisers_15 ml_X12_200 ok_X12_topCell vi_X12_topCell rfl rfl (by decide) rfl (Nat.le_of_ble_eq_true rfl) ?_
    refine c_X12_topCell (d := (d + 5)) (gg 17 0) J R hA11_2 hb17 (show 1 ≤ gg 4 0 1 by omega) ?_
    show fwWP mX12_raisers (d + 6) 18 [some (aR 12 0), none, none, none, none] [aI (mTop (gg 17 0) (gg 4 0 4) (gg 4 0 1).toNat)] (fwUc h 42 0 A11_2) Q
    have htp3 := mTop_r2 (gg 17 0) (gg 4 0 4) (gg 4 0 1).toNat (by omega)
    refine w_istore_n [some (aR 12 0), some (aI (mTop (gg 17 0) (gg 4 0 4) (gg 4 0 1).toNat)), none, none, none] dX12_raisers_18 rfl (by decide) ?_
    have hbt := hM0 (mTop (gg 17 0) (gg 4 0 4) (gg 4 0 1).toNat).toNat (by omega)
    refine w_iconst dX12_raisers_19 ?_
    refine w_istore_n [some (aR 12 0), some (aI (mTop (gg 17 0) (gg 4 0 4) (gg 4 0 1).toNat)), some (aI 0), none, none] dX12_raisers_20 rfl (by decide) ?_
    refine w_iconst dX12_raisers_21 ?_
    refine w_istore_n [some (aR 12 0), some (aI (mTop (gg 17 0) (gg 4 0 4) (gg 4 0 1).toNat)), some (aI 0), some (aI 0), none] dX12_raisers_22 rfl (by decide) ?_
    have lp23 : ∀ c : Nat, c ≤ (gg 5 0 3).toNat → ∀ (y23 se : Int) (A23 : Nat → Int), y23 = (c : Int) → se = mBits (fun f => decide (mGain (gg 4 0 1) (gg 17 0) (gg 4 0 2) (gg 18 0) f < mGain (gg 4 0 1) (fwFu (gg 17 0) (mTop (gg 17 0) (gg 4 0 4) (gg 4 0 1).toNat).toNat (gg 17 0 (mTop (gg 17 0) (gg 4 0 4) (gg 4 0 1).toNat).toNat + 1)) (gg 4 0 2) (gg 18 0) f)) c → hiR (gg 4 0 1) A23 (gg 17 0) → fwWP mX12_raisers (d + 6) 23 [some (aR 12 0), some (aI (mTop (gg 17 0) (gg 4 0 4) (gg 4 0 1).toNat)), some (aI se), some (aI y23), none] [] (fwUc h 42 0 A23) Q := by
      refine fw_up (fun c hc23 ih23 => ?_)
      intro y23 se A23 ey23 e_se hA23
      subst ey23
      subst e_se
      show fwWP mX12_raisers (d + 6) 23 [some (aR 12 0), some (aI (mTop (gg 17 0) (gg 4 0 4) (gg 4 0 1).toNat)), some (aI (mBits (fun f => decide (mGain (gg 4 0 1) (gg 17 0) (gg 4 0 2) (gg 18 0) f < mGain (gg 4 0 1) (fwFu (gg 17 0) (mTop (gg 17 0) (gg 4 0 4) (gg 4 0 1).toNat).toNat (gg 17 0 (mTop (gg 17 0) (gg 4 0 4) (gg 4 0 1).toNat).toNat + 1)) (gg 4 0 2) (gg 18 0) f)) c)), some (aI (c : Int)), none] [] (fwUc h 42 0 A23) Q
      refine w_iload_n dX12_raisers_23 rfl ?_
      refine w_aload_n dX12_raisers_24 rfl ?_
      refine w_getr 36 0 dX12_raisers_25 fl_X12_9 rfl (by decide) ?_
      refine w_bipush dX12_raisers_28 rfl ?_
      refine w_ialdE (v := gg 5 0 3) dX12_raisers_30 rfl (by decide) (by omega) (by omega) R.2.2.2.2.2.2.1 ?_
      refine w_icmp_ge 87 dX12_raisers_31 (by decide) (by omega) (by omega) (fun c31 => ?_) (fun c31 => ?_)
      · have ec23 : (gg 5 0 3).toNat = c := by omega
        subst ec23
        refine w_iload_n dX12_raisers_87 rfl ?_
        exact w_iretE dX12_raisers_88 rfl (by unfold an_raisers; first | (rw [if_neg (by omega)]; done) | (rw [if_pos (by omega), mGers, if_neg (by omega)]; done) | (rw [if_pos (by omega), mGers, if_neg (by have := hM0 (mTop (gg 17 0) (gg 4 0 4) (gg 4 0 1).toNat).toNat (by omega); omega)]; done)) (k _ (scr_uc (scr_rf hsh) rfl (by decide) (by decide) (by decide)))
      · refine w_aload_n dX12_raisers_34 rfl ?_
        refine w_iload_n dX12_raisers_35 rfl ?_
        refine w_callV (d := d + 5) (S := []) [aI (c : Int)] dX12_raisers_36 ml_X12_232 ok_X12_gainOf vi_X12_gainOf rfl rfl (by decide) rfl (Nat.le_of_ble_eq_true rfl) ?_
        refine c_X12_gainOf (d := (d + 1)) c (gg 17 0) J R hA23 hb17 (show 1 ≤ gg 4 0 1 by omega) (show (c : Int) < gg 5 0 3 by omega) ?_
        show fwWP mX12_raisers (d + 6) 39 [some (aR 12 0), some (aI (mTop (gg 17 0) (gg 4 0 4) (gg 4 0 1).toNat)), some (aI (mBits (fun f => decide (mGain (gg 4 0 1) (gg 17 0) (gg 4 0 2) (gg 18 0) f < mGain (gg 4 0 1) (fwFu (gg 17 0) (mTop (gg 17 0) (gg 4 0 4) (gg 4 0 1).toNat).toNat (gg 17 0 (mTop (gg 17 0) (gg 4 0 4) (gg 4 0 1).toNat).toNat + 1)) (gg 4 0 2) (gg 18 0) f)) c)), some (aI (c : Int)), none] [aI (mGain (gg 4 0 1) (gg 17 0) (gg 4 0 2) (gg 18 0) c)] (fwUc h 42 0 A23) Q
        have hgr5 := mGain_r2 J hb17 c (by omega)
        refine w_istore [some (aR 12 0), some (aI (mTop (gg 17 0) (gg 4 0 4) (gg 4 0 1).toNat)), some (aI (mBits (fun f => decide (mGain (gg 4 0 1) (gg 17 0) (gg 4 0 2) (gg 18 0) f < mGain (gg 4 0 1) (fwFu (gg 17 0) (mTop (gg 17 0) (gg 4 0 4) (gg 4 0 1).toNat).toNat (gg 17 0 (mTop (gg 17 0) (gg 4 0 4) (gg 4 0 1).toNat).toNat + 1)) (gg 4 0 2) (gg 18 0) f)) c)), some (aI (c : Int)), some (aI (mGain (gg 4 0 1) (gg 17 0) (gg 4 0 2) (gg 18 0) c))] dX12_raisers_39 rfl (by decide) ?_
        refine w_aload_n dX12_raisers_41 rfl ?_
        refine w_getr 42 0 dX12_raisers_42 fl_X12_34 rfl (by decide) ?_
        refine w_iload_n dX12_raisers_45 rfl ?_
        refine w_dup2 dX12_raisers_46 rfl rfl ?_
        refine w_ialdE (v := (gg 17 0) (mTop (gg 17 0) (gg 4 0 4) (gg 4 0 1).toNat).toNat) dX12_raisers_47 rfl (by decide) (by omega) (by omega) (hA23 _ (by omega)) ?_
        refine w_iconst dX12_raisers_48 ?_
        refine w_iadd dX12_raisers_49 ?_
        refine w_iast dX12_raisers_50 rfl (by decide) (by omega) (by omega) ?_
        rw [show (fwUp (fwUc h 42 0 A23) 42 0 (mTop (gg 17 0) (gg 4 0 4) (gg 4 0 1).toNat).toNat (((gg 17 0) (mTop (gg 17 0) (gg 4 0 4) (gg 4 0 1).toNat).toNat) + 1)) = (fwUc h 42 0 (fwFu A23 (mTop (gg 17 0) (gg 4 0 4) (gg 4 0 1).toNat).toNat (((gg 17 0) (mTop (gg 17 0) (gg 4 0 4) (gg 4 0 1).toNat).toNat) + 1))) from by rw [fwUp_fu]; rw [fwUc_uc]; rfl]
        have hA50 := hiR_fu hA23 (mTop (gg 17 0) (gg 4 0 4) (gg 4 0 1).toNat).toNat (((gg 17 0) (mTop (gg 17 0) (gg 4 0 4) (gg 4 0 1).toNat).toNat) + 1)
        have hb50 : hB (fwFu (gg 17 0) (mTop (gg 17 0) (gg 4 0 4) (gg 4 0 1).toNat).toNat (((gg 17 0) (mTop (gg 17 0) (gg 4 0 4) (gg 4 0 1).toNat).toNat) + 1)) := hB_fu hb17 (by omega)
        refine w_iload_n dX12_raisers_51 rfl ?_
        refine w_aload_n dX12_raisers_52 rfl ?_
        refine w_iload_n dX12_raisers_53 rfl ?_
        refine w_callV (d := d + 5) (S := [aI (mBits (fun f => decide (mGain (gg 4 0 1) (gg 17 0) (gg 4 0 2) (gg 18 0) f < mGain (gg 4 0 1) (fwFu (gg 17 0) (mTop (gg 17 0) (gg 4 0 4) (gg 4 0 1).toNat).toNat (gg 17 0 (mTop (gg 17 0) (gg 4 0 4) (gg 4 0 1).toNat).toNat + 1)) (gg 4 0 2) (gg 18 0) f)) c)]) [aI (c : Int)] dX12_raisers_54 ml_X12_232 ok_X12_gainOf vi_X12_gainOf rfl rfl (by decide) rfl (Nat.le_of_ble_eq_true rfl) ?_
        refine c_X12_gainOf (d := (d + 1)) c (fwFu (gg 17 0) (mTop (gg 17 0) (gg 4 0 4) (gg 4 0 1).toNat).toNat (((gg 17 0) (mTop (gg 17 0) (gg 4 0 4) (gg 4 0 1).toNat).toNat) + 1)) J R hA50 hb50 (show 1 ≤ gg 4 0 1 by omega) (show (c : Int) < gg 5 0 3 by omega) ?_
        show fwWP mX12_raisers (d + 6) 57 [some (aR 12 0), some (aI (mTop (gg 17 0) (gg 4 0 4) (gg 4 0 1).toNat)), some (aI (mBits (fun f => decide (mGain (gg 4 0 1) (gg 17 0) (gg 4 0 2) (gg 18 0) f < mGain (gg 4 0 1) (fwFu (gg 17 0) (mTop (gg 17 0) (gg 4 0 4) (gg 4 0 1).toNat).toNat (gg 17 0 (mTop (gg 17 0) (gg 4 0 4) (gg 4 0 1).toNat).toNat + 1)) (gg 4 0 2) (gg 18 0) f)) c)), some (aI (c : Int)), some (aI (mGain (gg 4 0 1) (gg 17 0) (gg 4 0 2) (gg 18 0) c))] [aI (mGain (gg 4 0 1) (fwFu (gg 17 0) (mTop (gg 17 0) (gg 4 0 4) (gg 4 0 1).toNat).toNat (((gg 17 0) (mTop (gg 17 0) (gg 4 0 4) (gg 4 0 1).toNat).toNat) + 1)) (gg 4 0 2) (gg 18 0) c), aI (mBits (fun f => decide (mGain (gg 4 0 1) (gg 17 0) (gg 4 0 2) (gg 18 0) f < mGain (gg 4 0 1) (fwFu (gg 17 0) (mTop (gg 17 0) (gg 4 0 4) (gg 4 0 1).toNat).toNat (gg 17 0 (mTop (gg 17 0) (gg 4 0 4) (gg 4 0 1).toNat).toNat + 1)) (gg 4 0 2) (gg 18 0) f)) c)] (fwUc h 42 0 (fwFu A23 (mTop (gg 17 0) (gg 4 0 4) (gg 4 0 1).toNat).toNat (((gg 17 0) (mTop (gg 17 0) (gg 4 0 4) (gg 4 0 1).toNat).toNat) + 1))) Q
        have hgr6 := mGain_r2 J hb50 c (by omega)
        refine w_iload dX12_raisers_57 rfl ?_
        refine w_icmp_le 68 dX12_raisers_59 (by decide) (by omega) (by omega) (fun c59 => ?_) (fun c59 => ?_)
        · refine w_iconst dX12_raisers_68 ?_
          refine w_ior dX12_raisers_69 ?_
          refine w_istore_n [some (aR 12 0), some (aI (mTop (gg 17 0) (gg 4 0 4) (gg 4 0 1).toNat)), some (aI (fwOr (mBits (fun f => decide (mGain (gg 4 0 1) (gg 17 0) (gg 4 0 2) (gg 18 0) f < mGain (gg 4 0 1) (fwFu (gg 17 0) (mTop (gg 17 0) (gg 4 0 4) (gg 4 0 1).toNat).toNat (gg 17 0 (mTop (gg 17 0) (gg 4 0 4) (gg 4 0 1).toNat).toNat + 1)) (gg 4 0 2) (gg 18 0) f)) c) 0)), some (aI (c : Int)), some (aI (mGain (gg 4 0 1) (gg 17 0) (gg 4 0 2) (gg 18 0) c))] dX12_raisers_70 rfl (by decide) ?_
          refine w_aload_n dX12_raisers_71 rfl ?_
          refine w_getr 42 0 dX12_raisers_72 fl_X12_34 rfl (by decide) ?_
          refine w_iload_n dX12_raisers_75 rfl ?_
          refine w_dup2 dX12_raisers_76 rfl rfl ?_
          refine w_ialdE (v := (fwFu (gg 17 0) (mTop (gg 17 0) (gg 4 0 4) (gg 4 0 1).toNat).toNat (((gg 17 0) (mTop (gg 17 0) (gg 4 0 4) (gg 4 0 1).toNat).toNat) + 1)) (mTop (gg 17 0) (gg 4 0 4) (gg 4 0 1).toNat).toNat) dX12_raisers_77 rfl (by decide) (by omega) (by omega) (hA50 _ (by omega)) ?_
          refine w_iconst dX12_raisers_78 ?_
          refine w_isub dX12_raisers_79 ?_
          refine w_iast dX12_raisers_80 rfl (by decide) (by omega) (by omega) ?_
          rw [show (fwUp (fwUc h 42 0 (fwFu A23 (mTop (gg 17 0) (gg 4 0 4) (gg 4 0 1).toNat).toNat (((gg 17 0) (mTop (gg 17 0) (gg 4 0 4) (gg 4 0 1).toNat).toNat) + 1))) 42 0 (mTop (gg 17 0) (gg 4 0 4) (gg 4 0 1).toNat).toNat (((fwFu (gg 17 0) (mTop (gg 17 0) (gg 4 0 4) (gg 4 0 1).toNat).toNat (((gg 17 0) (mTop (gg 17 0) (gg 4 0 4) (gg 4 0 1).toNat).toNat) + 1)) (mTop (gg 17 0) (gg 4 0 4) (gg 4 0 1).toNat).toNat) - 1)) = (fwUc h 42 0 (fwFu (fwFu A23 (mTop (gg 17 0) (gg 4 0 4) (gg 4 0 1).toNat).toNat (((gg 17 0) (mTop (gg 17 0) (gg 4 0 4) (gg 4 0 1).toNat).toNat) + 1)) (mTop (gg 17 0) (gg 4 0 4) (gg 4 0 1).toNat).toNat (((fwFu (gg 17 0) (mTop (gg 17 0) (gg 4 0 4) (gg 4 0 1).toNat).toNat (((gg 17 0) (mTop (gg 17 0) (gg 4 0 4) (gg 4 0 1).toNat).toNat) + 1)) (mTop (gg 17 0) (gg 4 0 4) (gg 4 0 1).toNat).toNat) - 1))) from by rw [fwUp_fu]; rw [fwUc_uc]; rfl]
          have hA80 := hiR_fu hA50 (mTop (gg 17 0) (gg 4 0 4) (gg 4 0 1).toNat).toNat (((fwFu (gg 17 0) (mTop (gg 17 0) (gg 4 0 4) (gg 4 0 1).toNat).toNat (((gg 17 0) (mTop (gg 17 0) (gg 4 0 4) (gg 4 0 1).toNat).toNat) + 1)) (mTop (gg 17 0) (gg 4 0 4) (gg 4 0 1).toNat).toNat) - 1)
          rw [fwFu_pm] at hA80
          refine w_iinc [some (aR 12 0), some (aI (mTop (gg 17 0) (gg 4 0 4) (gg 4 0 1).toNat)), some (aI (fwOr (mBits (fun f => decide (mGain (gg 4 0 1) (gg 17 0) (gg 4 0 2) (gg 18 0) f < mGain (gg 4 0 1) (fwFu (gg 17 0) (mTop (gg 17 0) (gg 4 0 4) (gg 4 0 1).toNat).toNat (gg 17 0 (mTop (gg 17 0) (gg 4 0 4) (gg 4 0 1).toNat).toNat + 1)) (gg 4 0 2) (gg 18 0) f)) c) 0)), some (aI ((c : Int) + 1)), some (aI (mGain (gg 4 0 1) (gg 17 0) (gg 4 0 2) (gg 18 0) c))] dX12_raisers_81 rfl rfl (by decide) ?_
          refine w_goto 23 dX12_raisers_84 (by decide) ?_
          refine w_drop [4] [some (aR 12 0), some (aI (mTop (gg 17 0) (gg 4 0 4) (gg 4 0 1).toNat)), some (aI (fwOr (mBits (fun f => decide (mGain (gg 4 0 1) (gg 17 0) (gg 4 0 2) (gg 18 0) f < mGain (gg 4 0 1) (fwFu (gg 17 0) (mTop (gg 17 0) (gg 4 0 4) (gg 4 0 1).toNat).toNat (gg 17 0 (mTop (gg 17 0) (gg 4 0 4) (gg 4 0 1).toNat).toNat + 1)) (gg 4 0 2) (gg 18 0) f)) c) 0)), some (aI ((c : Int) + 1)), none] rfl ?_
          refine ih23 (by omega) _ _ _ ?_ ?_ ?_
          · exact (by omega)
          · exact (by rw [mBits, if_neg (by rw [decide_eq_true_eq]; omega), fwOr_0 (mBits_rng _ _)])
          · exact hA80
        · refine w_iconst dX12_raisers_62 ?_
          refine w_iload_n dX12_raisers_63 rfl ?_
          refine w_ishl dX12_raisers_64 ?_
          refine w_goto 69 dX12_raisers_65 (by decide) ?_
          refine w_ior dX12_raisers_69 ?_
          refine w_istore_n [some (aR 12 0), some (aI (mTop (gg 17 0) (gg 4 0 4) (gg 4 0 1).toNat)), some (aI (fwOr (mBits (fun f => decide (mGain (gg 4 0 1) (gg 17 0) (gg 4 0 2) (gg 18 0) f < mGain (gg 4 0 1) (fwFu (gg 17 0) (mTop (gg 17 0) (gg 4 0 4) (gg 4 0 1).toNat).toNat (gg 17 0 (mTop (gg 17 0) (gg 4 0 4) (gg 4 0 1).toNat).toNat + 1)) (gg 4 0 2) (gg 18 0) f)) c) (fwShl 1 (c : Int)))), some (aI (c : Int)), some (aI (mGain (gg 4 0 1) (gg 17 0) (gg 4 0 2) (gg 18 0) c))] dX12_raisers_70 rfl (by decide) ?_
          refine w_aload_n dX12_raisers_71 rfl ?_
          refine w_getr 42 0 dX12_raisers_72 fl_X12_34 rfl (by decide) ?_
          refine w_iload_n dX12_raisers_75 rfl ?_
          refine w_dup2 dX12_raisers_76 rfl rfl ?_
          refine w_ialdE (v := (fwFu (gg 17 0) (mTop (gg 17 0) (gg 4 0 4) (gg 4 0 1).toNat).toNat (((gg 17 0) (mTop (gg 17 0) (gg 4 0 4) (gg 4 0 1).toNat).toNat) + 1)) (mTop (gg 17 0) (gg 4 0 4) (gg 4 0 1).toNat).toNat) dX12_raisers_77 rfl (by decide) (by omega) (by omega) (hA50 _ (by omega)) ?_
          refine w_iconst dX12_raisers_78 ?_
          refine w_isub dX12_raisers_79 ?_
          refine w_iast dX12_raisers_80 rfl (by decide) (by omega) (by omega) ?_
          rw [show (fwUp (fwUc h 42 0 (fwFu A23 (mTop (gg 17 0) (gg 4 0 4) (gg 4 0 1).toNat).toNat (((gg 17 0) (mTop (gg 17 0) (gg 4 0 4) (gg 4 0 1).toNat).toNat) + 1))) 42 0 (mTop (gg 17 0) (gg 4 0 4) (gg 4 0 1).toNat).toNat (((fwFu (gg 17 0) (mTop (gg 17 0) (gg 4 0 4) (gg 4 0 1).toNat).toNat (((gg 17 0) (mTop (gg 17 0) (gg 4 0 4) (gg 4 0 1).toNat).toNat) + 1)) (mTop (gg 17 0) (gg 4 0 4) (gg 4 0 1).toNat).toNat) - 1)) = (fwUc h 42 0 (fwFu (fwFu A23 (mTop (gg 17 0) (gg 4 0 4) (gg 4 0 1).toNat).toNat (((gg 17 0) (mTop (gg 17 0) (gg 4 0 4) (gg 4 0 1).toNat).toNat) + 1)) (mTop (gg 17 0) (gg 4 0 4) (gg 4 0 1).toNat).toNat (((fwFu (gg 17 0) (mTop (gg 17 0) (gg 4 0 4) (gg 4 0 1).toNat).toNat (((gg 17 0) (mTop (gg 17 0) (gg 4 0 4) (gg 4 0 1).toNat).toNat) + 1)) (mTop (gg 17 0) (gg 4 0 4) (gg 4 0 1).toNat).toNat) - 1))) from by rw [fwUp_fu]; rw [fwUc_uc]; rfl]
          have hA80 := hiR_fu hA50 (mTop (gg 17 0) (gg 4 0 4) (gg 4 0 1).toNat).toNat (((fwFu (gg 17 0) (mTop (gg 17 0) (gg 4 0 4) (gg 4 0 1).toNat).toNat (((gg 17 0) (mTop (gg 17 0) (gg 4 0 4) (gg 4 0 1).toNat).toNat) + 1)) (mTop (gg 17 0) (gg 4 0 4) (gg 4 0 1).toNat).toNat) - 1)
          rw [fwFu_pm] at hA80
          refine w_iinc [some (aR 12 0), some (aI (mTop (gg 17 0) (gg 4 0 4) (gg 4 0 1).toNat)), some (aI (fwOr (mBits (fun f => decide (mGain (gg 4 0 1) (gg 17 0) (gg 4 0 2) (gg 18 0) f < mGain (gg 4 0 1) (fwFu (gg 17 0) (mTop (gg 17 0) (gg 4 0 4) (gg 4 0 1).toNat).toNat (gg 17 0 (mTop (gg 17 0) (gg 4 0 4) (gg 4 0 1).toNat).toNat + 1)) (gg 4 0 2) (gg 18 0) f)) c) (fwShl 1 (c : Int)))), some (aI ((c : Int) + 1)), some (aI (mGain (gg 4 0 1) (gg 17 0) (gg 4 0 2) (gg 18 0) c))] dX12_raisers_81 rfl rfl (by decide) ?_
          refine w_goto 23 dX12_raisers_84 (by decide) ?_
          refine w_drop [4] [some (aR 12 0), some (aI (mTop (gg 17 0) (gg 4 0 4) (gg 4 0 1).toNat)), some (aI (fwOr (mBits (fun f => decide (mGain (gg 4 0 1) (gg 17 0) (gg 4 0 2) (gg 18 0) f < mGain (gg 4 0 1) (fwFu (gg 17 0) (mTop (gg 17 0) (gg 4 0 4) (gg 4 0 1).toNat).toNat (gg 17 0 (mTop (gg 17 0) (gg 4 0 4) (gg 4 0 1).toNat).toNat + 1)) (gg 4 0 2) (gg 18 0) f)) c) (fwShl 1 (c : Int)))), some (aI ((c : Int) + 1)), none] rfl ?_
          refine ih23 (by omega) _ _ _ ?_ ?_ ?_
          · exact (by omega)
          · exact (by rw [mBits, if_pos (decide_eq_true (by omega))])
          · exact hA80
    have z23 := lp23 0 (Nat.zero_le _) _ _ A11_2 (by exact (show 0 = ((0 : Nat) : Int) by omega)) (by exact (show 0 = mBits (fun f => decide (mGain (gg 4 0 1) (gg 17 0) (gg 4 0 2) (gg 18 0) f < mGain (gg 4 0 1) (fwFu (gg 17 0) (mTop (gg 17 0) (gg 4 0 4) (gg 4 0 1).toNat).toNat (gg 17 0 (mTop (gg 17 0) (gg 4 0 4) (gg 4 0 1).toNat).toNat + 1)) (gg 4 0 2) (gg 18 0) f)) 0 from rfl)) hA11_2
    exact z23
  · refine w_bipush dX12_raisers_7 rfl ?_
    exact w_iretE dX12_raisers_9 rfl (by unfold an_raisers; first | (rw [if_neg (by omega)]; done) | (rw [if_pos (by omega), mGers, if_neg (by omega)]; done) | (rw [if_pos (by omega), mGers, if_neg (by have := hM0 (mTop (gg 17 0) (gg 4 0 4) (gg 4 0 1).toNat).toNat (by omega); omega)]; done)) (k _ (scr_rf hsh))
theorem mNamesB (F : Nat → Int) (x : Int) (f : Nat) : mNames F x (f + 1) = mNames F x f + fwAnd (fwShr x (f : Int)) 1 * F (7 * f + 1) := by
  rw [mNames]
  rcases bit_01 x f with e | e
  · rw [if_neg (by omega), e]; omega
  · rw [if_pos e, e]; omega
set_option maxRecDepth 100000 in
set_option maxHeartbeats 4000000 in
theorem c_X12_namesOf {d : Nat} {h gg : fwH} {Q : Option fwV → fwH → Prop} (x : Int) (J : cOk gg) (R : jF gg h) (k : Q (some (aI (mNames (gg 18 0) x (gg 5 0 3).toNat))) h) : fwCt mX12_namesOf (d + 1) [aR 12 0, aI x] h Q := by
  refine fwCt_of [some (aR 12 0), some (aI x), none, none] rfl rfl rfl ?_
  obtain ⟨hl, hP, hG, -, -, -, hlw, -, ha, hs, -, hsc⟩ := id J
  obtain ⟨⟨g1, g2⟩, ⟨g3, g4⟩, ⟨g5, g6⟩, g7, -⟩ := id hG
  have hpz := hP.1
  refine w_iconst dX12_namesOf_0 ?_
  refine w_istore_n [some (aR 12 0), some (aI x), some (aI 0), none] dX12_namesOf_1 rfl (by decide) ?_
  refine w_iconst dX12_namesOf_2 ?_
  refine w_istore_n [some (aR 12 0), some (aI x), some (aI 0), some (aI 0)] dX12_namesOf_3 rfl (by decide) ?_
  have lp4 : ∀ c : Nat, c ≤ (gg 5 0 3).toNat → ∀ (y4 nv : Int), y4 = (c : Int) → nv = mNames (gg 18 0) x c → fwWP mX12_namesOf (d + 1) 4 [some (aR 12 0), some (aI x), some (aI nv), some (aI y4)] [] h Q := by
    refine fw_up (fun c hc4 ih4 => ?_)
    intro y4 nv ey4 e_nv
    subst ey4
    subst e_nv
    show fwWP mX12_namesOf (d + 1) 4 [some (aR 12 0), some (aI x), some (aI (mNames (gg 18 0) x c)), some (aI (c : Int))] [] h Q
    refine w_iload_n dX12_namesOf_4 rfl ?_
    refine w_aload_n dX12_namesOf_5 rfl ?_
    refine w_getr 36 0 dX12_namesOf_6 fl_X12_9 rfl (by decide) ?_
    refine w_bipush dX12_namesOf_9 rfl ?_
    refine w_ialdE (v := gg 5 0 3) dX12_namesOf_11 rfl (by decide) (by omega) (by omega) R.2.2.2.2.2.2.1 ?_
    refine w_icmp_ge 36 dX12_namesOf_12 (by decide) (by omega) (by omega) (fun c12 => ?_) (fun c12 => ?_)
    · have ec4 : (gg 5 0 3).toNat = c := by omega
      subst ec4
      refine w_iload_n dX12_namesOf_36 rfl ?_
      exact w_iretE dX12_namesOf_37 rfl (by rfl) k
    · refine w_iload_n dX12_namesOf_15 rfl ?_
      refine w_iload_n dX12_namesOf_16 rfl ?_
      refine w_iload_n dX12_namesOf_17 rfl ?_
      refine w_callS (d := d + 0) (S := [aI (mNames (gg 18 0) x c)]) [aI x, aI (c : Int)] dX12_namesOf_18 ml_X12_257 ok_X12_bit st_X12_bit rfl (Nat.le_of_ble_eq_true rfl) ?_
      refine c_X12_bit (d := d) x (c : Int) ?_
      show fwWP mX12_namesOf (d + 1) 21 [some (aR 12 0), some (aI x), some (aI (mNames (gg 18 0) x c)), some (aI (c : Int))] [aI (fwAnd (fwShr x (c : Int)) 1), aI (mNames (gg 18 0) x c)] h Q
      have hbt2 := bit_01 x (c : Int)
      refine w_aload_n dX12_namesOf_21 rfl ?_
      refine w_iload_n dX12_namesOf_22 rfl ?_
      refine w_iconst dX12_namesOf_23 ?_
      refine w_callV (d := d + 0) (S := [aI (fwAnd (fwShr x (c : Int)) 1), aI (mNames (gg 18 0) x c)]) [aI (c : Int), aI 1] dX12_namesOf_24 ml_X12_220 ok_X12_of vi_X12_of rfl rfl (by decide) rfl (Nat.le_of_ble_eq_true rfl) ?_
      refine c_ofE (d := d) c 1 (c : Int) J R (by omega) (by omega) (by omega) ?_
      show fwWP mX12_namesOf (d + 1) 27 [some (aR 12 0), some (aI x), some (aI (mNames (gg 18 0) x c)), some (aI (c : Int))] [aI (gg 18 0 (7 * c + 1)), aI (fwAnd (fwShr x (c : Int)) 1), aI (mNames (gg 18 0) x c)] h Q
      have hof3 := hP.2 c (by omega)
      refine w_imul dX12_namesOf_27 ?_
      refine w_iadd dX12_namesOf_28 ?_
      refine w_istore_n [some (aR 12 0), some (aI x), some (aI ((mNames (gg 18 0) x c) + ((fwAnd (fwShr x (c : Int)) 1) * (gg 18 0 (7 * c + 1))))), some (aI (c : Int))] dX12_namesOf_29 rfl (by decide) ?_
      refine w_iinc [some (aR 12 0), some (aI x), some (aI ((mNames (gg 18 0) x c) + ((fwAnd (fwShr x (c : Int)) 1) * (gg 18 0 (7 * c + 1))))), some (aI ((c : Int) + 1))] dX12_namesOf_30 rfl rfl (by decide) ?_
      refine w_goto 4 dX12_namesOf_33 (by decide) ?_
      refine ih4 (by omega) _ _ ?_ ?_
      · exact (by omega)
      · exact (by rw [mNamesB])
  refine lp4 0 (Nat.zero_le _) _ _ ?_ ?_
  · exact (by omega)
  · exact rfl
set_option maxRecDepth 100000 in
set_option maxHeartbeats 4000000 in
theorem c_X12_isEnough {d : Nat} {h gg : fwH} {Q : Option fwV → fwH → Prop} (x : Int) (J : cOk gg) (R : jF gg h) (k : Q (some (aI (fwB (gg 3 0 4 ≤ mNames (gg 18 0) x (gg 5 0 3).toNat)))) h) : fwCt mX12_isEnough (d + 2) [aR 12 0, aI x] h Q := by
  refine fwCt_of [some (aR 12 0), some (aI x)] rfl rfl rfl ?_
  obtain ⟨hl, hP, hG, -, -, -, hlw, -, ha, hs, -, hsc⟩ := id J
  obtain ⟨⟨g1, g2⟩, ⟨g3, g4⟩, ⟨g5, g6⟩, g7, -⟩ := id hG
  have hpz := hP.1
  refine w_aload_n dX12_isEnough_0 rfl ?_
  refine w_iload_n dX12_isEnough_1 rfl ?_
  refine w_callV (d := d + 1) (S := []) [aI x] dX12_isEnough_2 ml_X12_260 ok_X12_namesOf vi_X12_namesOf rfl rfl (by decide) rfl (Nat.le_of_ble_eq_true rfl) ?_
  refine c_X12_namesOf (d := d) x J R ?_
  show fwWP mX12_isEnough (d + 2) 5 [some (aR 12 0), some (aI x)] [aI (mNames (gg 18 0) x (gg 5 0 3).toNat)] h Q
  have hnr1 := mNames_r2 hP x
  refine w_aload_n dX12_isEnough_5 rfl ?_
  refine w_getr 36 0 dX12_isEnough_6 fl_X12_9 rfl (by decide) ?_
  refine w_iconst dX12_isEnough_9 ?_
  refine w_ialdE (v := gg 3 0 4) dX12_isEnough_10 rfl (by decide) (by omega) (by omega) R.2.2.2.1 ?_
  refine w_icmp_lt 18 dX12_isEnough_11 (by decide) (by omega) (by omega) (fun c11 => ?_) (fun c11 => ?_)
  · refine w_iconst dX12_isEnough_18 ?_
    exact w_zretE dX12_isEnough_19 rfl (by first | (exfalso; omega) | (rw [fwB_t (by omega)]) | (rw [fwB_f (by omega)])) k
  · refine w_iconst dX12_isEnough_14 ?_
    refine w_goto 19 dX12_isEnough_15 (by decide) ?_
    exact w_zretE dX12_isEnough_19 rfl (by first | (exfalso; omega) | (rw [fwB_t (by omega)]) | (rw [fwB_f (by omega)])) k
/-! bits of FOLK's sets as natural numbers below 256 -/
theorem and_255 {a b : Nat} (ha : a < 256) (hb : b < 256) : fwAnd (a : Int) (b : Int) = ((a &&& b : Nat) : Int) := fwAnd_nat (by omega) (by omega)
theorem or_256 {a f : Nat} (ha : a < 256) (hf : f < 8) : fwOr (a : Int) (fwShl 1 (f : Int)) = ((a ||| 2 ^ f : Nat) : Int) ∧ a ||| 2 ^ f < 256 := by
  have h2 : 2 ^ f < 2 ^ 8 := Nat.pow_lt_pow_right (by omega) hf
  rw [fwShl1_nat (by omega), fwOr_nat (by omega) (by omega)]
  exact ⟨rfl, Nat.or_lt_two_pow (n := 8) (by omega) h2⟩
theorem or_same : ∀ f : Nat, f < 8 → ∀ a : Nat, a < 256 → fwAnd (fwShr (a : Int) (f : Int)) 1 = 1 → a ||| 2 ^ f = a := by decide +kernel
theorem or_bit : ∀ f : Nat, f < 8 → ∀ a : Nat, a < 256 → fwAnd (fwShr ((a ||| 2 ^ f : Nat) : Int) (f : Int)) 1 = 1 := by decide +kernel
theorem or_more : ∀ f : Nat, f < 8 → ∀ a : Nat, a < 256 → ¬ fwAnd (fwShr (a : Int) (f : Int)) 1 = 1 → a < a ||| 2 ^ f := by decide +kernel
theorem or_two : ∀ f : Nat, f < 8 → ∀ a : Nat, a < 256 → ∀ b : Nat, b < 256 → (fwAnd (fwShr (fwOr (a : Int) (b : Int)) (f : Int)) 1 = 1 ↔ fwAnd (fwShr (a : Int) (f : Int)) 1 = 1 ∨ fwAnd (fwShr (b : Int) (f : Int)) 1 = 1) := by
  intro f hf a ha b hb
  rw [fwOr_nat (by omega) (by omega)]
  have h9 : a ||| b < 2 ^ 8 := Nat.or_lt_two_pow (n := 8) (by omega) (by omega)
  have key : ∀ z : Nat, z < 256 → (fwAnd (fwShr (z : Int) (f : Int)) 1 = 1 ↔ z.testBit f = true) := by
    intro z hz
    rw [fwBit_nat (by omega) f (by omega)]
    cases z.testBit f <;> simp
  rw [key _ (by omega), key _ ha, key _ hb, Nat.testBit_or, Bool.or_eq_true]
theorem pop_or : ∀ f : Nat, f < 8 → ∀ a : Nat, a < 256 → ¬ fwAnd (fwShr (a : Int) (f : Int)) 1 = 1 → fwPop ((a ||| 2 ^ f : Nat) : Int) = fwPop (a : Int) + 1 := by decide +kernel
theorem pop_8 : ∀ a : Nat, a < 256 → (0 ≤ fwPop (a : Int) ∧ fwPop (a : Int) ≤ 8) ∧ (8 ≤ fwPop (a : Int) → a = 255) := by decide +kernel
theorem or_255s : ∀ f : Nat, f < 8 → 255 ||| 2 ^ f = 255 := by decide
theorem mPass_n {F : Nat → Int} {ba : Int} {a : Nat} (ha : a < 256) : ∀ f : Nat, f ≤ 8 → ∃ c : Nat, c < 256 ∧ mPass F ba (a : Int) f = (c : Int) ∧ (c = a ∨ fwPop (a : Int) < fwPop (c : Int)) := by
  intro f
  induction f with
  | zero => intro _; exact ⟨a, ha, rfl, Or.inl rfl⟩
  | succ f ih =>
    intro hf
    obtain ⟨c, h1, h2, h3⟩ := ih (by omega)
    rw [mPass, h2]
    split
    · rw [(or_256 h1 (by omega)).1]
      refine ⟨_, (or_256 h1 (by omega)).2, rfl, ?_⟩
      by_cases e : fwAnd (fwShr (c : Int) (f : Int)) 1 = 1
      · rw [or_same f (by omega) c h1 e]
        exact h3
      · right
        have := pop_or f (by omega) c h1 e
        rcases h3 with h3 | h3
        · subst h3; omega
        · omega
    · exact ⟨c, h1, rfl, h3⟩
theorem mPass_255 {F : Nat → Int} {ba : Int} : ∀ f : Nat, f ≤ 8 → mPass F ba 255 f = 255 := by
  intro f
  induction f with
  | zero => intro _; rfl
  | succ f ih =>
    intro hf
    rw [mPass, ih (by omega)]
    split
    · have := (or_256 (a := 255) (by omega) (show f < 8 by omega)).1
      rw [or_255s f (by omega)] at this
      exact this
    · rfl
theorem mSg_n {F : Nat → Int} {ba : Int} {n : Nat} (hn : n ≤ 8) : ∀ (k a : Nat), a < 256 → ∃ c : Nat, c < 256 ∧ mSg F ba n k (a : Int) = (c : Int) := by
  intro k
  induction k with
  | zero => intro a ha; exact ⟨a, ha, rfl⟩
  | succ k ih =>
    intro a ha
    rw [mSg]
    split
    · exact ⟨a, ha, rfl⟩
    · obtain ⟨c, h1, h2, -⟩ := mPass_n (F := F) (ba := ba) ha n hn
      rw [h2]
      exact ih c h1
theorem and_n {a : Nat} (ha : a < 256) (y : Int) : ∃ c : Nat, c < 256 ∧ fwAnd (a : Int) y = (c : Int) := by
  have e : fwAnd (a : Int) y = fwAnd (fwAnd (a : Int) y) 255 := by
    have h1 : Int32.ofInt (a : Int) &&& Int32.ofInt 255 = Int32.ofInt (a : Int) := by
      have h2 := and_255 (a := a) (b := 255) ha (by omega)
      unfold fwAnd at h2
      have h3 : a &&& 255 = a := by
        have := Nat.and_two_pow_sub_one_eq_mod a 8
        rw [show (2 ^ 8 - 1 : Nat) = 255 from rfl] at this
        rw [this]; omega
      rw [h3] at h2
      have h4 := congrArg Int32.ofInt h2
      rw [Int32.ofInt_toInt] at h4
      exact h4
    unfold fwAnd
    rw [Int32.ofInt_toInt, Int32.and_assoc, Int32.and_comm (Int32.ofInt y), ← Int32.and_assoc, h1]
  have h9 := fwAnd255 (fwAnd (a : Int) y)
  rw [← e] at h9
  exact ⟨(fwAnd (a : Int) y).toNat, by omega, by omega⟩
theorem mSign_n {F : Nat → Int} {n a : Nat} {ba : Int} (hn : n ≤ 8) (ha : a < 256) : ∃ c : Nat, c < 256 ∧ mSign F n (a : Int) ba = (c : Int) := by
  unfold mSign
  obtain ⟨c, h1, h2⟩ := and_n ha (fwXor ba (-1))
  rw [h2]
  exact mSg_n hn 8 c h1
theorem mSg_fix {F : Nat → Int} {ba s : Int} {n k : Nat} (h : mPass F ba s n = s) : s = mSg F ba n k s := by
  cases k with
  | zero => rfl
  | succ k => rw [mSg, if_pos h]
theorem sg_step {F : Nat → Int} {b s q c : Nat} (hb : b < 256) (hs : s < 256) (hq : q < 256) (hc : c < 8) (hF : 0 ≤ F (7 * c + 5)) (hF6 : 0 ≤ F (7 * c + 6) ∧ F (7 * c + 6) ≤ 255) (e : mPass F (b : Int) (s : Int) c = (q : Int)) : ((¬ fwAnd (fwShr (fwOr (q : Int) (b : Int)) (c : Int)) 1 = 1 ∧ F (7 * c + 5) ≠ 0 ∧ F (7 * c + 5) ≤ fwPop (fwAnd (q : Int) (F (7 * c + 6)))) → mPass F (b : Int) (s : Int) (c + 1) = fwOr (q : Int) (fwShl 1 (c : Int)) ∧ mPass F (b : Int) (s : Int) (c + 1) ≠ (s : Int)) ∧ (¬ (¬ fwAnd (fwShr (fwOr (q : Int) (b : Int)) (c : Int)) 1 = 1 ∧ F (7 * c + 5) ≠ 0 ∧ F (7 * c + 5) ≤ fwPop (fwAnd (q : Int) (F (7 * c + 6)))) → mPass F (b : Int) (s : Int) (c + 1) = (q : Int)) := by
  have hor := or_two c hc q hq b hb
  obtain ⟨fr, efr⟩ : ∃ fr : Nat, F (7 * c + 6) = (fr : Int) := ⟨(F (7 * c + 6)).toNat, by omega⟩
  have h1 := and_255 (a := q) (b := fr) hq (by omega)
  have h2 := and_255 (a := fr) (b := q) (by omega) hq
  have h3 : fr &&& q = q &&& fr := Nat.and_comm _ _
  have hbb := bit_01 (b : Int) (c : Int)
  rw [efr, h1]
  rw [mPass, e, efr, h2, h3]
  constructor
  · rintro ⟨z1, z2, z3⟩
    have y1 : ¬ fwAnd (fwShr (q : Int) (c : Int)) 1 = 1 := fun y => z1 (hor.mpr (Or.inl y))
    have y2 : ¬ fwAnd (fwShr (b : Int) (c : Int)) 1 = 1 := fun y => z1 (hor.mpr (Or.inr y))
    rw [if_pos ⟨⟨by omega, z3⟩, by omega⟩]
    refine ⟨rfl, ?_⟩
    rw [(or_256 hq hc).1]
    intro y3
    have y4 : q ||| 2 ^ c = s := by omega
    have y5 := pop_or c hc q hq y1
    have y6 := or_more c hc q hq y1
    obtain ⟨q2, x1, x2, x3⟩ := mPass_n (F := F) (ba := (b : Int)) hs c (by omega)
    rw [e] at x2
    have x4 : q2 = q := by omega
    subst x4
    rcases x3 with x3 | x3
    · omega
    · rw [y4] at y5
      omega
  · intro z
    by_cases y : (0 < F (7 * c + 5) ∧ F (7 * c + 5) ≤ fwPop ((q &&& fr : Nat) : Int)) ∧ fwAnd (fwShr (b : Int) (c : Int)) 1 = 0
    · rw [if_pos y]
      by_cases y1 : fwAnd (fwShr (q : Int) (c : Int)) 1 = 1
      · rw [(or_256 hq hc).1, or_same c hc q hq y1]
      · exfalso
        apply z
        refine ⟨fun y3 => ?_, by omega, y.1.2⟩
        rcases hor.mp y3 with y4 | y4
        · exact y1 y4
        · omega
    · rw [if_neg y]
set_option maxRecDepth 100000 in
set_option maxHeartbeats 4000000 in
theorem c_X12_signing {d : Nat} {h gg : fwH} {Q : Option fwV → fwH → Prop} (a b : Nat) (J : cOk gg) (R : jF gg h) (hha : a < 256) (hhb : b < 256) (k : Q (some (aI (mSign (gg 18 0) (gg 5 0 3).toNat (a : Int) (b : Int)))) h) : fwCt mX12_signing (d + 1) [aR 12 0, aI (a : Int), aI (b : Int)] h Q := by
  refine fwCt_of [some (aR 12 0), some (aI (a : Int)), some (aI (b : Int)), none, none, none] rfl rfl rfl ?_
  obtain ⟨hl, hP, hG, -, -, -, hlw, -, ha, hs, -, hsc⟩ := id J
  obtain ⟨⟨g1, g2⟩, ⟨g3, g4⟩, ⟨g5, g6⟩, g7, -⟩ := id hG
  have hpz := hP.1
  refine w_iload_n dX12_signing_0 rfl ?_
  refine w_iload_n dX12_signing_1 rfl ?_
  refine w_iconst dX12_signing_2 ?_
  refine w_ixor dX12_signing_3 ?_
  refine w_iand dX12_signing_4 ?_
  refine w_istore_n [some (aR 12 0), some (aI (a : Int)), some (aI (b : Int)), some (aI (fwAnd (a : Int) (fwXor (b : Int) (-1)))), none, none] dX12_signing_5 rfl (by decide) ?_
  refine w_iconst dX12_signing_6 ?_
  refine w_istore [some (aR 12 0), some (aI (a : Int)), some (aI (b : Int)), some (aI (fwAnd (a : Int) (fwXor (b : Int) (-1)))), some (aI 1), none] dX12_signing_7 rfl (by decide) ?_
  have fin9 : ∀ v : Int, v = mSign (gg 18 0) (gg 5 0 3).toNat (a : Int) (b : Int) → fwWP mX12_signing (d + 1) 9 [some (aR 12 0), some (aI (a : Int)), some (aI (b : Int)), some (aI v), some (aI 0), none] [] h Q := by
    intro v ev
    subst ev
    show fwWP mX12_signing (d + 1) 9 [some (aR 12 0), some (aI (a : Int)), some (aI (b : Int)), some (aI (mSign (gg 18 0) (gg 5 0 3).toNat (a : Int) (b : Int))), some (aI 0), none] [] h Q
    refine w_iload dX12_signing_9 rfl ?_
    refine w_if_eq 99 dX12_signing_11 (by decide) (by omega) (fun c11 => ?_) (fun c11 => ?_)
    · refine w_iload_n dX12_signing_99 rfl ?_
      exact w_iretE dX12_signing_100 rfl (by rfl) k
    · (exfalso; omega)
  have lp9 : ∀ c9 : Nat, c9 ≤ 8 → ∀ s : Nat, s < 256 → (c9 : Int) ≤ fwPop (s : Int) → mSg (gg 18 0) (b : Int) (gg 5 0 3).toNat (8 - c9) (s : Int) = mSign (gg 18 0) (gg 5 0 3).toNat (a : Int) (b : Int) → fwWP mX12_signing (d + 1) 9 [some (aR 12 0), some (aI (a : Int)), some (aI (b : Int)), some (aI (s : Int)), some (aI 1), none] [] h Q := by
    refine fw_up (fun c9 hc9 ih9 => ?_)
    intro s ivs ivp ivr
    show fwWP mX12_signing (d + 1) 9 [some (aR 12 0), some (aI (a : Int)), some (aI (b : Int)), some (aI (s : Int)), some (aI 1), none] [] h Q
    refine w_iload dX12_signing_9 rfl ?_
    refine w_if_eq 99 dX12_signing_11 (by decide) (by omega) (fun c11 => ?_) (fun c11 => ?_)
    · (exfalso; omega)
    · refine w_iconst dX12_signing_14 ?_
      refine w_istore [some (aR 12 0), some (aI (a : Int)), some (aI (b : Int)), some (aI (s : Int)), some (aI 0), none] dX12_signing_15 rfl (by decide) ?_
      refine w_iconst dX12_signing_17 ?_
      refine w_istore [some (aR 12 0), some (aI (a : Int)), some (aI (b : Int)), some (aI (s : Int)), some (aI 0), some (aI 0)] dX12_signing_18 rfl (by decide) ?_
      have lp20 : ∀ c : Nat, c ≤ (gg 5 0 3).toNat → ∀ (y20 sv mv : Int), y20 = (c : Int) → sv = mPass (gg 18 0) (b : Int) (s : Int) c → mv = (if mPass (gg 18 0) (b : Int) (s : Int) c = (s : Int) then 0 else 1) → fwWP mX12_signing (d + 1) 20 [some (aR 12 0), some (aI (a : Int)), some (aI (b : Int)), some (aI sv), some (aI mv), some (aI y20)] [] h Q := by
        refine fw_up (fun c hc20 ih20 => ?_)
        intro y20 sv mv ey20 e_sv e_mv
        subst ey20
        subst e_sv
        subst e_mv
        show fwWP mX12_signing (d + 1) 20 [some (aR 12 0), some (aI (a : Int)), some (aI (b : Int)), some (aI (mPass (gg 18 0) (b : Int) (s : Int) c)), some (aI (if mPass (gg 18 0) (b : Int) (s : Int) c = (s : Int) then 0 else 1)), some (aI (c : Int))] [] h Q
        refine w_iload dX12_signing_20 rfl ?_
        refine w_aload_n dX12_signing_22 rfl ?_
        refine w_getr 36 0 dX12_signing_23 fl_X12_9 rfl (by decide) ?_
        refine w_bipush dX12_signing_26 rfl ?_
        refine w_ialdE (v := gg 5 0 3) dX12_signing_28 rfl (by decide) (by omega) (by omega) R.2.2.2.2.2.2.1 ?_
        refine w_icmp_ge 96 dX12_signing_29 (by decide) (by omega) (by omega) (fun c29 => ?_) (fun c29 => ?_)
        · have ec20 : (gg 5 0 3).toNat = c := by omega
          subst ec20
          refine w_goto 9 dX12_signing_96 (by decide) ?_
          refine w_drop [5] [some (aR 12 0), some (aI (a : Int)), some (aI (b : Int)), some (aI (mPass (gg 18 0) (b : Int) (s : Int) (gg 5 0 3).toNat)), some (aI (if mPass (gg 18 0) (b : Int) (s : Int) (gg 5 0 3).toNat = (s : Int) then 0 else 1)), none] rfl ?_
          by_cases e9 : mPass (gg 18 0) (b : Int) (s : Int) (gg 5 0 3).toNat = (s : Int)
          · rw [e9, if_pos rfl]
            exact fin9 _ (by rw [← ivr]; exact mSg_fix e9)
          · rw [if_neg e9]
            obtain ⟨s2, z1, z2, z3⟩ := mPass_n (F := gg 18 0) (ba := (b : Int)) ivs (gg 5 0 3).toNat (by omega)
            have z4 := z3.resolve_left (fun q0 => e9 (by rw [z2, q0]))
            have z5 := pop_8 s2 z1
            have z6 := pop_8 s ivs
            have z7 : c9 < 8 := by
              rcases Nat.lt_or_ge c9 8 with q0 | q0
              · exact q0
              · exact absurd (show s = 255 from z6.2 (by omega)) (fun q1 => e9 (by rw [q1]; exact mPass_255 _ (by omega)))
            rw [z2]
            exact ih9 z7 _ z1 (by omega) (by rw [← ivr, show 8 - c9 = (8 - (c9 + 1)) + 1 by omega, mSg.eq_2, if_neg e9, z2])
        · obtain ⟨q, hq, eq9, -⟩ := mPass_n (F := gg 18 0) (ba := (b : Int)) ivs c (by omega)
          have hfr := hP.2 c (by omega)
          have hst := sg_step hhb ivs hq (by omega) (by omega) (by omega) eq9
          obtain ⟨w6, hw6, ew6⟩ := and_n hq (gg 18 0 (7 * c + 6))
          rw [eq9]
          refine w_iload_n dX12_signing_32 rfl ?_
          refine w_iload_n dX12_signing_33 rfl ?_
          refine w_ior dX12_signing_34 ?_
          refine w_iload dX12_signing_35 rfl ?_
          refine w_callS (d := d + 0) (S := []) [aI (fwOr (q : Int) (b : Int)), aI (c : Int)] dX12_signing_37 ml_X12_257 ok_X12_bit st_X12_bit rfl (Nat.le_of_ble_eq_true rfl) ?_
          refine c_X12_bit (d := d) (fwOr (q : Int) (b : Int)) (c : Int) ?_
          show fwWP mX12_signing (d + 1) 40 [some (aR 12 0), some (aI (a : Int)), some (aI (b : Int)), some (aI (q : Int)), some (aI (if (q : Int) = (s : Int) then 0 else 1)), some (aI (c : Int))] [aI (fwAnd (fwShr (fwOr (q : Int) (b : Int)) (c : Int)) 1)] h Q
          have hbt4 := bit_01 (fwOr (q : Int) (b : Int)) (c : Int)
          refine w_iconst dX12_signing_40 ?_
          refine w_icmp_eq 90 dX12_signing_41 (by decide) (by omega) (by omega) (fun c41 => ?_) (fun c41 => ?_)
          · refine w_iinc [some (aR 12 0), some (aI (a : Int)), some (aI (b : Int)), some (aI (q : Int)), some (aI (if (q : Int) = (s : Int) then 0 else 1)), some (aI ((c : Int) + 1))] dX12_signing_90 rfl rfl (by decide) ?_
            refine w_goto 20 dX12_signing_93 (by decide) ?_
            refine ih20 (by omega) _ _ _ ?_ ?_ ?_
            · exact (by omega)
            · exact (by rw [hst.2 (fun z => z.1 c41)])
            · exact (by rw [hst.2 (fun z => z.1 c41)])
          · refine w_aload_n dX12_signing_44 rfl ?_
            refine w_iload dX12_signing_45 rfl ?_
            refine w_iconst dX12_signing_47 ?_
            refine w_callV (d := d + 0) (S := []) [aI (c : Int), aI 5] dX12_signing_48 ml_X12_220 ok_X12_of vi_X12_of rfl rfl (by decide) rfl (Nat.le_of_ble_eq_true rfl) ?_
            refine c_ofE (d := d) c 5 (c : Int) J R (by omega) (by omega) (by omega) ?_
            show fwWP mX12_signing (d + 1) 51 [some (aR 12 0), some (aI (a : Int)), some (aI (b : Int)), some (aI (q : Int)), some (aI (if (q : Int) = (s : Int) then 0 else 1)), some (aI (c : Int))] [aI (gg 18 0 (7 * c + 5))] h Q
            have hof6 := hP.2 c (by omega)
            refine w_if_eq 90 dX12_signing_51 (by decide) (by omega) (fun c51 => ?_) (fun c51 => ?_)
            · refine w_iinc [some (aR 12 0), some (aI (a : Int)), some (aI (b : Int)), some (aI (q : Int)), some (aI (if (q : Int) = (s : Int) then 0 else 1)), some (aI ((c : Int) + 1))] dX12_signing_90 rfl rfl (by decide) ?_
              refine w_goto 20 dX12_signing_93 (by decide) ?_
              refine ih20 (by omega) _ _ _ ?_ ?_ ?_
              · exact (by omega)
              · exact (by rw [hst.2 (fun z => z.2.1 c51)])
              · exact (by rw [hst.2 (fun z => z.2.1 c51)])
            · refine w_iload_n dX12_signing_54 rfl ?_
              refine w_aload_n dX12_signing_55 rfl ?_
              refine w_iload dX12_signing_56 rfl ?_
              refine w_bipush dX12_signing_58 rfl ?_
              refine w_callV (d := d + 0) (S := [aI (q : Int)]) [aI (c : Int), aI 6] dX12_signing_60 ml_X12_220 ok_X12_of vi_X12_of rfl rfl (by decide) rfl (Nat.le_of_ble_eq_true rfl) ?_
              refine c_ofE (d := d) c 6 (c : Int) J R (by omega) (by omega) (by omega) ?_
              show fwWP mX12_signing (d + 1) 63 [some (aR 12 0), some (aI (a : Int)), some (aI (b : Int)), some (aI (q : Int)), some (aI (if (q : Int) = (s : Int) then 0 else 1)), some (aI (c : Int))] [aI (gg 18 0 (7 * c + 6)), aI (q : Int)] h Q
              have hof8 := hP.2 c (by omega)
              refine w_iand dX12_signing_63 ?_
              refine w_callS (d := d + 0) (S := []) [aI (fwAnd (q : Int) (gg 18 0 (7 * c + 6)))] dX12_signing_64 ml_X12_229 ok_X12_bits st_X12_bits rfl (Nat.le_of_ble_eq_true rfl) ?_
              refine c_bitsP (d := d) (fwAnd (q : Int) (gg 18 0 (7 * c + 6))) (by first | assumption | omega | decide) ?_
              show fwWP mX12_signing (d + 1) 67 [some (aR 12 0), some (aI (a : Int)), some (aI (b : Int)), some (aI (q : Int)), some (aI (if (q : Int) = (s : Int) then 0 else 1)), some (aI (c : Int))] [aI (fwPop (fwAnd (q : Int) (gg 18 0 (7 * c + 6))))] h Q
              have hpp9 := fwPop_rng (fwAnd (q : Int) (gg 18 0 (7 * c + 6)))
              refine w_aload_n dX12_signing_67 rfl ?_
              refine w_iload dX12_signing_68 rfl ?_
              refine w_iconst dX12_signing_70 ?_
              refine w_callV (d := d + 0) (S := [aI (fwPop (fwAnd (q : Int) (gg 18 0 (7 * c + 6))))]) [aI (c : Int), aI 5] dX12_signing_71 ml_X12_220 ok_X12_of vi_X12_of rfl rfl (by decide) rfl (Nat.le_of_ble_eq_true rfl) ?_
              refine c_ofE (d := d) c 5 (c : Int) J R (by omega) (by omega) (by omega) ?_
              show fwWP mX12_signing (d + 1) 74 [some (aR 12 0), some (aI (a : Int)), some (aI (b : Int)), some (aI (q : Int)), some (aI (if (q : Int) = (s : Int) then 0 else 1)), some (aI (c : Int))] [aI (gg 18 0 (7 * c + 5)), aI (fwPop (fwAnd (q : Int) (gg 18 0 (7 * c + 6))))] h Q
              have hof10 := hP.2 c (by omega)
              refine w_icmp_ge 80 dX12_signing_74 (by decide) (by omega) (by omega) (fun c74 => ?_) (fun c74 => ?_)
              · refine w_iload_n dX12_signing_80 rfl ?_
                refine w_iconst dX12_signing_81 ?_
                refine w_iload dX12_signing_82 rfl ?_
                refine w_ishl dX12_signing_84 ?_
                refine w_ior dX12_signing_85 ?_
                refine w_istore_n [some (aR 12 0), some (aI (a : Int)), some (aI (b : Int)), some (aI (fwOr (q : Int) (fwShl 1 (c : Int)))), some (aI (if (q : Int) = (s : Int) then 0 else 1)), some (aI (c : Int))] dX12_signing_86 rfl (by decide) ?_
                refine w_iconst dX12_signing_87 ?_
                refine w_istore [some (aR 12 0), some (aI (a : Int)), some (aI (b : Int)), some (aI (fwOr (q : Int) (fwShl 1 (c : Int)))), some (aI 1), some (aI (c : Int))] dX12_signing_88 rfl (by decide) ?_
                refine w_iinc [some (aR 12 0), some (aI (a : Int)), some (aI (b : Int)), some (aI (fwOr (q : Int) (fwShl 1 (c : Int)))), some (aI 1), some (aI ((c : Int) + 1))] dX12_signing_90 rfl rfl (by decide) ?_
                refine w_goto 20 dX12_signing_93 (by decide) ?_
                refine ih20 (by omega) _ _ _ ?_ ?_ ?_
                · exact (by omega)
                · exact (by rw [(hst.1 ⟨c41, c51, c74⟩).1])
                · exact (by rw [if_neg (hst.1 ⟨c41, c51, c74⟩).2])
              · refine w_goto 90 dX12_signing_77 (by decide) ?_
                refine w_iinc [some (aR 12 0), some (aI (a : Int)), some (aI (b : Int)), some (aI (q : Int)), some (aI (if (q : Int) = (s : Int) then 0 else 1)), some (aI ((c : Int) + 1))] dX12_signing_90 rfl rfl (by decide) ?_
                refine w_goto 20 dX12_signing_93 (by decide) ?_
                refine ih20 (by omega) _ _ _ ?_ ?_ ?_
                · exact (by omega)
                · exact (by rw [hst.2 (fun z => absurd z.2.2 (by omega))])
                · exact (by rw [hst.2 (fun z => absurd z.2.2 (by omega))])
      refine lp20 0 (Nat.zero_le _) _ _ _ ?_ ?_ ?_
      · exact (by omega)
      · exact rfl
      · exact (by rw [mPass, if_pos rfl])
  obtain ⟨s0, z1, z2⟩ := and_n hha (fwXor (b : Int) (-1))
  rw [z2]
  exact lp9 0 (by omega) s0 z1 (by have := pop_8 s0 z1; omega) (by unfold mSign; rw [z2])

section
set_option maxRecDepth 100000 in
set_option maxHeartbeats 4000000 in
theorem c_X12_isThere {d : Nat} {h gg : fwH} {Q : Option fwV → fwH → Prop} (s b : Nat) (S : jS gg h) (hs : sOk gg) (hsl : s < 4) (hb : 2 * b + 1 < 60) (k : Q (some (aI (fwB (¬ mAll (mNew (gg 33 s) b) b = true)))) h) : fwCt mX12_isThere (d + 1) [aR 12 0, aI (s : Int), aI (2 * (b : Int))] h Q := by
  refine fwCt_of [some (aR 12 0), some (aI (s : Int)), some (aI (2 * (b : Int))), none] rfl rfl rfl ?_
  refine w_iconst dX12_isThere_0 ?_
  refine w_istore_n [some (aR 12 0), some (aI (s : Int)), some (aI (2 * (b : Int))), some (aI 0)] dX12_isThere_1 rfl (by decide) ?_
  have lp2 : ∀ c : Nat, c ≤ b → ∀ (y2  : Int), y2 = 2 * (c : Int) → (mAll (mNew (gg 33 s) b) c = true) → fwWP mX12_isThere (d + 1) 2 [some (aR 12 0), some (aI (s : Int)), some (aI (2 * (b : Int))), some (aI y2)] [] h Q := by
    refine fw_up (fun c hc2 ih2 => ?_)
    intro y2  ey2 iv2_0
    subst ey2
    show fwWP mX12_isThere (d + 1) 2 [some (aR 12 0), some (aI (s : Int)), some (aI (2 * (b : Int))), some (aI (2 * (c : Int)))] [] h Q
    refine w_iload_n dX12_isThere_2 rfl ?_
    refine w_iload_n dX12_isThere_3 rfl ?_
    refine w_icmp_ge 51 dX12_isThere_4 (by decide) (by omega) (by omega) (fun c4 => ?_) (fun c4 => ?_)
    · have ec2 : b = c := by omega
      subst ec2
      refine w_iconst dX12_isThere_51 ?_
      exact w_zretE (P := ¬ mAll (mNew (gg 33 s) b) b = true) dX12_isThere_52 rfl (by rw [fwB_f (fun z0 => z0 iv2_0)]) k
    · refine w_aload_n dX12_isThere_7 rfl ?_
      refine w_iload_n dX12_isThere_8 rfl ?_
      refine w_iload_n dX12_isThere_9 rfl ?_
      refine w_callV (d := d + 0) (S := []) [aI (s : Int), aI (2 * (c : Int))] dX12_isThere_10 ml_X12_360 ok_X12_numberAt vi_X12_numberAt rfl rfl (by decide) rfl (Nat.le_of_ble_eq_true rfl) ?_
      refine c_naE (d := d) s (2 * c) (s : Int) (2 * (c : Int)) S (by omega) (by omega) (by omega) (by omega) ?_
      show fwWP mX12_isThere (d + 1) 13 [some (aR 12 0), some (aI (s : Int)), some (aI (2 * (b : Int))), some (aI (2 * (c : Int)))] [aJ (gg 33 s (2 * c))] h Q
      have hl2 := (hs s (by omega)).2.2 (2 * c) (by omega)
      refine w_aload_n dX12_isThere_13 rfl ?_
      refine w_iload_n dX12_isThere_14 rfl ?_
      refine w_iload_n dX12_isThere_15 rfl ?_
      refine w_callV (d := d + 0) (S := [aJ (gg 33 s (2 * c))]) [aI (s : Int), aI (2 * (b : Int))] dX12_isThere_16 ml_X12_360 ok_X12_numberAt vi_X12_numberAt rfl rfl (by decide) rfl (Nat.le_of_ble_eq_true rfl) ?_
      refine c_naE (d := d) s (2 * b) (s : Int) (2 * (b : Int)) S (by omega) (by omega) (by omega) (by omega) ?_
      show fwWP mX12_isThere (d + 1) 19 [some (aR 12 0), some (aI (s : Int)), some (aI (2 * (b : Int))), some (aI (2 * (c : Int)))] [aJ (gg 33 s (2 * b)), aJ (gg 33 s (2 * c))] h Q
      have hl3 := (hs s (by omega)).2.2 (2 * b) (by omega)
      refine w_lc_ne 45 dX12_isThere_19 dX12_isThere_20 (by decide) (by omega) (by omega) (fun c20 => ?_) (fun c20 => ?_)
      · refine w_iinc [some (aR 12 0), some (aI (s : Int)), some (aI (2 * (b : Int))), some (aI ((2 * (c : Int)) + 2))] dX12_isThere_45 rfl rfl (by decide) ?_
        refine w_goto 2 dX12_isThere_48 (by decide) ?_
        refine ih2 (by omega) _ ?_ ?_
        · exact (by omega)
        · exact (by rw [mAll, iv2_0, Bool.true_and]; exact decide_eq_true (fun z0 => by first | exact c20 z0.1 | exact c40 z0.2))
      · refine w_aload_n dX12_isThere_23 rfl ?_
        refine w_iload_n dX12_isThere_24 rfl ?_
        refine w_iload_n dX12_isThere_25 rfl ?_
        refine w_iconst dX12_isThere_26 ?_
        refine w_iadd dX12_isThere_27 ?_
        refine w_callV (d := d + 0) (S := []) [aI (s : Int), aI ((2 * (c : Int)) + 1)] dX12_isThere_28 ml_X12_360 ok_X12_numberAt vi_X12_numberAt rfl rfl (by decide) rfl (Nat.le_of_ble_eq_true rfl) ?_
        refine c_naE (d := d) s ((2 * c) + 1) (s : Int) ((2 * (c : Int)) + 1) S (by omega) (by omega) (by omega) (by omega) ?_
        show fwWP mX12_isThere (d + 1) 31 [some (aR 12 0), some (aI (s : Int)), some (aI (2 * (b : Int))), some (aI (2 * (c : Int)))] [aJ (gg 33 s ((2 * c) + 1))] h Q
        have hl4 := (hs s (by omega)).2.2 ((2 * c) + 1) (by omega)
        refine w_aload_n dX12_isThere_31 rfl ?_
        refine w_iload_n dX12_isThere_32 rfl ?_
        refine w_iload_n dX12_isThere_33 rfl ?_
        refine w_iconst dX12_isThere_34 ?_
        refine w_iadd dX12_isThere_35 ?_
        refine w_callV (d := d + 0) (S := [aJ (gg 33 s ((2 * c) + 1))]) [aI (s : Int), aI ((2 * (b : Int)) + 1)] dX12_isThere_36 ml_X12_360 ok_X12_numberAt vi_X12_numberAt rfl rfl (by decide) rfl (Nat.le_of_ble_eq_true rfl) ?_
        refine c_naE (d := d) s ((2 * b) + 1) (s : Int) ((2 * (b : Int)) + 1) S (by omega) (by omega) (by omega) (by omega) ?_
        show fwWP mX12_isThere (d + 1) 39 [some (aR 12 0), some (aI (s : Int)), some (aI (2 * (b : Int))), some (aI (2 * (c : Int)))] [aJ (gg 33 s ((2 * b) + 1)), aJ (gg 33 s ((2 * c) + 1))] h Q
        have hl5 := (hs s (by omega)).2.2 ((2 * b) + 1) (by omega)
        refine w_lc_ne 45 dX12_isThere_39 dX12_isThere_40 (by decide) (by omega) (by omega) (fun c40 => ?_) (fun c40 => ?_)
        · refine w_iinc [some (aR 12 0), some (aI (s : Int)), some (aI (2 * (b : Int))), some (aI ((2 * (c : Int)) + 2))] dX12_isThere_45 rfl rfl (by decide) ?_
          refine w_goto 2 dX12_isThere_48 (by decide) ?_
          refine ih2 (by omega) _ ?_ ?_
          · exact (by omega)
          · exact (by rw [mAll, iv2_0, Bool.true_and]; exact decide_eq_true (fun z0 => by first | exact c20 z0.1 | exact c40 z0.2))
        · refine w_iconst dX12_isThere_43 ?_
          exact w_zretE (P := ¬ mAll (mNew (gg 33 s) b) b = true) dX12_isThere_44 rfl (by rw [fwB_t]; intro z0; have z1 := of_decide_eq_true ((mAll_iff _ _).mp z0 c (by omega)); exact z1 ⟨c20, c40⟩) k
  refine lp2 0 (Nat.zero_le _) _ ?_ ?_
  · exact (by omega)
  · exact rfl
set_option maxRecDepth 100000 in
set_option maxHeartbeats 4000000 in
theorem c_X12_hasName {d : Nat} {h gg : fwH} {Q : Option fwV → fwH → Prop} (s b : Nat) (J : cOk gg) (R : jF gg h) (S : jS gg h) (hsl : s < 4) (hb : 2 * b + 1 < 60) (hfo : 0 ≤ gg 33 s (2 * b) ∧ gg 33 s (2 * b) < gg 5 0 3) (k : Q (some (aI (fwB (gg 33 s (2 * b + 1) < gg 18 0 (7 * (gg 33 s (2 * b)).toNat + 1))))) h) : fwCt mX12_hasName (d + 1) [aR 12 0, aI (s : Int), aI (2 * (b : Int))] h Q := by
  refine fwCt_of [some (aR 12 0), some (aI (s : Int)), some (aI (2 * (b : Int)))] rfl rfl rfl ?_
  obtain ⟨hl, hP, hG, -, -, -, hlw, -, ha, hs, -, hsc⟩ := id J
  obtain ⟨⟨g1, g2⟩, ⟨g3, g4⟩, ⟨g5, g6⟩, g7, -⟩ := id hG
  have hpz := hP.1
  refine w_aload_n dX12_hasName_0 rfl ?_
  refine w_iload_n dX12_hasName_1 rfl ?_
  refine w_iload_n dX12_hasName_2 rfl ?_
  refine w_iconst dX12_hasName_3 ?_
  refine w_iadd dX12_hasName_4 ?_
  refine w_callV (d := d + 0) (S := []) [aI (s : Int), aI ((2 * (b : Int)) + 1)] dX12_hasName_5 ml_X12_360 ok_X12_numberAt vi_X12_numberAt rfl rfl (by decide) rfl (Nat.le_of_ble_eq_true rfl) ?_
  refine c_naE (d := d) s ((2 * b) + 1) (s : Int) ((2 * (b : Int)) + 1) S (by omega) (by omega) (by omega) (by omega) ?_
  show fwWP mX12_hasName (d + 1) 8 [some (aR 12 0), some (aI (s : Int)), some (aI (2 * (b : Int)))] [aJ (gg 33 s ((2 * b) + 1))] h Q
  have hl1 := (hs s (by omega)).2.2 ((2 * b) + 1) (by omega)
  refine w_aload_n dX12_hasName_8 rfl ?_
  refine w_aload_n dX12_hasName_9 rfl ?_
  refine w_iload_n dX12_hasName_10 rfl ?_
  refine w_iload_n dX12_hasName_11 rfl ?_
  refine w_callV (d := d + 0) (S := [aR 12 0, aJ (gg 33 s ((2 * b) + 1))]) [aI (s : Int), aI (2 * (b : Int))] dX12_hasName_12 ml_X12_360 ok_X12_numberAt vi_X12_numberAt rfl rfl (by decide) rfl (Nat.le_of_ble_eq_true rfl) ?_
  refine c_naE (d := d) s (2 * b) (s : Int) (2 * (b : Int)) S (by omega) (by omega) (by omega) (by omega) ?_
  show fwWP mX12_hasName (d + 1) 15 [some (aR 12 0), some (aI (s : Int)), some (aI (2 * (b : Int)))] [aJ (gg 33 s (2 * b)), aR 12 0, aJ (gg 33 s ((2 * b) + 1))] h Q
  have hl2 := (hs s (by omega)).2.2 (2 * b) (by omega)
  refine w_l2i dX12_hasName_15 ?_
  refine w_iconst dX12_hasName_16 ?_
  refine w_callV (d := d + 0) (S := [aJ (gg 33 s ((2 * b) + 1))]) [aI (gg 33 s (2 * b)), aI 1] dX12_hasName_17 ml_X12_220 ok_X12_of vi_X12_of rfl rfl (by decide) rfl (Nat.le_of_ble_eq_true rfl) ?_
  refine c_ofE (d := d) (gg 33 s (2 * b)).toNat 1 (gg 33 s (2 * b)) J R (by omega) (by omega) (by omega) ?_
  show fwWP mX12_hasName (d + 1) 20 [some (aR 12 0), some (aI (s : Int)), some (aI (2 * (b : Int)))] [aI (gg 18 0 (7 * (gg 33 s (2 * b)).toNat + 1)), aJ (gg 33 s ((2 * b) + 1))] h Q
  have hof3 := hP.2 (gg 33 s (2 * b)).toNat (by omega)
  refine w_i2l dX12_hasName_20 (by omega) ?_
  refine w_lc_ge 29 dX12_hasName_21 dX12_hasName_22 (by decide) (by omega) (by omega) (fun c22 => ?_) (fun c22 => ?_)
  · refine w_iconst dX12_hasName_29 ?_
    exact w_zretE dX12_hasName_30 rfl (by first | (exfalso; omega) | (rw [fwB_t (by omega)]) | (rw [fwB_f (by omega)])) k
  · refine w_iconst dX12_hasName_25 ?_
    refine w_goto 30 dX12_hasName_26 (by decide) ?_
    exact w_zretE dX12_hasName_30 rfl (by first | (exfalso; omega) | (rw [fwB_t (by omega)]) | (rw [fwB_f (by omega)])) k
set_option maxRecDepth 100000 in
set_option maxHeartbeats 4000000 in
theorem c_X12_asksNames {d : Nat} {h gg : fwH} {Q : Option fwV → fwH → Prop} (x : Int) (J : cOk gg) (R : jF gg h) (S : jS gg h) (hx : -2147483648 ≤ x ∧ x < 2147483648) (k : (¬ mRl gg x → Q (some (aI (mRlR gg x))) h) ∧ (mRl gg x → Q (some (aI 0)) h)) : fwCt mX12_asksNames (d + 2) [aR 12 0, aI x, aI 1] h Q := by
  refine fwCt_of [some (aR 12 0), some (aI x), some (aI 1), none] rfl rfl rfl ?_
  obtain ⟨hl, hP, hG, -, -, -, hlw, -, ha, hs, -, hsc⟩ := id J
  obtain ⟨⟨g1, g2⟩, ⟨g3, g4⟩, ⟨g5, g6⟩, g7, -⟩ := id hG
  have hpz := hP.1
  refine w_iload_n dX12_asksNames_0 rfl ?_
  refine w_callS (d := d + 1) (S := []) [aI x] dX12_asksNames_1 ml_X12_357 ok_X12_isSlot st_X12_isSlot rfl (Nat.le_of_ble_eq_true rfl) ?_
  refine c_X12_isSlot (d := d) x (by omega) ?_
  show fwWP mX12_asksNames (d + 2) 4 [some (aR 12 0), some (aI x), some (aI 1), none] [aI (fwB (0 ≤ x ∧ x ≤ 3))] h Q
  refine w_ifB_eq 18 dX12_asksNames_4 (by decide) (fun c4 => ?_) (fun c4 => ?_)
  · refine w_bipush dX12_asksNames_18 rfl ?_
    exact w_iretE dX12_asksNames_20 rfl (by unfold mRlR; rw [if_neg (by omega)]) (k.1 (fun q0 => by have q1 := q0.1; have q2 := q0.2.1; omega))
  · refine w_aload_n dX12_asksNames_7 rfl ?_
    refine w_callV (d := d + 1) (S := []) [] dX12_asksNames_8 ml_X12_73 ok_X12_isMount vi_X12_isMount rfl rfl (by decide) rfl (Nat.le_of_ble_eq_true rfl) ?_
    refine c_X12_isMount (d := (d + 1)) J R ?_
    show fwWP mX12_asksNames (d + 2) 11 [some (aR 12 0), some (aI x), some (aI 1), none] [aI (fwB (0 < gg 3 0 6))] h Q
    refine w_ifB_eq 18 dX12_asksNames_11 (by decide) (fun c11 => ?_) (fun c11 => ?_)
    · refine w_bipush dX12_asksNames_18 rfl ?_
      exact w_iretE dX12_asksNames_20 rfl (by unfold mRlR; rw [if_neg (by omega)]) (k.1 (fun q0 => by have q1 := q0.1; have q2 := q0.2.1; omega))
    · refine w_iload_n dX12_asksNames_14 rfl ?_
      refine w_if_ne 21 dX12_asksNames_15 (by decide) (by omega) (fun c15 => ?_) (fun c15 => ?_)
      · obtain ⟨s, rfl⟩ : ∃ s : Nat, x = (s : Int) := ⟨x.toNat, by omega⟩
        have hs35 := (hs s (by omega)).1
        refine w_aload_n dX12_asksNames_21 rfl ?_
        refine w_getr 46 0 dX12_asksNames_22 fl_X12_47 rfl (by decide) ?_
        refine w_iload_n dX12_asksNames_25 rfl ?_
        refine w_ialdE (v := gg 35 0 s) dX12_asksNames_26 rfl (by decide) (by omega) (by omega) (S s (by omega)).1 ?_
        refine w_iconst dX12_asksNames_27 ?_
        refine w_icmp_ne 34 dX12_asksNames_28 (by decide) (by omega) (by omega) (fun c28 => ?_) (fun c28 => ?_)
        · refine w_aload_n dX12_asksNames_34 rfl ?_
          refine w_getr 46 0 dX12_asksNames_35 fl_X12_47 rfl (by decide) ?_
          refine w_iload_n dX12_asksNames_38 rfl ?_
          refine w_ialdE (v := gg 35 0 s) dX12_asksNames_39 rfl (by decide) (by omega) (by omega) (S s (by omega)).1 ?_
          refine w_iconst dX12_asksNames_40 ?_
          have hrm : fwRem (gg 35 0 s) 2 = gg 35 0 s % 2 := fwRem_nn (by omega) (by omega)
          refine w_irem dX12_asksNames_41 (by omega) (by omega) ?_
          rw [hrm]
          refine w_if_eq 48 dX12_asksNames_42 (by decide) (by omega) (fun c42 => ?_) (fun c42 => ?_)
          · refine w_iconst dX12_asksNames_48 ?_
            refine w_istore_n [some (aR 12 0), some (aI (s : Int)), some (aI 1), some (aI 0)] dX12_asksNames_49 rfl (by decide) ?_
            have lp50 : ∀ c : Nat, c ≤ (gg 35 0 s / 2).toNat → ∀ (y50  : Int), y50 = 2 * (c : Int) → (mAll (mRollP (gg 33 s) (gg 5 0 3)) c = true) → fwWP mX12_asksNames (d + 2) 50 [some (aR 12 0), some (aI (s : Int)), some (aI 1), some (aI y50)] [] h Q := by
              refine fw_up (fun c hc50 ih50 => ?_)
              intro y50  ey50 iv50_0
              subst ey50
              show fwWP mX12_asksNames (d + 2) 50 [some (aR 12 0), some (aI (s : Int)), some (aI 1), some (aI (2 * (c : Int)))] [] h Q
              refine w_iload_n dX12_asksNames_50 rfl ?_
              refine w_aload_n dX12_asksNames_51 rfl ?_
              refine w_getr 46 0 dX12_asksNames_52 fl_X12_47 rfl (by decide) ?_
              refine w_iload_n dX12_asksNames_55 rfl ?_
              refine w_ialdE (v := gg 35 0 s) dX12_asksNames_56 rfl (by decide) (by omega) (by omega) (S s (by omega)).1 ?_
              refine w_icmp_ge 100 dX12_asksNames_57 (by decide) (by omega) (by omega) (fun c57 => ?_) (fun c57 => ?_)
              · have ec50 : (gg 35 0 s / 2).toNat = c := by omega
                subst ec50
                refine w_iconst dX12_asksNames_100 ?_
                exact w_iret dX12_asksNames_101 rfl (k.2 ⟨by omega, by omega, c28, by show gg 35 0 s % 2 = 0; omega, iv50_0⟩)
              · refine w_aload_n dX12_asksNames_60 rfl ?_
                refine w_aload_n dX12_asksNames_61 rfl ?_
                refine w_iload_n dX12_asksNames_62 rfl ?_
                refine w_iload_n dX12_asksNames_63 rfl ?_
                refine w_callV (d := d + 1) (S := [aR 12 0]) [aI (s : Int), aI (2 * (c : Int))] dX12_asksNames_64 ml_X12_360 ok_X12_numberAt vi_X12_numberAt rfl rfl (by decide) rfl (Nat.le_of_ble_eq_true rfl) ?_
                refine c_naE (d := (d + 1)) s (2 * c) (s : Int) (2 * (c : Int)) S (by omega) (by omega) (by omega) (by omega) ?_
                show fwWP mX12_asksNames (d + 2) 67 [some (aR 12 0), some (aI (s : Int)), some (aI 1), some (aI (2 * (c : Int)))] [aJ (gg 33 s (2 * c)), aR 12 0] h Q
                have hl7 := (hs s (by omega)).2.2 (2 * c) (by omega)
                refine w_callV (d := d + 1) (S := []) [aJ (gg 33 s (2 * c))] dX12_asksNames_67 ml_X12_235 ok_X12_isFolk vi_X12_isFolk rfl rfl (by decide) rfl (Nat.le_of_ble_eq_true rfl) ?_
                refine c_X12_isFolk (d := d) (gg 33 s (2 * c)) J R (by omega) ?_
                show fwWP mX12_asksNames (d + 2) 70 [some (aR 12 0), some (aI (s : Int)), some (aI 1), some (aI (2 * (c : Int)))] [aI (fwB (0 ≤ (gg 33 s (2 * c)) ∧ (gg 33 s (2 * c)) ≤ gg 5 0 3 - 1))] h Q
                refine w_ifB_eq 91 dX12_asksNames_70 (by decide) (fun c70 => ?_) (fun c70 => ?_)
                · refine w_bipush dX12_asksNames_91 rfl ?_
                  exact w_iretE dX12_asksNames_93 rfl (by unfold mRlR; rw [if_neg (fun q0 => c28 q0.2.2)]) (k.1 (fun q0 => by have q9 : mAll (mRollP (gg 33 s) (gg 5 0 3)) (gg 35 0 s / 2).toNat = true := q0.2.2.2.2; have q1 := of_decide_eq_true ((mAll_iff _ _).mp q9 c (by omega)); omega))
                · refine w_aload_n dX12_asksNames_73 rfl ?_
                  refine w_iload_n dX12_asksNames_74 rfl ?_
                  refine w_iload_n dX12_asksNames_75 rfl ?_
                  refine w_iconst dX12_asksNames_76 ?_
                  refine w_iadd dX12_asksNames_77 ?_
                  refine w_callV (d := d + 1) (S := []) [aI (s : Int), aI ((2 * (c : Int)) + 1)] dX12_asksNames_78 ml_X12_360 ok_X12_numberAt vi_X12_numberAt rfl rfl (by decide) rfl (Nat.le_of_ble_eq_true rfl) ?_
                  refine c_naE (d := (d + 1)) s ((2 * c) + 1) (s : Int) ((2 * (c : Int)) + 1) S (by omega) (by omega) (by omega) (by omega) ?_
                  show fwWP mX12_asksNames (d + 2) 81 [some (aR 12 0), some (aI (s : Int)), some (aI 1), some (aI (2 * (c : Int)))] [aJ (gg 33 s ((2 * c) + 1))] h Q
                  have hl9 := (hs s (by omega)).2.2 ((2 * c) + 1) (by omega)
                  refine w_lconst (z := 0) dX12_asksNames_81 rfl ?_
                  refine w_ldc2 (n := 999) dX12_asksNames_82 cs_X12_347 ?_
                  refine w_callS (d := d + 1) (S := []) [aJ (gg 33 s ((2 * c) + 1)), aJ 0, aJ 999] dX12_asksNames_85 ml_X12_65 ok_X12_in st_X12_in rfl (Nat.le_of_ble_eq_true rfl) ?_
                  refine c_X12_in (d := (d + 1)) (gg 33 s ((2 * c) + 1)) 0 999 (by omega) (by omega) (by omega) ?_
                  show fwWP mX12_asksNames (d + 2) 88 [some (aR 12 0), some (aI (s : Int)), some (aI 1), some (aI (2 * (c : Int)))] [aI (fwB (0 ≤ (gg 33 s ((2 * c) + 1)) ∧ (gg 33 s ((2 * c) + 1)) ≤ 999))] h Q
                  refine w_ifB_ne 94 dX12_asksNames_88 (by decide) (fun c88 => ?_) (fun c88 => ?_)
                  · refine w_iinc [some (aR 12 0), some (aI (s : Int)), some (aI 1), some (aI ((2 * (c : Int)) + 2))] dX12_asksNames_94 rfl rfl (by decide) ?_
                    refine w_goto 50 dX12_asksNames_97 (by decide) ?_
                    refine ih50 (by omega) _ ?_ ?_
                    · exact (by omega)
                    · exact (by rw [mAll, iv50_0, Bool.true_and]; exact decide_eq_true (by omega))
                  · refine w_bipush dX12_asksNames_91 rfl ?_
                    exact w_iretE dX12_asksNames_93 rfl (by unfold mRlR; rw [if_neg (fun q0 => c28 q0.2.2)]) (k.1 (fun q0 => by have q9 : mAll (mRollP (gg 33 s) (gg 5 0 3)) (gg 35 0 s / 2).toNat = true := q0.2.2.2.2; have q1 := of_decide_eq_true ((mAll_iff _ _).mp q9 c (by omega)); omega))
            refine lp50 0 (Nat.zero_le _) _ ?_ ?_
            · exact (by omega)
            · exact rfl
          · refine w_bipush dX12_asksNames_45 rfl ?_
            exact w_iretE dX12_asksNames_47 rfl (by unfold mRlR; rw [if_neg (fun q0 => c28 q0.2.2)]) (k.1 (fun q0 => by have q1 : gg 35 0 s % 2 = 0 := q0.2.2.2.1; omega))
        · refine w_bipush dX12_asksNames_31 rfl ?_
          exact w_iretE dX12_asksNames_33 rfl (by unfold mRlR; rw [if_pos ⟨by omega, by omega, c28⟩]) (k.1 (fun q0 => q0.2.2.1 c28))
      · (exfalso; omega)
set_option maxRecDepth 100000 in
set_option maxHeartbeats 4000000 in
theorem c_X12_stands {d : Nat} {h gg : fwH} {Q : Option fwV → fwH → Prop} (x : Int) (J : cOk gg) (R : jF gg h) (S : jS gg h) (hx : -2147483648 ≤ x ∧ x < 2147483648) (k : Q (some (aI (an_stands gg x))) h) : fwCt mX12_stands (d + 3) [aR 12 0, aI x] h Q := by
  refine fwCt_of [some (aR 12 0), some (aI x), none, none, none] rfl rfl rfl ?_
  obtain ⟨hl, hP, hG, -, -, -, hlw, -, ha, hs, -, hsc⟩ := id J
  obtain ⟨⟨g1, g2⟩, ⟨g3, g4⟩, ⟨g5, g6⟩, g7, -⟩ := id hG
  have hpz := hP.1
  refine w_aload_n dX12_stands_0 rfl ?_
  refine w_iload_n dX12_stands_1 rfl ?_
  refine w_iconst dX12_stands_2 ?_
  refine w_callV (d := d + 2) (S := []) [aI x, aI 1] dX12_stands_3 ml_X12_380 ok_X12_asksNames vi_X12_asksNames rfl rfl (by decide) rfl (Nat.le_of_ble_eq_true rfl) ?_
  refine c_X12_asksNames (d := d) x J R S (by omega) ⟨fun hrl => ?_, fun hrl => ?_⟩
  · have hrn := mRlR_n gg x
    show fwWP mX12_stands (d + 3) 6 [some (aR 12 0), some (aI x), none, none, none] [aI (mRlR gg x)] h Q
    refine w_istore_n [some (aR 12 0), some (aI x), some (aI (mRlR gg x)), none, none] dX12_stands_6 rfl (by decide) ?_
    refine w_iload_n dX12_stands_7 rfl ?_
    refine w_if_ge 13 dX12_stands_8 (by decide) (by omega) (fun c8 => ?_) (fun c8 => ?_)
    · (exfalso; omega)
    · refine w_iload_n dX12_stands_11 rfl ?_
      exact w_iretE dX12_stands_12 rfl (by unfold an_stands; rw [if_neg hrl]) k
  · show fwWP mX12_stands (d + 3) 6 [some (aR 12 0), some (aI x), none, none, none] [aI 0] h Q
    refine w_istore_n [some (aR 12 0), some (aI x), some (aI 0), none, none] dX12_stands_6 rfl (by decide) ?_
    refine w_iload_n dX12_stands_7 rfl ?_
    refine w_if_ge 13 dX12_stands_8 (by decide) (by omega) (fun c8 => ?_) (fun c8 => ?_)
    · have hx4 := hrl.1
      obtain ⟨s, rfl⟩ : ∃ s : Nat, x = (s : Int) := ⟨x.toNat, by omega⟩
      have hs35 := (hs s (by omega)).1
      have hz1 : gg 35 0 s ≠ -1 := hrl.2.2.1
      have hz2 : gg 35 0 s % 2 = 0 := hrl.2.2.2.1
      have hal : mAll (mRollP (gg 33 s) (gg 5 0 3)) (gg 35 0 s / 2).toNat = true := hrl.2.2.2.2
      refine w_iconst dX12_stands_13 ?_
      refine w_istore_n [some (aR 12 0), some (aI (s : Int)), some (aI 0), some (aI 0), none] dX12_stands_14 rfl (by decide) ?_
      refine w_iconst dX12_stands_15 ?_
      refine w_istore [some (aR 12 0), some (aI (s : Int)), some (aI 0), some (aI 0), some (aI 0)] dX12_stands_16 rfl (by decide) ?_
      have lp18 : ∀ c : Nat, c ≤ (gg 35 0 s / 2).toNat → ∀ (y18 nv : Int), y18 = 2 * (c : Int) → nv = mStand (gg 33 s) (gg 18 0) 0 c → fwWP mX12_stands (d + 3) 18 [some (aR 12 0), some (aI (s : Int)), some (aI 0), some (aI nv), some (aI y18)] [] h Q := by
        refine fw_up (fun c hc18 ih18 => ?_)
        intro y18 nv ey18 e_nv
        subst ey18
        subst e_nv
        show fwWP mX12_stands (d + 3) 18 [some (aR 12 0), some (aI (s : Int)), some (aI 0), some (aI (mStand (gg 33 s) (gg 18 0) 0 c)), some (aI (2 * (c : Int)))] [] h Q
        refine w_iload dX12_stands_18 rfl ?_
        refine w_aload_n dX12_stands_20 rfl ?_
        refine w_getr 46 0 dX12_stands_21 fl_X12_47 rfl (by decide) ?_
        refine w_iload_n dX12_stands_24 rfl ?_
        refine w_ialdE (v := gg 35 0 s) dX12_stands_25 rfl (by decide) (by omega) (by omega) (S s (by omega)).1 ?_
        refine w_icmp_ge 63 dX12_stands_26 (by decide) (by omega) (by omega) (fun c26 => ?_) (fun c26 => ?_)
        · have ec18 : (gg 35 0 s / 2).toNat = c := by omega
          subst ec18
          refine w_iload_n dX12_stands_63 rfl ?_
          exact w_iretE dX12_stands_64 rfl (by unfold an_stands; rw [if_pos hrl]; rfl) k
        · have hrp := of_decide_eq_true ((mAll_iff _ _).mp hal c (by omega))
          refine w_iload_n dX12_stands_29 rfl ?_
          refine w_aload_n dX12_stands_30 rfl ?_
          refine w_iload_n dX12_stands_31 rfl ?_
          refine w_iload dX12_stands_32 rfl ?_
          refine w_callV (d := d + 2) (S := [aI (mStand (gg 33 s) (gg 18 0) 0 c)]) [aI (s : Int), aI (2 * (c : Int))] dX12_stands_34 ml_X12_384 ok_X12_hasName vi_X12_hasName rfl rfl (by decide) rfl (Nat.le_of_ble_eq_true rfl) ?_
          refine c_X12_hasName (d := (d + 1)) s c J R S (by omega) (by omega) (by omega) ?_
          show fwWP mX12_stands (d + 3) 37 [some (aR 12 0), some (aI (s : Int)), some (aI 0), some (aI (mStand (gg 33 s) (gg 18 0) 0 c)), some (aI (2 * (c : Int)))] [aI (fwB (gg 33 s (2 * c + 1) < gg 18 0 (7 * (gg 33 s (2 * c)).toNat + 1))), aI (mStand (gg 33 s) (gg 18 0) 0 c)] h Q
          refine w_ifB_eq 54 dX12_stands_37 (by decide) (fun c37 => ?_) (fun c37 => ?_)
          · refine w_iconst dX12_stands_54 ?_
            refine w_iadd dX12_stands_55 ?_
            refine w_istore_n [some (aR 12 0), some (aI (s : Int)), some (aI 0), some (aI ((mStand (gg 33 s) (gg 18 0) 0 c) + 0)), some (aI (2 * (c : Int)))] dX12_stands_56 rfl (by decide) ?_
            refine w_iinc [some (aR 12 0), some (aI (s : Int)), some (aI 0), some (aI ((mStand (gg 33 s) (gg 18 0) 0 c) + 0)), some (aI ((2 * (c : Int)) + 2))] dX12_stands_57 rfl rfl (by decide) ?_
            refine w_goto 18 dX12_stands_60 (by decide) ?_
            refine ih18 (by omega) _ _ ?_ ?_
            · exact (by omega)
            · exact (by rw [mStand, if_neg (show ¬ mHow (gg 33 s) (gg 18 0) c = 0 by unfold mHow; by_cases z0 : mAll (mNew (gg 33 s) c) c = true; (rw [if_pos z0, if_neg (by omega)]; omega); (rw [if_neg z0]; omega))]; omega)
          · refine w_aload_n dX12_stands_40 rfl ?_
            refine w_iload_n dX12_stands_41 rfl ?_
            refine w_iload dX12_stands_42 rfl ?_
            refine w_callV (d := d + 2) (S := [aI (mStand (gg 33 s) (gg 18 0) 0 c)]) [aI (s : Int), aI (2 * (c : Int))] dX12_stands_44 ml_X12_387 ok_X12_isThere vi_X12_isThere rfl rfl (by decide) rfl (Nat.le_of_ble_eq_true rfl) ?_
            refine c_X12_isThere (d := (d + 1)) s c S hs (by omega) (by omega) ?_
            show fwWP mX12_stands (d + 3) 47 [some (aR 12 0), some (aI (s : Int)), some (aI 0), some (aI (mStand (gg 33 s) (gg 18 0) 0 c)), some (aI (2 * (c : Int)))] [aI (fwB (¬ mAll (mNew (gg 33 s) c) c = true)), aI (mStand (gg 33 s) (gg 18 0) 0 c)] h Q
            refine w_ifB_ne 54 dX12_stands_47 (by decide) (fun c47 => ?_) (fun c47 => ?_)
            · refine w_iconst dX12_stands_54 ?_
              refine w_iadd dX12_stands_55 ?_
              refine w_istore_n [some (aR 12 0), some (aI (s : Int)), some (aI 0), some (aI ((mStand (gg 33 s) (gg 18 0) 0 c) + 0)), some (aI (2 * (c : Int)))] dX12_stands_56 rfl (by decide) ?_
              refine w_iinc [some (aR 12 0), some (aI (s : Int)), some (aI 0), some (aI ((mStand (gg 33 s) (gg 18 0) 0 c) + 0)), some (aI ((2 * (c : Int)) + 2))] dX12_stands_57 rfl rfl (by decide) ?_
              refine w_goto 18 dX12_stands_60 (by decide) ?_
              refine ih18 (by omega) _ _ ?_ ?_
              · exact (by omega)
              · exact (by rw [mStand, if_neg (show ¬ mHow (gg 33 s) (gg 18 0) c = 0 by unfold mHow; rw [if_neg c47]; omega)]; omega)
            · refine w_iconst dX12_stands_50 ?_
              refine w_goto 55 dX12_stands_51 (by decide) ?_
              refine w_iadd dX12_stands_55 ?_
              refine w_istore_n [some (aR 12 0), some (aI (s : Int)), some (aI 0), some (aI ((mStand (gg 33 s) (gg 18 0) 0 c) + 1)), some (aI (2 * (c : Int)))] dX12_stands_56 rfl (by decide) ?_
              refine w_iinc [some (aR 12 0), some (aI (s : Int)), some (aI 0), some (aI ((mStand (gg 33 s) (gg 18 0) 0 c) + 1)), some (aI ((2 * (c : Int)) + 2))] dX12_stands_57 rfl rfl (by decide) ?_
              refine w_goto 18 dX12_stands_60 (by decide) ?_
              refine ih18 (by omega) _ _ ?_ ?_
              · exact (by omega)
              · exact (by rw [mStand, if_pos (show mHow (gg 33 s) (gg 18 0) c = 0 by unfold mHow; rw [if_pos (Decidable.byContradiction c47), if_pos c37])])
      refine lp18 0 (Nat.zero_le _) _ _ ?_ ?_
      · exact (by omega)
      · exact rfl
    · (exfalso; omega)
end
section
theorem mRs_hb {h : fwH} (J : cOk h) (x : Int) (hx : 0 ≤ x ∧ x < h 4 0 1) : hB (mRs (h 17 0) (mStay (h 4 0 1) (h 17 0) (h 4 0 3) x)) := fun c hc => by
  have := mRs_rng (H := h 17 0) (rs := h 4 0 3) (b := 99) J.2.2.1.1 hx (by omega) J.2.2.2.1 c hc
  omega
theorem mSpo_2 {h : fwH} (J : cOk h) : ∀ c : Nat, (c : Int) ≤ h 4 0 1 → ((mSpo h c).1 = -1 ∧ (mSpo h c).2 = 0) ∨ (0 ≤ (mSpo h c).1 ∧ 0 ≤ (mSpo h c).2 ∧ (mSpo h c).2 ≤ 300000) := by
  intro c hc
  have := mSpo_rng J.2.1 J.2.2.1 c hc
  induction c with
  | zero => exact Or.inl ⟨rfl, rfl⟩
  | succ c ih =>
    have h1 := mSpo_rng J.2.1 J.2.2.1 c (by omega)
    have h2 := ih (by omega) h1
    rw [mSpo] at this ⊢
    split
    · rename_i q
      rw [if_pos q] at this
      exact Or.inr ⟨by dsimp only; omega, this.2⟩
    · exact h2
def mSpM (h : fwH) (c : Nat) : Int := if (mSpo h c).1 = -1 then -1000000000 else (mSpo h c).2
theorem mSpM_r {h : fwH} (J : cOk h) (c : Nat) (hc : (c : Int) ≤ h 4 0 1) : (-1000000000 ≤ mSpM h c ∧ mSpM h c ≤ 300000) ∧ -1 ≤ (mSpo h c).1 ∧ (mSpo h c).1 < c := by
  have h1 := mSpo_rng J.2.1 J.2.2.1 c hc
  unfold mSpM
  split <;> omega
theorem spo_n {h : fwH} {c : Nat} (hs : mStay (h 4 0 1) (h 17 0) (h 4 0 3) (c : Int) = -1) : mSpo h (c + 1) = mSpo h c := by
  rw [mSpo, if_neg (fun z => z.1 hs)]
theorem spo_l {h : fwH} (J : cOk h) {c : Nat} (hc : (c : Int) ≤ h 4 0 1) (hg : 0 ≤ mGt h (mRs (h 17 0) (mStay (h 4 0 1) (h 17 0) (h 4 0 3) (c : Int)))) (hl : mGt h (mRs (h 17 0) (mStay (h 4 0 1) (h 17 0) (h 4 0 3) (c : Int))) ≤ mSpM h c) : mSpo h (c + 1) = mSpo h c := by
  unfold mSpM at hl
  rw [mSpo, if_neg]
  intro z
  rcases z.2 with z1 | z1
  · rw [if_pos z1] at hl; omega
  · split at hl <;> omega
theorem spo_g {h : fwH} (J : cOk h) {c : Nat} (hc : (c : Int) ≤ h 4 0 1) (hs : mStay (h 4 0 1) (h 17 0) (h 4 0 3) (c : Int) ≠ -1) (hl : mSpM h c < mGt h (mRs (h 17 0) (mStay (h 4 0 1) (h 17 0) (h 4 0 3) (c : Int)))) : mSpo h (c + 1) = ((c : Int), mGt h (mRs (h 17 0) (mStay (h 4 0 1) (h 17 0) (h 4 0 3) (c : Int)))) := by
  unfold mSpM at hl
  rw [mSpo, if_pos]
  refine ⟨hs, ?_⟩
  by_cases z : (mSpo h c).1 = -1
  · exact Or.inl z
  · rw [if_neg z] at hl
    exact Or.inr hl
set_option maxRecDepth 100000 in
set_option maxHeartbeats 4000000 in
theorem c_X12_spoil {d : Nat} {h gg : fwH} {Q : Option fwV → fwH → Prop}  (J : cOk gg) (R : jF gg h) (K : jA gg h) (hsh : sc h)  (k : ∀ g, scr h g → Q (some (aI (an_spoil gg ))) g) : fwCt mX12_spoil (d + 6) [aR 12 0] h Q := by
  refine fwCt_of [some (aR 12 0), none, none, none] rfl rfl rfl ?_
  obtain ⟨hl, hP, hG, hM0, htd, hut, hlw, hhc, ha, hs, hT, hsc⟩ := id J
  have hb17 : hB (gg 17 0) := fun c hc => by have := hM0 c hc; omega
  obtain ⟨⟨g1, g2⟩, ⟨g3, g4⟩, ⟨g5, g6⟩, g7, -⟩ := id hG
  have h17_99 : ∀ c : Nat, (c : Int) < gg 4 0 1 → gg 17 0 c ≤ 99 := fun c hc => (hM0 c (by omega)).2
  have hpz := hP.1
  have hrs1 := R.2.2.2.2.2.2.2.2.2.2.2
  refine w_aload_n dX12_spoil_0 rfl ?_
  refine w_callV (d := d + 5) (S := []) [] dX12_spoil_1 ml_X12_73 ok_X12_isMount vi_X12_isMount rfl rfl (by decide) rfl (Nat.le_of_ble_eq_true rfl) ?_
  refine c_X12_isMount (d := (d + 5)) J R ?_
  show fwWP mX12_spoil (d + 6) 4 [some (aR 12 0), none, none, none] [aI (fwB (0 < gg 3 0 6))] h Q
  refine w_ifB_ne 10 dX12_spoil_4 (by decide) (fun c4 => ?_) (fun c4 => ?_)
  · refine w_iconst dX12_spoil_10 ?_
    refine w_istore_n [some (aR 12 0), some (aI (-1)), none, none] dX12_spoil_11 rfl (by decide) ?_
    refine w_ldcw (n := -1000000000) dX12_spoil_12 cs_X12_335 ?_
    refine w_istore_n [some (aR 12 0), some (aI (-1)), some (aI (-1000000000)), none] dX12_spoil_15 rfl (by decide) ?_
    refine w_iconst dX12_spoil_16 ?_
    refine w_istore_n [some (aR 12 0), some (aI (-1)), some (aI (-1000000000)), some (aI 0)] dX12_spoil_17 rfl (by decide) ?_
    have lp18 : ∀ c : Nat, c ≤ (gg 4 0 1).toNat → ∀ (y18 be mo : Int) (A18 : Nat → Int), y18 = (c : Int) → be = (mSpo gg c).1 → mo = mSpM gg c → fwWP mX12_spoil (d + 6) 18 [some (aR 12 0), some (aI be), some (aI mo), some (aI y18)] [] (fwUc h 42 0 A18) Q := by
      refine fw_up (fun c hc18 ih18 => ?_)
      intro y18 be mo A18 ey18 e_be e_mo
      subst ey18
      subst e_be
      subst e_mo
      have hsm := mSpM_r J c (by omega)
      show fwWP mX12_spoil (d + 6) 18 [some (aR 12 0), some (aI ((mSpo gg c).1)), some (aI (mSpM gg c)), some (aI (c : Int))] [] (fwUc h 42 0 A18) Q
      refine w_iload_n dX12_spoil_18 rfl ?_
      refine w_aload_n dX12_spoil_19 rfl ?_
      refine w_getr 36 0 dX12_spoil_20 fl_X12_9 rfl (by decide) ?_
      refine w_iconst dX12_spoil_23 ?_
      refine w_ialdE (v := gg 4 0 1) dX12_spoil_24 rfl (by decide) (by omega) (by omega) R.1 ?_
      refine w_icmp_ge 65 dX12_spoil_25 (by decide) (by omega) (by omega) (fun c25 => ?_) (fun c25 => ?_)
      · have ec18 : (gg 4 0 1).toNat = c := by omega
        subst ec18
        refine w_iload_n dX12_spoil_65 rfl ?_
        exact w_iretE dX12_spoil_66 rfl (by unfold an_spoil; first | (rw [if_pos (by omega)]; done) | (rw [if_neg (by omega)]; done) | (rw [if_pos (by omega)]; rfl) | (rw [if_neg (by omega)]; rfl)) (k _ (scr_uc (scr_rf hsh) rfl (by decide) (by decide) (by decide)))
      · refine w_aload_n dX12_spoil_28 rfl ?_
        refine w_callV (d := d + 5) (S := []) [] dX12_spoil_29 ml_X12_240 ok_X12_asItIs vi_X12_asItIs rfl rfl (by decide) rfl (Nat.le_of_ble_eq_true rfl) ?_
        refine c_X12_asItIs (d := d) J R K (show 1 ≤ gg 4 0 1 by omega) (show 1 ≤ gg 4 0 3 by omega) ?_
        intro A29_3 hA29_3
        show fwWP mX12_spoil (d + 6) 32 [some (aR 12 0), some (aI ((mSpo gg c).1)), some (aI (mSpM gg c)), some (aI (c : Int))] [] (fwUc (fwUc h 42 0 A18) 42 0 A29_3) Q
        rw [show (fwUc (fwUc h 42 0 A18) 42 0 A29_3) = (fwUc h 42 0 A29_3) from by funext a b; simp only [fwUc]; (repeat' split); all_goals first | rfl | (exfalso; omega)]
        have hrb := mRs_hb J (c : Int) (by omega)
        refine w_aload_n dX12_spoil_32 rfl ?_
        refine w_iload_n dX12_spoil_33 rfl ?_
        refine w_callV (d := d + 5) (S := []) [aI (c : Int)] dX12_spoil_34 ml_X12_197 ok_X12_heap0 vi_X12_heap0 rfl rfl (by decide) rfl (Nat.le_of_ble_eq_true rfl) ?_
        refine c_X12_heap0 (d := (d + 1)) (c : Int) (gg 17 0) J R hA29_3 hb17 h17_99 (show 1 ≤ gg 4 0 3 by omega) (show 0 ≤ (c : Int) ∧ (c : Int) < gg 4 0 1 by omega) ?_
        intro A34_4 hA34_4
        show fwWP mX12_spoil (d + 6) 37 [some (aR 12 0), some (aI ((mSpo gg c).1)), some (aI (mSpM gg c)), some (aI (c : Int))] [aI (mStay (gg 4 0 1) (gg 17 0) (gg 4 0 3) (c : Int))] (fwUc (fwUc h 42 0 A29_3) 42 0 A34_4) Q
        rw [show (fwUc (fwUc h 42 0 A29_3) 42 0 A34_4) = (fwUc h 42 0 A34_4) from by funext a b; simp only [fwUc]; (repeat' split); all_goals first | rfl | (exfalso; omega)]
        have hsr9 := mStay_rng (gg 17 0) (rs := gg 4 0 3) (n := gg 4 0 1) (x := (c : Int)) (by omega) (by omega)
        refine w_iconst dX12_spoil_37 ?_
        refine w_icmp_eq 59 dX12_spoil_38 (by decide) (by omega) (by omega) (fun c38 => ?_) (fun c38 => ?_)
        · refine w_iinc [some (aR 12 0), some (aI ((mSpo gg c).1)), some (aI (mSpM gg c)), some (aI ((c : Int) + 1))] dX12_spoil_59 rfl rfl (by decide) ?_
          refine w_goto 18 dX12_spoil_62 (by decide) ?_
          refine ih18 (by omega) _ _ _ _ ?_ ?_ ?_
          · exact (by omega)
          · exact (by rw [spo_n c38])
          · exact (by unfold mSpM; rw [spo_n c38])
        · refine w_aload_n dX12_spoil_41 rfl ?_
          refine w_callV (d := d + 5) (S := []) [] dX12_spoil_42 ml_X12_251 ok_X12_gainOfAll vi_X12_gainOfAll rfl rfl (by decide) rfl (Nat.le_of_ble_eq_true rfl) ?_
          refine c_X12_gainOfAll (d := d) (mRs (gg 17 0) (mStay (gg 4 0 1) (gg 17 0) (gg 4 0 3) (c : Int))) J R hA34_4 hrb (show 1 ≤ gg 4 0 1 by omega) ?_
          show fwWP mX12_spoil (d + 6) 45 [some (aR 12 0), some (aI ((mSpo gg c).1)), some (aI (mSpM gg c)), some (aI (c : Int))] [aI (mSum (mGain (gg 4 0 1) (mRs (gg 17 0) (mStay (gg 4 0 1) (gg 17 0) (gg 4 0 3) (c : Int))) (gg 4 0 2) (gg 18 0)) (gg 5 0 3).toNat)] (fwUc h 42 0 A34_4) Q
          have hga6 := mSum_r2 J hrb (gg 5 0 3).toNat (by omega)
          refine w_iload_n dX12_spoil_45 rfl ?_
          refine w_icmp_gt 52 dX12_spoil_46 (by decide) (by omega) (by omega) (fun c46 => ?_) (fun c46 => ?_)
          · refine w_aload_n dX12_spoil_52 rfl ?_
            refine w_callV (d := d + 5) (S := []) [] dX12_spoil_53 ml_X12_251 ok_X12_gainOfAll vi_X12_gainOfAll rfl rfl (by decide) rfl (Nat.le_of_ble_eq_true rfl) ?_
            refine c_X12_gainOfAll (d := d) (mRs (gg 17 0) (mStay (gg 4 0 1) (gg 17 0) (gg 4 0 3) (c : Int))) J R hA34_4 hrb (show 1 ≤ gg 4 0 1 by omega) ?_
            show fwWP mX12_spoil (d + 6) 56 [some (aR 12 0), some (aI ((mSpo gg c).1)), some (aI (mSpM gg c)), some (aI (c : Int))] [aI (mSum (mGain (gg 4 0 1) (mRs (gg 17 0) (mStay (gg 4 0 1) (gg 17 0) (gg 4 0 3) (c : Int))) (gg 4 0 2) (gg 18 0)) (gg 5 0 3).toNat)] (fwUc h 42 0 A34_4) Q
            have hga8 := mSum_r2 J hrb (gg 5 0 3).toNat (by omega)
            refine w_istore_n [some (aR 12 0), some (aI ((mSpo gg c).1)), some (aI (mSum (mGain (gg 4 0 1) (mRs (gg 17 0) (mStay (gg 4 0 1) (gg 17 0) (gg 4 0 3) (c : Int))) (gg 4 0 2) (gg 18 0)) (gg 5 0 3).toNat)), some (aI (c : Int))] dX12_spoil_56 rfl (by decide) ?_
            refine w_iload_n dX12_spoil_57 rfl ?_
            refine w_istore_n [some (aR 12 0), some (aI (c : Int)), some (aI (mSum (mGain (gg 4 0 1) (mRs (gg 17 0) (mStay (gg 4 0 1) (gg 17 0) (gg 4 0 3) (c : Int))) (gg 4 0 2) (gg 18 0)) (gg 5 0 3).toNat)), some (aI (c : Int))] dX12_spoil_58 rfl (by decide) ?_
            refine w_iinc [some (aR 12 0), some (aI (c : Int)), some (aI (mSum (mGain (gg 4 0 1) (mRs (gg 17 0) (mStay (gg 4 0 1) (gg 17 0) (gg 4 0 3) (c : Int))) (gg 4 0 2) (gg 18 0)) (gg 5 0 3).toNat)), some (aI ((c : Int) + 1))] dX12_spoil_59 rfl rfl (by decide) ?_
            refine w_goto 18 dX12_spoil_62 (by decide) ?_
            refine ih18 (by omega) _ _ _ _ ?_ ?_ ?_
            · exact (by omega)
            · exact (by rw [spo_g J (by omega) c38 c46])
            · exact (by unfold mSpM; rw [spo_g J (by omega) c38 c46, if_neg (by dsimp only; omega)]; rfl)
          · refine w_goto 59 dX12_spoil_49 (by decide) ?_
            refine w_iinc [some (aR 12 0), some (aI ((mSpo gg c).1)), some (aI (mSpM gg c)), some (aI ((c : Int) + 1))] dX12_spoil_59 rfl rfl (by decide) ?_
            refine w_goto 18 dX12_spoil_62 (by decide) ?_
            refine ih18 (by omega) _ _ _ _ ?_ ?_ ?_
            · exact (by omega)
            · exact (by rw [spo_l J (by omega) (show 0 ≤ mGt gg (mRs (gg 17 0) (mStay (gg 4 0 1) (gg 17 0) (gg 4 0 3) (c : Int))) from by have z0 := mSum_r2 J hrb (gg 5 0 3).toNat (by omega); exact z0.1) c46])
            · exact (by unfold mSpM; rw [spo_l J (by omega) (show 0 ≤ mGt gg (mRs (gg 17 0) (mStay (gg 4 0 1) (gg 17 0) (gg 4 0 3) (c : Int))) from by have z0 := mSum_r2 J hrb (gg 5 0 3).toNat (by omega); exact z0.1) c46])
    have z18 := lp18 0 (Nat.zero_le _) _ _ _ (h 42 0) (by exact (show 0 = ((0 : Nat) : Int) by omega)) (by exact (show (-1) = (mSpo gg 0).1 from rfl)) (by exact (show (-1000000000) = mSpM gg 0 from rfl))
    rw [fwUc_self] at z18
    exact z18
  · refine w_bipush dX12_spoil_7 rfl ?_
    exact w_iretE dX12_spoil_9 rfl (by unfold an_spoil; first | (rw [if_pos (by omega)]; done) | (rw [if_neg (by omega)]; done) | (rw [if_pos (by omega)]; rfl) | (rw [if_neg (by omega)]; rfl)) (k _ (scr_rf hsh))
/-- the best single FOOT: what the class's search comes to, CELL by CELL -/
def bsS (h : fwH) (j : Nat) : fwSt := mSeL (mSe (mGt h) (h 4 0 1).toNat 0 1) 0 0 (h 17 0) (h 27 0, 0, h 8 0 5, h 28 0) j
theorem bs_shp (h : fwH) : mShp h 1 = bsS h (h 4 0 1).toNat := rfl
def bsB (h : fwH) (j : Nat) : Int := if (bsS h j).2.1 = 0 then -1 else (bsS h j).2.2.2 0
def bsM (h : fwH) (j : Nat) : Int := if (bsS h j).2.1 = 0 then -1000000000 else (bsS h j).2.2.1
theorem bs_z {h : fwH} {j : Nat} (hz : ¬ 0 < h 17 0 j) : bsS h (j + 1) = bsS h j := by
  unfold bsS
  rw [mSeL, if_neg (by rw [Nat.zero_add]; exact hz)]
theorem bs_p {h : fwH} {j : Nat} (hz : 0 < h 17 0 j) : bsS h (j + 1) = mKeep (mGt h (fwFu (h 17 0) j (h 17 0 j + -1))) (fwFu (bsS h j).1 0 (j : Int), (bsS h j).2) := by
  unfold bsS
  rw [mSeL, if_pos (by rw [Nat.zero_add]; exact hz)]
  simp only [Nat.zero_add]
  rfl
theorem bs_01 (h : fwH) : ∀ j : Nat, (bsS h j).2.1 = 0 ∨ (bsS h j).2.1 = 1 := by
  intro j
  induction j with
  | zero => exact Or.inl rfl
  | succ j ih =>
    by_cases hz : 0 < h 17 0 j
    · rw [bs_p hz]
      unfold mKeep
      split
      · exact ih
      · exact Or.inr rfl
    · rw [bs_z hz]; exact ih
theorem bs_l {h : fwH} {j : Nat} (hz : 0 < h 17 0 j) (hg : 0 ≤ mGt h (fwFu (h 17 0) j (h 17 0 j + -1))) (hl : mGt h (fwFu (h 17 0) j (h 17 0 j + -1)) ≤ bsM h j) : bsB h (j + 1) = bsB h j ∧ bsM h (j + 1) = bsM h j := by
  have h0 : (bsS h j).2.1 ≠ 0 := fun q => by unfold bsM at hl; rw [if_pos q] at hl; omega
  have e : bsS h (j + 1) = (fwFu (bsS h j).1 0 (j : Int), (bsS h j).2) := by
    rw [bs_p hz]
    unfold mKeep
    unfold bsM at hl
    rw [if_neg h0] at hl
    rw [if_pos ⟨h0, hl⟩]
  unfold bsB bsM
  rw [e]
  exact ⟨rfl, rfl⟩
theorem bs_g {h : fwH} {j : Nat} (hz : 0 < h 17 0 j) (hl : bsM h j < mGt h (fwFu (h 17 0) j (h 17 0 j + -1))) : bsB h (j + 1) = (j : Int) ∧ bsM h (j + 1) = mGt h (fwFu (h 17 0) j (h 17 0 j + -1)) := by
  have e : bsS h (j + 1) = (fwFu (bsS h j).1 0 (j : Int), 1, mGt h (fwFu (h 17 0) j (h 17 0 j + -1)), fwFu (bsS h j).1 0 (j : Int)) := by
    rw [bs_p hz]
    unfold mKeep
    rw [if_neg]
    intro q
    unfold bsM at hl
    rw [if_neg q.1] at hl
    have q2 : mGt h (fwFu (h 17 0) j (h 17 0 j + -1)) ≤ (bsS h j).2.2.1 := q.2
    omega
  unfold bsB bsM
  rw [e]
  exact ⟨rfl, rfl⟩
theorem bs_r {h : fwH} (J : cOk h) : ∀ j : Nat, (j : Int) ≤ h 4 0 1 → (-1 ≤ bsB h j ∧ bsB h j ≤ 10) ∧ -1000000000 ≤ bsM h j ∧ bsM h j ≤ 300000 := by
  intro j
  induction j with
  | zero =>
    intro _
    have e : (bsS h 0).2.1 = 0 := rfl
    unfold bsB bsM
    rw [if_pos e, if_pos e]
    omega
  | succ j ih =>
    intro hj
    have h1 := ih (by omega)
    by_cases hz : 0 < h 17 0 j
    · have hb : hB (fwFu (h 17 0) j (h 17 0 j + -1)) := hB_fu (fun c hc => by have := J.2.2.2.1 c hc; omega) (by have := J.2.2.2.1 j (by have := J.2.2.1.1; omega); omega)
      have hg := mSum_r2 J hb (h 5 0 3).toNat (by have := J.2.1.1; omega)
      have hp := J.2.1.1
      rcases Int.lt_or_le (bsM h j) (mGt h (fwFu (h 17 0) j (h 17 0 j + -1))) with q | q
      · have z := bs_g hz q
        have z2 : mGt h (fwFu (h 17 0) j (h 17 0 j + -1)) ≤ 300000 := by unfold mGt; omega
        have z3 : 0 ≤ mGt h (fwFu (h 17 0) j (h 17 0 j + -1)) := hg.1
        have := J.2.2.1.1
        rw [z.1, z.2]
        omega
      · have z := bs_l hz hg.1 q
        rw [z.1, z.2]
        exact h1
    · unfold bsB bsM
      rw [bs_z hz]
      exact h1
theorem bs_none {h : fwH} (J : cOk h) : ∀ j : Nat, (j : Int) ≤ h 4 0 1 → ((bsS h j).2.1 = 0 ↔ mSum (h 17 0) j < 1) := by
  intro j
  induction j with
  | zero => intro _; exact ⟨fun _ => by rw [mSum]; omega, fun _ => rfl⟩
  | succ j ih =>
    intro hj
    have h1 := ih (by omega)
    have h2 := J.2.2.2.1 j (by have := J.2.2.1.1; omega)
    have h3 : 0 ≤ mSum (h 17 0) j := by
      have key : ∀ k : Nat, (k : Int) ≤ h 4 0 1 → 0 ≤ mSum (h 17 0) k := by
        intro k
        induction k with
        | zero => intro _; rw [mSum]; omega
        | succ k ik => intro hk; rw [mSum]; have := ik (by omega); have := J.2.2.2.1 k (by have := J.2.2.1.1; omega); omega
      exact key j (by omega)
    rw [mSum]
    by_cases hz : 0 < h 17 0 j
    · constructor
      · intro q
        exfalso
        rw [bs_p hz] at q
        unfold mKeep at q
        split at q
        · rename_i q2; exact q2.1 q
        · cases q
      · intro q; omega
    · rw [bs_z hz, h1]
      omega
set_option maxRecDepth 100000 in
set_option maxHeartbeats 4000000 in
theorem c_X12_best {d : Nat} {h gg : fwH} {Q : Option fwV → fwH → Prop}  (J : cOk gg) (R : jF gg h) (K : jA gg h) (hsh : sc h)  (k : ∀ g, scr h g → Q (some (aI (an_best gg ))) g) : fwCt mX12_best (d + 6) [aR 12 0] h Q := by
  refine fwCt_of [some (aR 12 0), none, none, none, none] rfl rfl rfl ?_
  obtain ⟨hl, hP, hG, hM0, htd, hut, hlw, hhc, ha, hs, hT, hsc⟩ := id J
  have hb17 : hB (gg 17 0) := fun c hc => by have := hM0 c hc; omega
  obtain ⟨⟨g1, g2⟩, ⟨g3, g4⟩, ⟨g5, g6⟩, g7, -⟩ := id hG
  have h17_99 : ∀ c : Nat, (c : Int) < gg 4 0 1 → gg 17 0 c ≤ 99 := fun c hc => (hM0 c (by omega)).2
  have hpz := hP.1
  have hrs1 := R.2.2.2.2.2.2.2.2.2.2.2
  refine w_aload_n dX12_best_0 rfl ?_
  refine w_callV (d := d + 5) (S := []) [] dX12_best_1 ml_X12_73 ok_X12_isMount vi_X12_isMount rfl rfl (by decide) rfl (Nat.le_of_ble_eq_true rfl) ?_
  refine c_X12_isMount (d := (d + 5)) J R ?_
  show fwWP mX12_best (d + 6) 4 [some (aR 12 0), none, none, none, none] [aI (fwB (0 < gg 3 0 6))] h Q
  refine w_ifB_ne 10 dX12_best_4 (by decide) (fun c4 => ?_) (fun c4 => ?_)
  · refine w_aload_n dX12_best_10 rfl ?_
    refine w_callV (d := d + 5) (S := []) [] dX12_best_11 ml_X12_240 ok_X12_asItIs vi_X12_asItIs rfl rfl (by decide) rfl (Nat.le_of_ble_eq_true rfl) ?_
    refine c_X12_asItIs (d := d) J R K (show 1 ≤ gg 4 0 1 by omega) (show 1 ≤ gg 4 0 3 by omega) ?_
    intro A11_2 hA11_2
    show fwWP mX12_best (d + 6) 14 [some (aR 12 0), none, none, none, none] [] (fwUc h 42 0 A11_2) Q
    refine w_iconst dX12_best_14 ?_
    refine w_istore_n [some (aR 12 0), some (aI (-1)), none, none, none] dX12_best_15 rfl (by decide) ?_
    refine w_ldcw (n := -1000000000) dX12_best_16 cs_X12_335 ?_
    refine w_istore_n [some (aR 12 0), some (aI (-1)), some (aI (-1000000000)), none, none] dX12_best_19 rfl (by decide) ?_
    refine w_iconst dX12_best_20 ?_
    refine w_istore_n [some (aR 12 0), some (aI (-1)), some (aI (-1000000000)), some (aI 0), none] dX12_best_21 rfl (by decide) ?_
    have lp22 : ∀ c : Nat, c ≤ (gg 4 0 1).toNat → ∀ (y22 be mo : Int) (A22 : Nat → Int), y22 = (c : Int) → be = bsB gg c → mo = bsM gg c → hiR (gg 4 0 1) A22 (gg 17 0) → fwWP mX12_best (d + 6) 22 [some (aR 12 0), some (aI be), some (aI mo), some (aI y22), none] [] (fwUc h 42 0 A22) Q := by
      refine fw_up (fun c hc22 ih22 => ?_)
      intro y22 be mo A22 ey22 e_be e_mo hA22
      subst ey22
      subst e_be
      subst e_mo
      show fwWP mX12_best (d + 6) 22 [some (aR 12 0), some (aI (bsB gg c)), some (aI (bsM gg c)), some (aI (c : Int)), none] [] (fwUc h 42 0 A22) Q
      refine w_iload_n dX12_best_22 rfl ?_
      refine w_aload_n dX12_best_23 rfl ?_
      refine w_getr 36 0 dX12_best_24 fl_X12_9 rfl (by decide) ?_
      refine w_iconst dX12_best_27 ?_
      refine w_ialdE (v := gg 4 0 1) dX12_best_28 rfl (by decide) (by omega) (by omega) R.1 ?_
      refine w_icmp_ge 90 dX12_best_29 (by decide) (by omega) (by omega) (fun c29 => ?_) (fun c29 => ?_)
      · have ec22 : (gg 4 0 1).toNat = c := by omega
        subst ec22
        refine w_iload_n dX12_best_90 rfl ?_
        exact w_iretE dX12_best_91 rfl (by unfold an_best; rw [if_pos (show 0 < gg 3 0 6 by omega), bs_shp]; unfold bsB; have z0 := bs_none J (gg 4 0 1).toNat (by omega); by_cases z1 : 1 ≤ mSum (gg 17 0) (gg 4 0 1).toNat; (rw [if_pos z1, if_neg (fun z2 => by have := z0.mp z2; omega)]); (rw [if_neg z1, if_pos (z0.mpr (by omega))])) (k _ (scr_uc (scr_rf hsh) rfl (by decide) (by decide) (by decide)))
      · have hb9 := hM0 c (by omega)
        have hbr := bs_r J c (by omega)
        refine w_aload_n dX12_best_32 rfl ?_
        refine w_getr 42 0 dX12_best_33 fl_X12_34 rfl (by decide) ?_
        refine w_iload_n dX12_best_36 rfl ?_
        refine w_ialdE (v := (gg 17 0) c) dX12_best_37 rfl (by decide) (by omega) (by omega) (hA22 _ (by omega)) ?_
        refine w_if_ne 44 dX12_best_38 (by decide) (by omega) (fun c38 => ?_) (fun c38 => ?_)
        · refine w_aload_n dX12_best_44 rfl ?_
          refine w_getr 42 0 dX12_best_45 fl_X12_34 rfl (by decide) ?_
          refine w_iload_n dX12_best_48 rfl ?_
          refine w_dup2 dX12_best_49 rfl rfl ?_
          refine w_ialdE (v := (gg 17 0) c) dX12_best_50 rfl (by decide) (by omega) (by omega) (hA22 _ (by omega)) ?_
          refine w_iconst dX12_best_51 ?_
          refine w_isub dX12_best_52 ?_
          refine w_iast dX12_best_53 rfl (by decide) (by omega) (by omega) ?_
          rw [show (fwUp (fwUc h 42 0 A22) 42 0 ((c : Int)).toNat (((gg 17 0) c) - 1)) = (fwUc h 42 0 (fwFu A22 c (((gg 17 0) c) - 1))) from by rw [fwUp_fu]; rw [fwUc_uc]; rfl]
          have hA53 := hiR_fu hA22 c (((gg 17 0) c) - 1)
          have hb53 : hB (fwFu (gg 17 0) c (((gg 17 0) c) - 1)) := hB_fu hb17 (by omega)
          refine w_aload_n dX12_best_54 rfl ?_
          refine w_callV (d := d + 5) (S := []) [] dX12_best_55 ml_X12_251 ok_X12_gainOfAll vi_X12_gainOfAll rfl rfl (by decide) rfl (Nat.le_of_ble_eq_true rfl) ?_
          refine c_X12_gainOfAll (d := d) (fwFu (gg 17 0) c (((gg 17 0) c) - 1)) J R hA53 hb53 (show 1 ≤ gg 4 0 1 by omega) ?_
          show fwWP mX12_best (d + 6) 58 [some (aR 12 0), some (aI (bsB gg c)), some (aI (bsM gg c)), some (aI (c : Int)), none] [aI (mSum (mGain (gg 4 0 1) (fwFu (gg 17 0) c (((gg 17 0) c) - 1)) (gg 4 0 2) (gg 18 0)) (gg 5 0 3).toNat)] (fwUc h 42 0 (fwFu A22 c (((gg 17 0) c) - 1))) Q
          have hga5 := mSum_r2 J hb53 (gg 5 0 3).toNat (by omega)
          refine w_istore [some (aR 12 0), some (aI (bsB gg c)), some (aI (bsM gg c)), some (aI (c : Int)), some (aI (mSum (mGain (gg 4 0 1) (fwFu (gg 17 0) c (((gg 17 0) c) - 1)) (gg 4 0 2) (gg 18 0)) (gg 5 0 3).toNat))] dX12_best_58 rfl (by decide) ?_
          refine w_aload_n dX12_best_60 rfl ?_
          refine w_getr 42 0 dX12_best_61 fl_X12_34 rfl (by decide) ?_
          refine w_iload_n dX12_best_64 rfl ?_
          refine w_dup2 dX12_best_65 rfl rfl ?_
          refine w_ialdE (v := (fwFu (gg 17 0) c (((gg 17 0) c) - 1)) c) dX12_best_66 rfl (by decide) (by omega) (by omega) (hA53 _ (by omega)) ?_
          refine w_iconst dX12_best_67 ?_
          refine w_iadd dX12_best_68 ?_
          refine w_iast dX12_best_69 rfl (by decide) (by omega) (by omega) ?_
          rw [show (fwUp (fwUc h 42 0 (fwFu A22 c (((gg 17 0) c) - 1))) 42 0 ((c : Int)).toNat (((fwFu (gg 17 0) c (((gg 17 0) c) - 1)) c) + 1)) = (fwUc h 42 0 (fwFu (fwFu A22 c (((gg 17 0) c) - 1)) c (((fwFu (gg 17 0) c (((gg 17 0) c) - 1)) c) + 1))) from by rw [fwUp_fu]; rw [fwUc_uc]; rfl]
          have hA69 := hiR_fu hA53 c (((fwFu (gg 17 0) c (((gg 17 0) c) - 1)) c) + 1)
          rw [fwFu_mp] at hA69
          have hgt : mSum (mGain (gg 4 0 1) (fwFu (gg 17 0) c (((gg 17 0) c) - 1)) (gg 4 0 2) (gg 18 0)) (gg 5 0 3).toNat = mGt gg (fwFu (gg 17 0) c (gg 17 0 c + -1)) := by unfold mGt; rw [Int.sub_eq_add_neg]
          refine w_iload dX12_best_70 rfl ?_
          refine w_iload_n dX12_best_72 rfl ?_
          refine w_icmp_gt 79 dX12_best_73 (by decide) (by omega) (by omega) (fun c73 => ?_) (fun c73 => ?_)
          · refine w_iload dX12_best_79 rfl ?_
            refine w_istore_n [some (aR 12 0), some (aI (bsB gg c)), some (aI (mSum (mGain (gg 4 0 1) (fwFu (gg 17 0) c (((gg 17 0) c) - 1)) (gg 4 0 2) (gg 18 0)) (gg 5 0 3).toNat)), some (aI (c : Int)), some (aI (mSum (mGain (gg 4 0 1) (fwFu (gg 17 0) c (((gg 17 0) c) - 1)) (gg 4 0 2) (gg 18 0)) (gg 5 0 3).toNat))] dX12_best_81 rfl (by decide) ?_
            refine w_iload_n dX12_best_82 rfl ?_
            refine w_istore_n [some (aR 12 0), some (aI (c : Int)), some (aI (mSum (mGain (gg 4 0 1) (fwFu (gg 17 0) c (((gg 17 0) c) - 1)) (gg 4 0 2) (gg 18 0)) (gg 5 0 3).toNat)), some (aI (c : Int)), some (aI (mSum (mGain (gg 4 0 1) (fwFu (gg 17 0) c (((gg 17 0) c) - 1)) (gg 4 0 2) (gg 18 0)) (gg 5 0 3).toNat))] dX12_best_83 rfl (by decide) ?_
            refine w_iinc [some (aR 12 0), some (aI (c : Int)), some (aI (mSum (mGain (gg 4 0 1) (fwFu (gg 17 0) c (((gg 17 0) c) - 1)) (gg 4 0 2) (gg 18 0)) (gg 5 0 3).toNat)), some (aI ((c : Int) + 1)), some (aI (mSum (mGain (gg 4 0 1) (fwFu (gg 17 0) c (((gg 17 0) c) - 1)) (gg 4 0 2) (gg 18 0)) (gg 5 0 3).toNat))] dX12_best_84 rfl rfl (by decide) ?_
            refine w_goto 22 dX12_best_87 (by decide) ?_
            refine w_drop [4] [some (aR 12 0), some (aI (c : Int)), some (aI (mSum (mGain (gg 4 0 1) (fwFu (gg 17 0) c (((gg 17 0) c) - 1)) (gg 4 0 2) (gg 18 0)) (gg 5 0 3).toNat)), some (aI ((c : Int) + 1)), none] rfl ?_
            refine ih22 (by omega) _ _ _ _ ?_ ?_ ?_ ?_
            · exact (by omega)
            · exact (bs_g (by omega) (by rw [← hgt]; exact c73)).1.symm
            · exact (by rw [(bs_g (by omega) (by rw [← hgt]; exact c73)).2]; exact hgt)
            · exact hA69
          · refine w_goto 84 dX12_best_76 (by decide) ?_
            refine w_iinc [some (aR 12 0), some (aI (bsB gg c)), some (aI (bsM gg c)), some (aI ((c : Int) + 1)), some (aI (mSum (mGain (gg 4 0 1) (fwFu (gg 17 0) c (((gg 17 0) c) - 1)) (gg 4 0 2) (gg 18 0)) (gg 5 0 3).toNat))] dX12_best_84 rfl rfl (by decide) ?_
            refine w_goto 22 dX12_best_87 (by decide) ?_
            refine w_drop [4] [some (aR 12 0), some (aI (bsB gg c)), some (aI (bsM gg c)), some (aI ((c : Int) + 1)), none] rfl ?_
            refine ih22 (by omega) _ _ _ _ ?_ ?_ ?_ ?_
            · exact (by omega)
            · exact (bs_l (by omega) (by rw [← hgt]; omega) (by rw [← hgt]; exact c73)).1.symm
            · exact (bs_l (by omega) (by rw [← hgt]; omega) (by rw [← hgt]; exact c73)).2.symm
            · exact hA69
        · refine w_goto 84 dX12_best_41 (by decide) ?_
          refine w_iinc [some (aR 12 0), some (aI (bsB gg c)), some (aI (bsM gg c)), some (aI ((c : Int) + 1)), none] dX12_best_84 rfl rfl (by decide) ?_
          refine w_goto 22 dX12_best_87 (by decide) ?_
          refine ih22 (by omega) _ _ _ _ ?_ ?_ ?_ ?_
          · exact (by omega)
          · exact (by unfold bsB; rw [bs_z (by omega)])
          · exact (by unfold bsM; rw [bs_z (by omega)])
          · exact hA22
    have z22 := lp22 0 (Nat.zero_le _) _ _ _ A11_2 (by exact (show 0 = ((0 : Nat) : Int) by omega)) (by exact (show (-1) = bsB gg 0 from rfl)) (by exact (show (-1000000000) = bsM gg 0 from rfl)) hA11_2
    exact z22
  · refine w_bipush dX12_best_7 rfl ?_
    exact w_iretE dX12_best_9 rfl (by unfold an_best; rw [if_neg (by omega)]) (k _ (scr_rf hsh))
end

set_option maxRecDepth 100000 in
set_option maxHeartbeats 4000000 in
theorem c_X12_isThere {d : Nat} {h gg : fwH} {Q : Option fwV → fwH → Prop} (s b : Nat) (S : jS gg h) (hs : sOk gg) (hsl : s < 4) (hb : 2 * b + 1 < 60) (k : Q (some (aI (fwB (¬ mAll (mNew (gg 33 s) b) b = true)))) h) : fwCt mX12_isThere (d + 1) [aR 12 0, aI (s : Int), aI (2 * (b : Int))] h Q := by
  refine fwCt_of [some (aR 12 0), some (aI (s : Int)), some (aI (2 * (b : Int))), none] rfl rfl rfl ?_
  refine w_iconst dX12_isThere_0 ?_
  refine w_istore_n [some (aR 12 0), some (aI (s : Int)), some (aI (2 * (b : Int))), some (aI 0)] dX12_isThere_1 rfl (by decide) ?_
  have lp2 : ∀ c : Nat, c ≤ b → ∀ (y2  : Int), y2 = 2 * (c : Int) → (mAll (mNew (gg 33 s) b) c = true) → fwWP mX12_isThere (d + 1) 2 [some (aR 12 0), some (aI (s : Int)), some (aI (2 * (b : Int))), some (aI y2)] [] h Q := by
    refine fw_up (fun c hc2 ih2 => ?_)
    intro y2  ey2 iv2_0
    subst ey2
    show fwWP mX12_isThere (d + 1) 2 [some (aR 12 0), some (aI (s : Int)), some (aI (2 * (b : Int))), some (aI (2 * (c : Int)))] [] h Q
    refine w_iload_n dX12_isThere_2 rfl ?_
    refine w_iload_n dX12_isThere_3 rfl ?_
    refine w_icmp_ge 51 dX12_isThere_4 (by decide) (by omega) (by omega) (fun c4 => ?_) (fun c4 => ?_)
    · have ec2 : b = c := by omega
      subst ec2
      refine w_iconst dX12_isThere_51 ?_
      exact w_zretE (P := ¬ mAll (mNew (gg 33 s) b) b = true) dX12_isThere_52 rfl (by rw [fwB_f (fun z0 => z0 iv2_0)]) k
    · refine w_aload_n dX12_isThere_7 rfl ?_
      refine w_iload_n dX12_isThere_8 rfl ?_
      refine w_iload_n dX12_isThere_9 rfl ?_
      refine w_callV (d := d + 0) (S := []) [aI (s : Int), aI (2 * (c : Int))] dX12_isThere_10 ml_X12_360 ok_X12_numberAt vi_X12_numberAt rfl rfl (by decide) rfl (Nat.le_of_ble_eq_true rfl) ?_
      refine c_naE (d := d) s (2 * c) (s : Int) (2 * (c : Int)) S (by omega) (by omega) (by omega) (by omega) ?_
      show fwWP mX12_isThere (d + 1) 13 [some (aR 12 0), some (aI (s : Int)), some (aI (2 * (b : Int))), some (aI (2 * (c : Int)))] [aJ (gg 33 s (2 * c))] h Q
      have hl2 := (hs s (by omega)).2.2 (2 * c) (by omega)
      refine w_aload_n dX12_isThere_13 rfl ?_
      refine w_iload_n dX12_isThere_14 rfl ?_
      refine w_iload_n dX12_isThere_15 rfl ?_
      refine w_callV (d := d + 0) (S := [aJ (gg 33 s (2 * c))]) [aI (s : Int), aI (2 * (b : Int))] dX12_isThere_16 ml_X12_360 ok_X12_numberAt vi_X12_numberAt rfl rfl (by decide) rfl (Nat.le_of_ble_eq_true rfl) ?_
      refine c_naE (d := d) s (2 * b) (s : Int) (2 * (b : Int)) S (by omega) (by omega) (by omega) (by omega) ?_
      show fwWP mX12_isThere (d + 1) 19 [some (aR 12 0), some (aI (s : Int)), some (aI (2 * (b : Int))), some (aI (2 * (c : Int)))] [aJ (gg 33 s (2 * b)), aJ (gg 33 s (2 * c))] h Q
      have hl3 := (hs s (by omega)).2.2 (2 * b) (by omega)
      refine w_lc_ne 45 dX12_isThere_19 dX12_isThere_20 (by decide) (by omega) (by omega) (fun c20 => ?_) (fun c20 => ?_)
      · refine w_iinc [some (aR 12 0), some (aI (s : Int)), some (aI (2 * (b : Int))), some (aI ((2 * (c : Int)) + 2))] dX12_isThere_45 rfl rfl (by decide) ?_
        refine w_goto 2 dX12_isThere_48 (by decide) ?_
        refine ih2 (by omega) _ ?_ ?_
        · exact (by omega)
        · exact (by rw [mAll, iv2_0, Bool.true_and]; exact decide_eq_true (fun z0 => by first | exact c20 z0.1 | exact c40 z0.2))
      · refine w_aload_n dX12_isThere_23 rfl ?_
        refine w_iload_n dX12_isThere_24 rfl ?_
        refine w_iload_n dX12_isThere_25 rfl ?_
        refine w_iconst dX12_isThere_26 ?_
        refine w_iadd dX12_isThere_27 ?_
        refine w_callV (d := d + 0) (S := []) [aI (s : Int), aI ((2 * (c : Int)) + 1)] dX12_isThere_28 ml_X12_360 ok_X12_numberAt vi_X12_numberAt rfl rfl (by decide) rfl (Nat.le_of_ble_eq_true rfl) ?_
        refine c_naE (d := d) s ((2 * c) + 1) (s : Int) ((2 * (c : Int)) + 1) S (by omega) (by omega) (by omega) (by omega) ?_
        show fwWP mX12_isThere (d + 1) 31 [some (aR 12 0), some (aI (s : Int)), some (aI (2 * (b : Int))), some (aI (2 * (c : Int)))] [aJ (gg 33 s ((2 * c) + 1))] h Q
        have hl4 := (hs s (by omega)).2.2 ((2 * c) + 1) (by omega)
        refine w_aload_n dX12_isThere_31 rfl ?_
        refine w_iload_n dX12_isThere_32 rfl ?_
        refine w_iload_n dX12_isThere_33 rfl ?_
        refine w_iconst dX12_isThere_34 ?_
        refine w_iadd dX12_isThere_35 ?_
        refine w_callV (d := d + 0) (S := [aJ (gg 33 s ((2 * c) + 1))]) [aI (s : Int), aI ((2 * (b : Int)) + 1)] dX12_isThere_36 ml_X12_360 ok_X12_numberAt vi_X12_numberAt rfl rfl (by decide) rfl (Nat.le_of_ble_eq_true rfl) ?_
        refine c_naE (d := d) s ((2 * b) + 1) (s : Int) ((2 * (b : Int)) + 1) S (by omega) (by omega) (by omega) (by omega) ?_
        show fwWP mX12_isThere (d + 1) 39 [some (aR 12 0), some (aI (s : Int)), some (aI (2 * (b : Int))), some (aI (2 * (c : Int)))] [aJ (gg 33 s ((2 * b) + 1)), aJ (gg 33 s ((2 * c) + 1))] h Q
        have hl5 := (hs s (by omega)).2.2 ((2 * b) + 1) (by omega)
        refine w_lc_ne 45 dX12_isThere_39 dX12_isThere_40 (by decide) (by omega) (by omega) (fun c40 => ?_) (fun c40 => ?_)
        · refine w_iinc [some (aR 12 0), some (aI (s : Int)), some (aI (2 * (b : Int))), some (aI ((2 * (c : Int)) + 2))] dX12_isThere_45 rfl rfl (by decide) ?_
          refine w_goto 2 dX12_isThere_48 (by decide) ?_
          refine ih2 (by omega) _ ?_ ?_
          · exact (by omega)
          · exact (by rw [mAll, iv2_0, Bool.true_and]; exact decide_eq_true (fun z0 => by first | exact c20 z0.1 | exact c40 z0.2))
        · refine w_iconst dX12_isThere_43 ?_
          exact w_zretE (P := ¬ mAll (mNew (gg 33 s) b) b = true) dX12_isThere_44 rfl (by rw [fwB_t]; intro z0; have z1 := of_decide_eq_true ((mAll_iff _ _).mp z0 c (by omega)); exact z1 ⟨c20, c40⟩) k
  refine lp2 0 (Nat.zero_le _) _ ?_ ?_
  · exact (by omega)
  · exact rfl
set_option maxRecDepth 100000 in
set_option maxHeartbeats 4000000 in
theorem c_X12_hasName {d : Nat} {h gg : fwH} {Q : Option fwV → fwH → Prop} (s b : Nat) (J : cOk gg) (R : jF gg h) (S : jS gg h) (hsl : s < 4) (hb : 2 * b + 1 < 60) (hfo : 0 ≤ gg 33 s (2 * b) ∧ gg 33 s (2 * b) < gg 5 0 3) (k : Q (some (aI (fwB (gg 33 s (2 * b + 1) < gg 18 0 (7 * (gg 33 s (2 * b)).toNat + 1))))) h) : fwCt mX12_hasName (d + 1) [aR 12 0, aI (s : Int), aI (2 * (b : Int))] h Q := by
  refine fwCt_of [some (aR 12 0), some (aI (s : Int)), some (aI (2 * (b : Int)))] rfl rfl rfl ?_
  obtain ⟨hl, hP, hG, -, -, -, hlw, -, ha, hs, -, hsc⟩ := id J
  obtain ⟨⟨g1, g2⟩, ⟨g3, g4⟩, ⟨g5, g6⟩, g7, -⟩ := id hG
  have hpz := hP.1
  refine w_aload_n dX12_hasName_0 rfl ?_
  refine w_iload_n dX12_hasName_1 rfl ?_
  refine w_iload_n dX12_hasName_2 rfl ?_
  refine w_iconst dX12_hasName_3 ?_
  refine w_iadd dX12_hasName_4 ?_
  refine w_callV (d := d + 0) (S := []) [aI (s : Int), aI ((2 * (b : Int)) + 1)] dX12_hasName_5 ml_X12_360 ok_X12_numberAt vi_X12_numberAt rfl rfl (by decide) rfl (Nat.le_of_ble_eq_true rfl) ?_
  refine c_naE (d := d) s ((2 * b) + 1) (s : Int) ((2 * (b : Int)) + 1) S (by omega) (by omega) (by omega) (by omega) ?_
  show fwWP mX12_hasName (d + 1) 8 [some (aR 12 0), some (aI (s : Int)), some (aI (2 * (b : Int)))] [aJ (gg 33 s ((2 * b) + 1))] h Q
  have hl1 := (hs s (by omega)).2.2 ((2 * b) + 1) (by omega)
  refine w_aload_n dX12_hasName_8 rfl ?_
  refine w_aload_n dX12_hasName_9 rfl ?_
  refine w_iload_n dX12_hasName_10 rfl ?_
  refine w_iload_n dX12_hasName_11 rfl ?_
  refine w_callV (d := d + 0) (S := [aR 12 0, aJ (gg 33 s ((2 * b) + 1))]) [aI (s : Int), aI (2 * (b : Int))] dX12_hasName_12 ml_X12_360 ok_X12_numberAt vi_X12_numberAt rfl rfl (by decide) rfl (Nat.le_of_ble_eq_true rfl) ?_
  refine c_naE (d := d) s (2 * b) (s : Int) (2 * (b : Int)) S (by omega) (by omega) (by omega) (by omega) ?_
  show fwWP mX12_hasName (d + 1) 15 [some (aR 12 0), some (aI (s : Int)), some (aI (2 * (b : Int)))] [aJ (gg 33 s (2 * b)), aR 12 0, aJ (gg 33 s ((2 * b) + 1))] h Q
  have hl2 := (hs s (by omega)).2.2 (2 * b) (by omega)
  refine w_l2i dX12_hasName_15 ?_
  refine w_iconst dX12_hasName_16 ?_
  refine w_callV (d := d + 0) (S := [aJ (gg 33 s ((2 * b) + 1))]) [aI (gg 33 s (2 * b)), aI 1] dX12_hasName_17 ml_X12_220 ok_X12_of vi_X12_of rfl rfl (by decide) rfl (Nat.le_of_ble_eq_true rfl) ?_
  refine c_ofE (d := d) (gg 33 s (2 * b)).toNat 1 (gg 33 s (2 * b)) J R (by omega) (by omega) (by omega) ?_
  show fwWP mX12_hasName (d + 1) 20 [some (aR 12 0), some (aI (s : Int)), some (aI (2 * (b : Int)))] [aI (gg 18 0 (7 * (gg 33 s (2 * b)).toNat + 1)), aJ (gg 33 s ((2 * b) + 1))] h Q
  have hof3 := hP.2 (gg 33 s (2 * b)).toNat (by omega)
  refine w_i2l dX12_hasName_20 (by omega) ?_
  refine w_lc_ge 29 dX12_hasName_21 dX12_hasName_22 (by decide) (by omega) (by omega) (fun c22 => ?_) (fun c22 => ?_)
  · refine w_iconst dX12_hasName_29 ?_
    exact w_zretE dX12_hasName_30 rfl (by first | (exfalso; omega) | (rw [fwB_t (by omega)]) | (rw [fwB_f (by omega)])) k
  · refine w_iconst dX12_hasName_25 ?_
    refine w_goto 30 dX12_hasName_26 (by decide) ?_
    exact w_zretE dX12_hasName_30 rfl (by first | (exfalso; omega) | (rw [fwB_t (by omega)]) | (rw [fwB_f (by omega)])) k
set_option maxRecDepth 100000 in
set_option maxHeartbeats 4000000 in
theorem c_X12_asksNames {d : Nat} {h gg : fwH} {Q : Option fwV → fwH → Prop} (x : Int) (J : cOk gg) (R : jF gg h) (S : jS gg h) (hx : -2147483648 ≤ x ∧ x < 2147483648) (k : (¬ mRl gg x → Q (some (aI (mRlR gg x))) h) ∧ (mRl gg x → Q (some (aI 0)) h)) : fwCt mX12_asksNames (d + 2) [aR 12 0, aI x, aI 1] h Q := by
  refine fwCt_of [some (aR 12 0), some (aI x), some (aI 1), none] rfl rfl rfl ?_
  obtain ⟨hl, hP, hG, -, -, -, hlw, -, ha, hs, -, hsc⟩ := id J
  obtain ⟨⟨g1, g2⟩, ⟨g3, g4⟩, ⟨g5, g6⟩, g7, -⟩ := id hG
  have hpz := hP.1
  refine w_iload_n dX12_asksNames_0 rfl ?_
  refine w_callS (d := d + 1) (S := []) [aI x] dX12_asksNames_1 ml_X12_357 ok_X12_isSlot st_X12_isSlot rfl (Nat.le_of_ble_eq_true rfl) ?_
  refine c_X12_isSlot (d := d) x (by omega) ?_
  show fwWP mX12_asksNames (d + 2) 4 [some (aR 12 0), some (aI x), some (aI 1), none] [aI (fwB (0 ≤ x ∧ x ≤ 3))] h Q
  refine w_ifB_eq 18 dX12_asksNames_4 (by decide) (fun c4 => ?_) (fun c4 => ?_)
  · refine w_bipush dX12_asksNames_18 rfl ?_
    exact w_iretE dX12_asksNames_20 rfl (by unfold mRlR; rw [if_neg (by omega)]) (k.1 (fun q0 => by have q1 := q0.1; have q2 := q0.2.1; omega))
  · refine w_aload_n dX12_asksNames_7 rfl ?_
    refine w_callV (d := d + 1) (S := []) [] dX12_asksNames_8 ml_X12_73 ok_X12_isMount vi_X12_isMount rfl rfl (by decide) rfl (Nat.le_of_ble_eq_true rfl) ?_
    refine c_X12_isMount (d := (d + 1)) J R ?_
    show fwWP mX12_asksNames (d + 2) 11 [some (aR 12 0), some (aI x), some (aI 1), none] [aI (fwB (0 < gg 3 0 6))] h Q
    refine w_ifB_eq 18 dX12_asksNames_11 (by decide) (fun c11 => ?_) (fun c11 => ?_)
    · refine w_bipush dX12_asksNames_18 rfl ?_
      exact w_iretE dX12_asksNames_20 rfl (by unfold mRlR; rw [if_neg (by omega)]) (k.1 (fun q0 => by have q1 := q0.1; have q2 := q0.2.1; omega))
    · refine w_iload_n dX12_asksNames_14 rfl ?_
      refine w_if_ne 21 dX12_asksNames_15 (by decide) (by omega) (fun c15 => ?_) (fun c15 => ?_)
      · obtain ⟨s, rfl⟩ : ∃ s : Nat, x = (s : Int) := ⟨x.toNat, by omega⟩
        have hs35 := (hs s (by omega)).1
        refine w_aload_n dX12_asksNames_21 rfl ?_
        refine w_getr 46 0 dX12_asksNames_22 fl_X12_47 rfl (by decide) ?_
        refine w_iload_n dX12_asksNames_25 rfl ?_
        refine w_ialdE (v := gg 35 0 s) dX12_asksNames_26 rfl (by decide) (by omega) (by omega) (S s (by omega)).1 ?_
        refine w_iconst dX12_asksNames_27 ?_
        refine w_icmp_ne 34 dX12_asksNames_28 (by decide) (by omega) (by omega) (fun c28 => ?_) (fun c28 => ?_)
        · refine w_aload_n dX12_asksNames_34 rfl ?_
          refine w_getr 46 0 dX12_asksNames_35 fl_X12_47 rfl (by decide) ?_
          refine w_iload_n dX12_asksNames_38 rfl ?_
          refine w_ialdE (v := gg 35 0 s) dX12_asksNames_39 rfl (by decide) (by omega) (by omega) (S s (by omega)).1 ?_
          refine w_iconst dX12_asksNames_40 ?_
          have hrm : fwRem (gg 35 0 s) 2 = gg 35 0 s % 2 := fwRem_nn (by omega) (by omega)
          refine w_irem dX12_asksNames_41 (by omega) (by omega) ?_
          rw [hrm]
          refine w_if_eq 48 dX12_asksNames_42 (by decide) (by omega) (fun c42 => ?_) (fun c42 => ?_)
          · refine w_iconst dX12_asksNames_48 ?_
            refine w_istore_n [some (aR 12 0), some (aI (s : Int)), some (aI 1), some (aI 0)] dX12_asksNames_49 rfl (by decide) ?_
            have lp50 : ∀ c : Nat, c ≤ (gg 35 0 s / 2).toNat → ∀ (y50  : Int), y50 = 2 * (c : Int) → (mAll (mRollP (gg 33 s) (gg 5 0 3)) c = true) → fwWP mX12_asksNames (d + 2) 50 [some (aR 12 0), some (aI (s : Int)), some (aI 1), some (aI y50)] [] h Q := by
              refine fw_up (fun c hc50 ih50 => ?_)
              intro y50  ey50 iv50_0
              subst ey50
              show fwWP mX12_asksNames (d + 2) 50 [some (aR 12 0), some (aI (s : Int)), some (aI 1), some (aI (2 * (c : Int)))] [] h Q
              refine w_iload_n dX12_asksNames_50 rfl ?_
              refine w_aload_n dX12_asksNames_51 rfl ?_
              refine w_getr 46 0 dX12_asksNames_52 fl_X12_47 rfl (by decide) ?_
              refine w_iload_n dX12_asksNames_55 rfl ?_
              refine w_ialdE (v := gg 35 0 s) dX12_asksNames_56 rfl (by decide) (by omega) (by omega) (S s (by omega)).1 ?_
              refine w_icmp_ge 100 dX12_asksNames_57 (by decide) (by omega) (by omega) (fun c57 => ?_) (fun c57 => ?_)
              · have ec50 : (gg 35 0 s / 2).toNat = c := by omega
                subst ec50
                refine w_iconst dX12_asksNames_100 ?_
                exact w_iret dX12_asksNames_101 rfl (k.2 ⟨by omega, by omega, c28, by show gg 35 0 s % 2 = 0; omega, iv50_0⟩)
              · refine w_aload_n dX12_asksNames_60 rfl ?_
                refine w_aload_n dX12_asksNames_61 rfl ?_
                refine w_iload_n dX12_asksNames_62 rfl ?_
                refine w_iload_n dX12_asksNames_63 rfl ?_
                refine w_callV (d := d + 1) (S := [aR 12 0]) [aI (s : Int), aI (2 * (c : Int))] dX12_asksNames_64 ml_X12_360 ok_X12_numberAt vi_X12_numberAt rfl rfl (by decide) rfl (Nat.le_of_ble_eq_true rfl) ?_
                refine c_naE (d := (d + 1)) s (2 * c) (s : Int) (2 * (c : Int)) S (by omega) (by omega) (by omega) (by omega) ?_
                show fwWP mX12_asksNames (d + 2) 67 [some (aR 12 0), some (aI (s : Int)), some (aI 1), some (aI (2 * (c : Int)))] [aJ (gg 33 s (2 * c)), aR 12 0] h Q
                have hl7 := (hs s (by omega)).2.2 (2 * c) (by omega)
                refine w_callV (d := d + 1) (S := []) [aJ (gg 33 s (2 * c))] dX12_asksNames_67 ml_X12_235 ok_X12_isFolk vi_X12_isFolk rfl rfl (by decide) rfl (Nat.le_of_ble_eq_true rfl) ?_
                refine c_X12_isFolk (d := d) (gg 33 s (2 * c)) J R (by omega) ?_
                show fwWP mX12_asksNames (d + 2) 70 [some (aR 12 0), some (aI (s : Int)), some (aI 1), some (aI (2 * (c : Int)))] [aI (fwB (0 ≤ (gg 33 s (2 * c)) ∧ (gg 33 s (2 * c)) ≤ gg 5 0 3 - 1))] h Q
                refine w_ifB_eq 91 dX12_asksNames_70 (by decide) (fun c70 => ?_) (fun c70 => ?_)
                · refine w_bipush dX12_asksNames_91 rfl ?_
                  exact w_iretE dX12_asksNames_93 rfl (by unfold mRlR; rw [if_neg (fun q0 => c28 q0.2.2)]) (k.1 (fun q0 => by have q9 : mAll (mRollP (gg 33 s) (gg 5 0 3)) (gg 35 0 s / 2).toNat = true := q0.2.2.2.2; have q1 := of_decide_eq_true ((mAll_iff _ _).mp q9 c (by omega)); omega))
                · refine w_aload_n dX12_asksNames_73 rfl ?_
                  refine w_iload_n dX12_asksNames_74 rfl ?_
                  refine w_iload_n dX12_asksNames_75 rfl ?_
                  refine w_iconst dX12_asksNames_76 ?_
                  refine w_iadd dX12_asksNames_77 ?_
                  refine w_callV (d := d + 1) (S := []) [aI (s : Int), aI ((2 * (c : Int)) + 1)] dX12_asksNames_78 ml_X12_360 ok_X12_numberAt vi_X12_numberAt rfl rfl (by decide) rfl (Nat.le_of_ble_eq_true rfl) ?_
                  refine c_naE (d := (d + 1)) s ((2 * c) + 1) (s : Int) ((2 * (c : Int)) + 1) S (by omega) (by omega) (by omega) (by omega) ?_
                  show fwWP mX12_asksNames (d + 2) 81 [some (aR 12 0), some (aI (s : Int)), some (aI 1), some (aI (2 * (c : Int)))] [aJ (gg 33 s ((2 * c) + 1))] h Q
                  have hl9 := (hs s (by omega)).2.2 ((2 * c) + 1) (by omega)
                  refine w_lconst (z := 0) dX12_asksNames_81 rfl ?_
                  refine w_ldc2 (n := 999) dX12_asksNames_82 cs_X12_347 ?_
                  refine w_callS (d := d + 1) (S := []) [aJ (gg 33 s ((2 * c) + 1)), aJ 0, aJ 999] dX12_asksNames_85 ml_X12_65 ok_X12_in st_X12_in rfl (Nat.le_of_ble_eq_true rfl) ?_
                  refine c_X12_in (d := (d + 1)) (gg 33 s ((2 * c) + 1)) 0 999 (by omega) (by omega) (by omega) ?_
                  show fwWP mX12_asksNames (d + 2) 88 [some (aR 12 0), some (aI (s : Int)), some (aI 1), some (aI (2 * (c : Int)))] [aI (fwB (0 ≤ (gg 33 s ((2 * c) + 1)) ∧ (gg 33 s ((2 * c) + 1)) ≤ 999))] h Q
                  refine w_ifB_ne 94 dX12_asksNames_88 (by decide) (fun c88 => ?_) (fun c88 => ?_)
                  · refine w_iinc [some (aR 12 0), some (aI (s : Int)), some (aI 1), some (aI ((2 * (c : Int)) + 2))] dX12_asksNames_94 rfl rfl (by decide) ?_
                    refine w_goto 50 dX12_asksNames_97 (by decide) ?_
                    refine ih50 (by omega) _ ?_ ?_
                    · exact (by omega)
                    · exact (by rw [mAll, iv50_0, Bool.true_and]; exact decide_eq_true (by omega))
                  · refine w_bipush dX12_asksNames_91 rfl ?_
                    exact w_iretE dX12_asksNames_93 rfl (by unfold mRlR; rw [if_neg (fun q0 => c28 q0.2.2)]) (k.1 (fun q0 => by have q9 : mAll (mRollP (gg 33 s) (gg 5 0 3)) (gg 35 0 s / 2).toNat = true := q0.2.2.2.2; have q1 := of_decide_eq_true ((mAll_iff _ _).mp q9 c (by omega)); omega))
            refine lp50 0 (Nat.zero_le _) _ ?_ ?_
            · exact (by omega)
            · exact rfl
          · refine w_bipush dX12_asksNames_45 rfl ?_
            exact w_iretE dX12_asksNames_47 rfl (by unfold mRlR; rw [if_neg (fun q0 => c28 q0.2.2)]) (k.1 (fun q0 => by have q1 : gg 35 0 s % 2 = 0 := q0.2.2.2.1; omega))
        · refine w_bipush dX12_asksNames_31 rfl ?_
          exact w_iretE dX12_asksNames_33 rfl (by unfold mRlR; rw [if_pos ⟨by omega, by omega, c28⟩]) (k.1 (fun q0 => q0.2.2.1 c28))
      · (exfalso; omega)
set_option maxRecDepth 100000 in
set_option maxHeartbeats 4000000 in
theorem c_X12_stands {d : Nat} {h gg : fwH} {Q : Option fwV → fwH → Prop} (x : Int) (J : cOk gg) (R : jF gg h) (S : jS gg h) (hx : -2147483648 ≤ x ∧ x < 2147483648) (k : Q (some (aI (an_stands gg x))) h) : fwCt mX12_stands (d + 3) [aR 12 0, aI x] h Q := by
  refine fwCt_of [some (aR 12 0), some (aI x), none, none, none] rfl rfl rfl ?_
  obtain ⟨hl, hP, hG, -, -, -, hlw, -, ha, hs, -, hsc⟩ := id J
  obtain ⟨⟨g1, g2⟩, ⟨g3, g4⟩, ⟨g5, g6⟩, g7, -⟩ := id hG
  have hpz := hP.1
  refine w_aload_n dX12_stands_0 rfl ?_
  refine w_iload_n dX12_stands_1 rfl ?_
  refine w_iconst dX12_stands_2 ?_
  refine w_callV (d := d + 2) (S := []) [aI x, aI 1] dX12_stands_3 ml_X12_380 ok_X12_asksNames vi_X12_asksNames rfl rfl (by decide) rfl (Nat.le_of_ble_eq_true rfl) ?_
  refine c_X12_asksNames (d := d) x J R S (by omega) ⟨fun hrl => ?_, fun hrl => ?_⟩
  · have hrn := mRlR_n gg x
    show fwWP mX12_stands (d + 3) 6 [some (aR 12 0), some (aI x), none, none, none] [aI (mRlR gg x)] h Q
    refine w_istore_n [some (aR 12 0), some (aI x), some (aI (mRlR gg x)), none, none] dX12_stands_6 rfl (by decide) ?_
    refine w_iload_n dX12_stands_7 rfl ?_
    refine w_if_ge 13 dX12_stands_8 (by decide) (by omega) (fun c8 => ?_) (fun c8 => ?_)
    · (exfalso; omega)
    · refine w_iload_n dX12_stands_11 rfl ?_
      exact w_iretE dX12_stands_12 rfl (by unfold an_stands; rw [if_neg hrl]) k
  · show fwWP mX12_stands (d + 3) 6 [some (aR 12 0), some (aI x), none, none, none] [aI 0] h Q
    refine w_istore_n [some (aR 12 0), some (aI x), some (aI 0), none, none] dX12_stands_6 rfl (by decide) ?_
    refine w_iload_n dX12_stands_7 rfl ?_
    refine w_if_ge 13 dX12_stands_8 (by decide) (by omega) (fun c8 => ?_) (fun c8 => ?_)
    · have hx4 := hrl.1
      obtain ⟨s, rfl⟩ : ∃ s : Nat, x = (s : Int) := ⟨x.toNat, by omega⟩
      have hs35 := (hs s (by omega)).1
      have hz1 : gg 35 0 s ≠ -1 := hrl.2.2.1
      have hz2 : gg 35 0 s % 2 = 0 := hrl.2.2.2.1
      have hal : mAll (mRollP (gg 33 s) (gg 5 0 3)) (gg 35 0 s / 2).toNat = true := hrl.2.2.2.2
      refine w_iconst dX12_stands_13 ?_
      refine w_istore_n [some (aR 12 0), some (aI (s : Int)), some (aI 0), some (aI 0), none] dX12_stands_14 rfl (by decide) ?_
      refine w_iconst dX12_stands_15 ?_
      refine w_istore [some (aR 12 0), some (aI (s : Int)), some (aI 0), some (aI 0), some (aI 0)] dX12_stands_16 rfl (by decide) ?_
      have lp18 : ∀ c : Nat, c ≤ (gg 35 0 s / 2).toNat → ∀ (y18 nv : Int), y18 = 2 * (c : Int) → nv = mStand (gg 33 s) (gg 18 0) 0 c → fwWP mX12_stands (d + 3) 18 [some (aR 12 0), some (aI (s : Int)), some (aI 0), some (aI nv), some (aI y18)] [] h Q := by
        refine fw_up (fun c hc18 ih18 => ?_)
        intro y18 nv ey18 e_nv
        subst ey18
        subst e_nv
        show fwWP mX12_stands (d + 3) 18 [some (aR 12 0), some (aI (s : Int)), some (aI 0), some (aI (mStand (gg 33 s) (gg 18 0) 0 c)), some (aI (2 * (c : Int)))] [] h Q
        refine w_iload dX12_stands_18 rfl ?_
        refine w_aload_n dX12_stands_20 rfl ?_
        refine w_getr 46 0 dX12_stands_21 fl_X12_47 rfl (by decide) ?_
        refine w_iload_n dX12_stands_24 rfl ?_
        refine w_ialdE (v := gg 35 0 s) dX12_stands_25 rfl (by decide) (by omega) (by omega) (S s (by omega)).1 ?_
        refine w_icmp_ge 63 dX12_stands_26 (by decide) (by omega) (by omega) (fun c26 => ?_) (fun c26 => ?_)
        · have ec18 : (gg 35 0 s / 2).toNat = c := by omega
          subst ec18
          refine w_iload_n dX12_stands_63 rfl ?_
          exact w_iretE dX12_stands_64 rfl (by unfold an_stands; rw [if_pos hrl]; rfl) k
        · have hrp := of_decide_eq_true ((mAll_iff _ _).mp hal c (by omega))
          refine w_iload_n dX12_stands_29 rfl ?_
          refine w_aload_n dX12_stands_30 rfl ?_
          refine w_iload_n dX12_stands_31 rfl ?_
          refine w_iload dX12_stands_32 rfl ?_
          refine w_callV (d := d + 2) (S := [aI (mStand (gg 33 s) (gg 18 0) 0 c)]) [aI (s : Int), aI (2 * (c : Int))] dX12_stands_34 ml_X12_384 ok_X12_hasName vi_X12_hasName rfl rfl (by decide) rfl (Nat.le_of_ble_eq_true rfl) ?_
          refine c_X12_hasName (d := (d + 1)) s c J R S (by omega) (by omega) (by omega) ?_
          show fwWP mX12_stands (d + 3) 37 [some (aR 12 0), some (aI (s : Int)), some (aI 0), some (aI (mStand (gg 33 s) (gg 18 0) 0 c)), some (aI (2 * (c : Int)))] [aI (fwB (gg 33 s (2 * c + 1) < gg 18 0 (7 * (gg 33 s (2 * c)).toNat + 1))), aI (mStand (gg 33 s) (gg 18 0) 0 c)] h Q
          refine w_ifB_eq 54 dX12_stands_37 (by decide) (fun c37 => ?_) (fun c37 => ?_)
          · refine w_iconst dX12_stands_54 ?_
            refine w_iadd dX12_stands_55 ?_
            refine w_istore_n [some (aR 12 0), some (aI (s : Int)), some (aI 0), some (aI ((mStand (gg 33 s) (gg 18 0) 0 c) + 0)), some (aI (2 * (c : Int)))] dX12_stands_56 rfl (by decide) ?_
            refine w_iinc [some (aR 12 0), some (aI (s : Int)), some (aI 0), some (aI ((mStand (gg 33 s) (gg 18 0) 0 c) + 0)), some (aI ((2 * (c : Int)) + 2))] dX12_stands_57 rfl rfl (by decide) ?_
            refine w_goto 18 dX12_stands_60 (by decide) ?_
            refine ih18 (by omega) _ _ ?_ ?_
            · exact (by omega)
            · exact (by rw [mStand, if_neg (show ¬ mHow (gg 33 s) (gg 18 0) c = 0 by unfold mHow; by_cases z0 : mAll (mNew (gg 33 s) c) c = true; (rw [if_pos z0, if_neg (by omega)]; omega); (rw [if_neg z0]; omega))]; omega)
          · refine w_aload_n dX12_stands_40 rfl ?_
            refine w_iload_n dX12_stands_41 rfl ?_
            refine w_iload dX12_stands_42 rfl ?_
            refine w_callV (d := d + 2) (S := [aI (mStand (gg 33 s) (gg 18 0) 0 c)]) [aI (s : Int), aI (2 * (c : Int))] dX12_stands_44 ml_X12_387 ok_X12_isThere vi_X12_isThere rfl rfl (by decide) rfl (Nat.le_of_ble_eq_true rfl) ?_
            refine c_X12_isThere (d := (d + 1)) s c S hs (by omega) (by omega) ?_
            show fwWP mX12_stands (d + 3) 47 [some (aR 12 0), some (aI (s : Int)), some (aI 0), some (aI (mStand (gg 33 s) (gg 18 0) 0 c)), some (aI (2 * (c : Int)))] [aI (fwB (¬ mAll (mNew (gg 33 s) c) c = true)), aI (mStand (gg 33 s) (gg 18 0) 0 c)] h Q
            refine w_ifB_ne 54 dX12_stands_47 (by decide) (fun c47 => ?_) (fun c47 => ?_)
            · refine w_iconst dX12_stands_54 ?_
              refine w_iadd dX12_stands_55 ?_
              refine w_istore_n [some (aR 12 0), some (aI (s : Int)), some (aI 0), some (aI ((mStand (gg 33 s) (gg 18 0) 0 c) + 0)), some (aI (2 * (c : Int)))] dX12_stands_56 rfl (by decide) ?_
              refine w_iinc [some (aR 12 0), some (aI (s : Int)), some (aI 0), some (aI ((mStand (gg 33 s) (gg 18 0) 0 c) + 0)), some (aI ((2 * (c : Int)) + 2))] dX12_stands_57 rfl rfl (by decide) ?_
              refine w_goto 18 dX12_stands_60 (by decide) ?_
              refine ih18 (by omega) _ _ ?_ ?_
              · exact (by omega)
              · exact (by rw [mStand, if_neg (show ¬ mHow (gg 33 s) (gg 18 0) c = 0 by unfold mHow; rw [if_neg c47]; omega)]; omega)
            · refine w_iconst dX12_stands_50 ?_
              refine w_goto 55 dX12_stands_51 (by decide) ?_
              refine w_iadd dX12_stands_55 ?_
              refine w_istore_n [some (aR 12 0), some (aI (s : Int)), some (aI 0), some (aI ((mStand (gg 33 s) (gg 18 0) 0 c) + 1)), some (aI (2 * (c : Int)))] dX12_stands_56 rfl (by decide) ?_
              refine w_iinc [some (aR 12 0), some (aI (s : Int)), some (aI 0), some (aI ((mStand (gg 33 s) (gg 18 0) 0 c) + 1)), some (aI ((2 * (c : Int)) + 2))] dX12_stands_57 rfl rfl (by decide) ?_
              refine w_goto 18 dX12_stands_60 (by decide) ?_
              refine ih18 (by omega) _ _ ?_ ?_
              · exact (by omega)
              · exact (by rw [mStand, if_pos (show mHow (gg 33 s) (gg 18 0) c = 0 by unfold mHow; rw [if_pos (Decidable.byContradiction c47), if_pos c37])])
      refine lp18 0 (Nat.zero_le _) _ _ ?_ ?_
      · exact (by omega)
      · exact rfl
    · (exfalso; omega)

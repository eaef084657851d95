section
theorem mSteps_w {x a b : Int} (hx : -1000 ≤ x ∧ x ≤ 1000) (ha : -1000 ≤ a ∧ a ≤ 1000) (hb : -1000 ≤ b ∧ b ≤ 1000) : -10000 ≤ mSteps x a b ∧ mSteps x a b ≤ 10000 := by
  unfold mSteps
  omega
set_option maxRecDepth 100000 in
set_option maxHeartbeats 4000000 in
theorem c_w_roundOf {d : Nat} {h gg : fwH} {Q : Option fwV → fwH → Prop} (x : Int) (y : Int) (J : cOk gg) (R : jF gg h) (K : jA gg h) (hsh : sc h) (hc : 0 ≤ x ∧ x ≤ gg 4 0 1 - 1) (hx : -2147483648 ≤ x ∧ x < 2147483648) (hy : -2147483648 ≤ y ∧ y < 2147483648) (k : ∀ v g, (-10000 ≤ v ∧ v ≤ 1000000000) → scr h g → Q (some (aI v)) g) : fwCt mX12_roundOf (d + 7) [aR 12 0, aI x, aI y] h Q := by
  refine fwCt_of [some (aR 12 0), some (aI x), some (aI y), none, none, none, none] rfl rfl rfl ?_
  obtain ⟨hl, hP, hG, hM0, htd, hut, hlw, hhc, ha, hs, hT, hsc⟩ := id J
  have hb17 : hB (gg 17 0) := fun c hc => by have := hM0 c hc; omega
  obtain ⟨⟨g1, g2⟩, ⟨g3, g4⟩, ⟨g5, g6⟩, g7, -⟩ := id hG
  have h17_99 : ∀ c : Nat, (c : Int) < gg 4 0 1 → gg 17 0 c ≤ 99 := fun c hc => (hM0 c (by omega)).2
  have hpz := hP.1
  have hrs1 := R.2.2.2.2.2.2.2.2.2.2.2
  refine w_aload_n dX12_roundOf_0 rfl ?_
  refine w_callV (d := d + 6) (S := []) [] dX12_roundOf_1 ml_X12_240 ok_X12_asItIs vi_X12_asItIs rfl rfl (by decide) rfl (Nat.le_of_ble_eq_true rfl) ?_
  refine c_X12_asItIs (d := (d + 1)) J R K (show 1 ≤ gg 4 0 1 by omega) (show 1 ≤ gg 4 0 3 by omega) ?_
  intro A1_1 hA1_1
  show fwWP mX12_roundOf (d + 7) 4 [some (aR 12 0), some (aI x), some (aI y), none, none, none, none] [] (fwUc h 42 0 A1_1) Q
  refine w_aload_n dX12_roundOf_4 rfl ?_
  refine w_callV (d := d + 6) (S := []) [] dX12_roundOf_5 ml_X12_263 ok_X12_willingSet vi_X12_willingSet rfl rfl (by decide) rfl (Nat.le_of_ble_eq_true rfl) ?_
  refine c_X12_willingSet (d := (d + 1)) (gg 17 0) J R hA1_1 hb17 (show 1 ≤ gg 4 0 1 by omega) ?_
  intro A5_2 hA5_2
  show fwWP mX12_roundOf (d + 7) 8 [some (aR 12 0), some (aI x), some (aI y), none, none, none, none] [aI (mGers (gg 4 0 1) (gg 17 0) (gg 4 0 2) (gg 4 0 4) (gg 18 0) (gg 5 0 3).toNat (-1))] (fwUc (fwUc h 42 0 A1_1) 42 0 A5_2) Q
  rw [show (fwUc (fwUc h 42 0 A1_1) 42 0 A5_2) = (fwUc h 42 0 A5_2) from by funext a b; simp only [fwUc]; (repeat' split); all_goals first | rfl | (exfalso; omega)]
  have hwr2 := mGers_r (gg 4 0 1) (gg 17 0) (gg 4 0 2) (gg 4 0 4) (gg 18 0) (m := (gg 5 0 3).toNat) (-1) (by omega)
  have hw8_3 := mGers_8 (gg 4 0 1) (gg 17 0) (gg 4 0 2) (gg 4 0 4) (gg 18 0) (m := (gg 5 0 3).toNat) (-1) (by omega)
  change fwWP _ _ _ _ (aI (mWil gg 0) :: _) _ _
  have hw8 : 0 ≤ mWil gg 0 ∧ mWil gg 0 < 256 := hw8_3
  refine w_istore_n [some (aR 12 0), some (aI x), some (aI y), some (aI (mWil gg 0)), none, none, none] dX12_roundOf_8 rfl (by decide) ?_
  refine w_ldcw (n := 1000000000) dX12_roundOf_9 cs_X12_294 ?_
  refine w_istore [some (aR 12 0), some (aI x), some (aI y), some (aI (mWil gg 0)), some (aI 1000000000), none, none] dX12_roundOf_12 rfl (by decide) ?_
  refine w_iconst dX12_roundOf_14 ?_
  refine w_istore [some (aR 12 0), some (aI x), some (aI y), some (aI (mWil gg 0)), some (aI 1000000000), some (aI 0), none] dX12_roundOf_15 rfl (by decide) ?_
  have lp17 : ∀ c : Nat, c ≤ (x + 1).toNat → ∀ (y17 lv : Int) (hh17 : fwH), y17 = (c : Int) → (-10000 ≤ lv ∧ lv ≤ 1000000000) → (∃ r : Nat → Int, hh17 = (fwUc (fwUc h 42 0 A5_2) 12 0 r) ∧ r 5 = h 12 0 5 ∧ r 12 = h 12 0 12 ∧ r 13 = h 12 0 13) → fwWP mX12_roundOf (d + 7) 17 [some (aR 12 0), some (aI x), some (aI y), some (aI (mWil gg 0)), some (aI lv), some (aI y17), none] [] hh17 Q := by
    refine fw_up (fun c hc17 ih17 => ?_)
    intro y17 lv hh17 ey17 e_lv eh17
    subst ey17
    obtain ⟨r_17, eh17, hp17⟩ := eh17
    subst eh17
    show fwWP mX12_roundOf (d + 7) 17 [some (aR 12 0), some (aI x), some (aI y), some (aI (mWil gg 0)), some (aI lv), some (aI (c : Int)), none] [] (fwUc (fwUc h 42 0 A5_2) 12 0 r_17) Q
    refine w_iload dX12_roundOf_17 rfl ?_
    refine w_iload_n dX12_roundOf_19 rfl ?_
    refine w_icmp_gt 104 dX12_roundOf_20 (by decide) (by omega) (by omega) (fun c20 => ?_) (fun c20 => ?_)
    · refine w_iload dX12_roundOf_104 rfl ?_
      exact w_iret dX12_roundOf_106 rfl (k _ _ (by omega) (scr_12 (scr_uc (scr_rf hsh) rfl (by decide) (by decide) (by decide)) hp17.1 hp17.2.1 hp17.2.2))
    · refine w_iload_n dX12_roundOf_23 rfl ?_
      refine w_istore [some (aR 12 0), some (aI x), some (aI y), some (aI (mWil gg 0)), some (aI lv), some (aI (c : Int)), some (aI x)] dX12_roundOf_24 rfl (by decide) ?_
      have lp26 : ∀ c2 : Nat, c2 ≤ (gg 4 0 1 - x).toNat → ∀ (y26 lw : Int) (hh26 : fwH), y26 = x + (c2 : Int) → (-10000 ≤ lw ∧ lw ≤ 1000000000) → (∃ r : Nat → Int, hh26 = (fwUc (fwUc h 42 0 A5_2) 12 0 r) ∧ r 5 = h 12 0 5 ∧ r 12 = h 12 0 12 ∧ r 13 = h 12 0 13) → fwWP mX12_roundOf (d + 7) 26 [some (aR 12 0), some (aI x), some (aI y), some (aI (mWil gg 0)), some (aI lw), some (aI (c : Int)), some (aI y26)] [] hh26 Q := by
        refine fw_up (fun c2 hc26 ih26 => ?_)
        intro y26 lw hh26 ey26 e_lw eh26
        subst ey26
        obtain ⟨r_26, eh26, hp26⟩ := eh26
        subst eh26
        show fwWP mX12_roundOf (d + 7) 26 [some (aR 12 0), some (aI x), some (aI y), some (aI (mWil gg 0)), some (aI lw), some (aI (c : Int)), some (aI (x + (c2 : Int)))] [] (fwUc (fwUc h 42 0 A5_2) 12 0 r_26) Q
        refine w_iload dX12_roundOf_26 rfl ?_
        refine w_aload_n dX12_roundOf_28 rfl ?_
        refine w_getr 36 0 dX12_roundOf_29 fl_X12_9 rfl (by decide) ?_
        refine w_iconst dX12_roundOf_32 ?_
        refine w_ialdE (v := gg 4 0 1) dX12_roundOf_33 rfl (by decide) (by omega) (by omega) R.1 ?_
        refine w_icmp_ge 98 dX12_roundOf_34 (by decide) (by omega) (by omega) (fun c34 => ?_) (fun c34 => ?_)
        · refine w_iinc [some (aR 12 0), some (aI x), some (aI y), some (aI (mWil gg 0)), some (aI lw), some (aI ((c : Int) + 1)), some (aI (x + (c2 : Int)))] dX12_roundOf_98 rfl rfl (by decide) ?_
          refine w_goto 17 dX12_roundOf_101 (by decide) ?_
          refine w_drop [6] [some (aR 12 0), some (aI x), some (aI y), some (aI (mWil gg 0)), some (aI lw), some (aI ((c : Int) + 1)), none] rfl ?_
          refine ih17 (by omega) _ _ _ ?_ ?_ ?_
          · exact (by omega)
          · exact (by omega)
          · exact ⟨_, rfl, hp26⟩
        · refine w_iload_n dX12_roundOf_37 rfl ?_
          refine w_iload dX12_roundOf_38 rfl ?_
          refine w_iload dX12_roundOf_40 rfl ?_
          refine w_callS (d := d + 6) (S := []) [aI x, aI (c : Int), aI (x + (c2 : Int))] dX12_roundOf_42 ml_X12_295 ok_X12_steps st_X12_steps rfl (Nat.le_of_ble_eq_true rfl) ?_
          refine c_X12_steps (d := (d + 5)) x (c : Int) (x + (c2 : Int)) (by omega) (by omega) (by omega) ?_
          show fwWP mX12_roundOf (d + 7) 45 [some (aR 12 0), some (aI x), some (aI y), some (aI (mWil gg 0)), some (aI lw), some (aI (c : Int)), some (aI (x + (c2 : Int)))] [aI (mSteps x (c : Int) (x + (c2 : Int)))] (fwUc (fwUc h 42 0 A5_2) 12 0 r_26) Q
          have hst6 := mSteps_w (x := x) (a := (c : Int)) (b := (x + (c2 : Int))) (by omega) (by omega) (by omega)
          refine w_iload dX12_roundOf_45 rfl ?_
          refine w_icmp_ge 92 dX12_roundOf_47 (by decide) (by omega) (by omega) (fun c47 => ?_) (fun c47 => ?_)
          · refine w_iinc [some (aR 12 0), some (aI x), some (aI y), some (aI (mWil gg 0)), some (aI lw), some (aI (c : Int)), some (aI ((x + (c2 : Int)) + 1))] dX12_roundOf_92 rfl rfl (by decide) ?_
            refine w_goto 26 dX12_roundOf_95 (by decide) ?_
            refine ih26 (by omega) _ _ _ ?_ ?_ ?_
            · exact (by omega)
            · exact (by omega)
            · exact ⟨_, rfl, hp26⟩
          · refine w_aload_n dX12_roundOf_50 rfl ?_
            refine w_iload_n dX12_roundOf_51 rfl ?_
            refine w_iload dX12_roundOf_52 rfl ?_
            refine w_iload dX12_roundOf_54 rfl ?_
            refine w_iload dX12_roundOf_56 rfl ?_
            refine w_iload dX12_roundOf_58 rfl ?_
            refine w_callV (d := d + 6) (S := []) [aI (mWil gg 0), aI (c : Int), aI (x + (c2 : Int)), aI (c : Int), aI (x + (c2 : Int))] dX12_roundOf_60 ml_X12_299 ok_X12_namesOn vi_X12_namesOn rfl rfl (by decide) rfl (Nat.le_of_ble_eq_true rfl) ?_
            refine c_X12_namesOn (d := (d + 5)) (mWil gg 0) (c : Int) (x + (c2 : Int)) (c : Int) (x + (c2 : Int)) J R (by omega) (by omega) (by omega) (by omega) ?_
            show fwWP mX12_roundOf (d + 7) 63 [some (aR 12 0), some (aI x), some (aI y), some (aI (mWil gg 0)), some (aI lw), some (aI (c : Int)), some (aI (x + (c2 : Int)))] [aI (nOn (gg 18 0) (mWil gg 0) (c : Int) (x + (c2 : Int)) (c : Int) (x + (c2 : Int)) (gg 5 0 3).toNat)] (fwUc (fwUc h 42 0 A5_2) 12 0 r_26) Q
            have hnn8 := nOn_r (F := gg 18 0) (wl := (mWil gg 0)) (l := (c : Int)) (r := (x + (c2 : Int))) (u := (c : Int)) (v := (x + (c2 : Int))) (gg 5 0 3).toNat (by omega) (fun f hf => (hP.2 f hf).2.1)
            refine w_iload_n dX12_roundOf_63 rfl ?_
            refine w_icmp_ge 70 dX12_roundOf_64 (by decide) (by omega) (by omega) (fun c64 => ?_) (fun c64 => ?_)
            · refine w_iload_n dX12_roundOf_70 rfl ?_
              refine w_iload dX12_roundOf_71 rfl ?_
              refine w_iload dX12_roundOf_73 rfl ?_
              refine w_callS (d := d + 6) (S := []) [aI x, aI (c : Int), aI (x + (c2 : Int))] dX12_roundOf_75 ml_X12_295 ok_X12_steps st_X12_steps rfl (Nat.le_of_ble_eq_true rfl) ?_
              refine c_X12_steps (d := (d + 5)) x (c : Int) (x + (c2 : Int)) (by omega) (by omega) (by omega) ?_
              show fwWP mX12_roundOf (d + 7) 78 [some (aR 12 0), some (aI x), some (aI y), some (aI (mWil gg 0)), some (aI lw), some (aI (c : Int)), some (aI (x + (c2 : Int)))] [aI (mSteps x (c : Int) (x + (c2 : Int)))] (fwUc (fwUc h 42 0 A5_2) 12 0 r_26) Q
              have hst10 := mSteps_w (x := x) (a := (c : Int)) (b := (x + (c2 : Int))) (by omega) (by omega) (by omega)
              refine w_istore [some (aR 12 0), some (aI x), some (aI y), some (aI (mWil gg 0)), some (aI (mSteps x (c : Int) (x + (c2 : Int)))), some (aI (c : Int)), some (aI (x + (c2 : Int)))] dX12_roundOf_78 rfl (by decide) ?_
              refine w_aload_n dX12_roundOf_80 rfl ?_
              refine w_iload dX12_roundOf_81 rfl ?_
              refine w_puti dX12_roundOf_83 fl_X12_303 fp_12_17 rfl (by decide) ?_
              refine w_aload_n dX12_roundOf_86 rfl ?_
              refine w_iload dX12_roundOf_87 rfl ?_
              refine w_puti dX12_roundOf_89 fl_X12_306 fp_12_18 rfl (by decide) ?_
              refine w_iinc [some (aR 12 0), some (aI x), some (aI y), some (aI (mWil gg 0)), some (aI (mSteps x (c : Int) (x + (c2 : Int)))), some (aI (c : Int)), some (aI ((x + (c2 : Int)) + 1))] dX12_roundOf_92 rfl rfl (by decide) ?_
              refine w_goto 26 dX12_roundOf_95 (by decide) ?_
              refine ih26 (by omega) _ _ _ ?_ ?_ ?_
              · exact (by omega)
              · exact (by omega)
              · exact ⟨fwFu (fwFu r_26 17 (c : Int)) 18 (x + (c2 : Int)), by rw [fwUp_uc, fwUp_uc], hp26⟩
            · refine w_goto 92 dX12_roundOf_67 (by decide) ?_
              refine w_iinc [some (aR 12 0), some (aI x), some (aI y), some (aI (mWil gg 0)), some (aI lw), some (aI (c : Int)), some (aI ((x + (c2 : Int)) + 1))] dX12_roundOf_92 rfl rfl (by decide) ?_
              refine w_goto 26 dX12_roundOf_95 (by decide) ?_
              refine ih26 (by omega) _ _ _ ?_ ?_ ?_
              · exact (by omega)
              · exact (by omega)
              · exact ⟨_, rfl, hp26⟩
      refine lp26 0 (Nat.zero_le _) _ _ _ ?_ ?_ ?_
      · exact (by omega)
      · exact (by omega)
      · exact ⟨_, rfl, hp17⟩
  refine lp17 0 (Nat.zero_le _) _ _ _ ?_ ?_ ?_
  · exact (by omega)
  · exact (by omega)
  · exact ⟨h 12 0, (fwUc_self _ 12 0).symm, rfl, rfl, rfl⟩
set_option maxRecDepth 100000 in
set_option maxHeartbeats 4000000 in
theorem c_w_round {d : Nat} {h gg : fwH} {Q : Option fwV → fwH → Prop} (x : Int) (y : Int) (J : cOk gg) (R : jF gg h) (K : jA gg h) (hsh : sc h) (hx : -2147483648 ≤ x ∧ x < 2147483648) (hy : -2147483648 ≤ y ∧ y < 2147483648) (k : ∀ v g, scr h g → Q (some (aI v)) g) : fwCt mX12_round (d + 8) [aR 12 0, aI x, aI y] h Q := by
  refine fwCt_of [some (aR 12 0), some (aI x), some (aI y), none] rfl rfl rfl ?_
  obtain ⟨hl, hP, hG, hM0, htd, hut, hlw, hhc, ha, hs, hT, hsc⟩ := id J
  have hb17 : hB (gg 17 0) := fun c hc => by have := hM0 c hc; omega
  obtain ⟨⟨g1, g2⟩, ⟨g3, g4⟩, ⟨g5, g6⟩, g7, -⟩ := id hG
  have h17_99 : ∀ c : Nat, (c : Int) < gg 4 0 1 → gg 17 0 c ≤ 99 := fun c hc => (hM0 c (by omega)).2
  have hpz := hP.1
  have hrs1 := R.2.2.2.2.2.2.2.2.2.2.2
  refine w_aload_n dX12_round_0 rfl ?_
  refine w_iload_n dX12_round_1 rfl ?_
  refine w_iload_n dX12_round_2 rfl ?_
  refine w_callV (d := d + 7) (S := []) [aI x, aI y] dX12_round_3 ml_X12_311 ok_X12_isRound vi_X12_isRound rfl rfl (by decide) rfl (Nat.le_of_ble_eq_true rfl) ?_
  refine c_X12_isRound (d := (d + 5)) x y J R (by omega) (by omega) ?_
  show fwWP mX12_round (d + 8) 6 [some (aR 12 0), some (aI x), some (aI y), none] [aI (fwB ((0 ≤ x ∧ x ≤ gg 4 0 1 - 1) ∧ 1 ≤ y ∧ y ≤ 800))] h Q
  refine w_ifB_ne 12 dX12_round_6 (by decide) (fun c6 => ?_) (fun c6 => ?_)
  · refine w_aload_n dX12_round_12 rfl ?_
    refine w_iload_n dX12_round_13 rfl ?_
    refine w_iload_n dX12_round_14 rfl ?_
    refine w_callV (d := d + 7) (S := []) [aI x, aI y] dX12_round_15 ml_X12_314 ok_X12_roundOf vi_X12_roundOf rfl rfl (by decide) rfl (Nat.le_of_ble_eq_true rfl) ?_
    refine c_w_roundOf (d := d) x y J R K hsh (by omega) (by omega) (by omega) ?_
    intro v2 g2 hv2 sg2
    show fwWP mX12_round (d + 8) 18 [some (aR 12 0), some (aI x), some (aI y), none] [aI v2] g2 Q
    refine w_istore_n [some (aR 12 0), some (aI x), some (aI y), some (aI v2)] dX12_round_18 rfl (by decide) ?_
    refine w_iload_n dX12_round_19 rfl ?_
    refine w_ldcw (n := 1000000000) dX12_round_20 cs_X12_294 ?_
    refine w_icmp_ne 30 dX12_round_23 (by decide) (by omega) (by omega) (fun c23 => ?_) (fun c23 => ?_)
    · refine w_iload_n dX12_round_30 rfl ?_
      exact w_iret dX12_round_31 rfl (k _ _ (sg2))
    · refine w_iconst dX12_round_26 ?_
      refine w_goto 31 dX12_round_27 (by decide) ?_
      exact w_iret dX12_round_31 rfl (k _ _ (sg2))
  · refine w_bipush dX12_round_9 rfl ?_
    exact w_iret dX12_round_11 rfl (k _ _ (scr_rf hsh))
set_option maxRecDepth 100000 in
set_option maxHeartbeats 4000000 in
theorem c_w_goes {d : Nat} {h gg : fwH} {Q : Option fwV → fwH → Prop} (x : Int) (y : Int) (z : Int) (J : cOk gg) (R : jF gg h) (K : jA gg h) (hsh : sc h) (hx : -2147483648 ≤ x ∧ x < 2147483648) (hy : -2147483648 ≤ y ∧ y < 2147483648) (hz : -2147483648 ≤ z ∧ z < 2147483648) (k : ∀ v g, scr h g → Q (some (aI v)) g) : fwCt mX12_goes (d + 8) [aR 12 0, aI x, aI y, aI z] h Q := by
  refine fwCt_of [some (aR 12 0), some (aI x), some (aI y), some (aI z)] rfl rfl rfl ?_
  obtain ⟨hl, hP, hG, hM0, htd, hut, hlw, hhc, ha, hs, hT, hsc⟩ := id J
  have hb17 : hB (gg 17 0) := fun c hc => by have := hM0 c hc; omega
  obtain ⟨⟨g1, g2⟩, ⟨g3, g4⟩, ⟨g5, g6⟩, g7, -⟩ := id hG
  have h17_99 : ∀ c : Nat, (c : Int) < gg 4 0 1 → gg 17 0 c ≤ 99 := fun c hc => (hM0 c (by omega)).2
  have hpz := hP.1
  have hrs1 := R.2.2.2.2.2.2.2.2.2.2.2
  refine w_aload_n dX12_goes_0 rfl ?_
  refine w_iload_n dX12_goes_1 rfl ?_
  refine w_iload_n dX12_goes_2 rfl ?_
  refine w_callV (d := d + 7) (S := []) [aI x, aI y] dX12_goes_3 ml_X12_311 ok_X12_isRound vi_X12_isRound rfl rfl (by decide) rfl (Nat.le_of_ble_eq_true rfl) ?_
  refine c_X12_isRound (d := (d + 5)) x y J R (by omega) (by omega) ?_
  show fwWP mX12_goes (d + 8) 6 [some (aR 12 0), some (aI x), some (aI y), some (aI z)] [aI (fwB ((0 ≤ x ∧ x ≤ gg 4 0 1 - 1) ∧ 1 ≤ y ∧ y ≤ 800))] h Q
  refine w_ifB_eq 19 dX12_goes_6 (by decide) (fun c6 => ?_) (fun c6 => ?_)
  · refine w_bipush dX12_goes_19 rfl ?_
    exact w_iret dX12_goes_21 rfl (k _ _ (scr_rf hsh))
  · refine w_iload_n dX12_goes_9 rfl ?_
    refine w_i2l dX12_goes_10 (by omega) ?_
    refine w_lconst (z := 0) dX12_goes_11 rfl ?_
    refine w_lconst (z := 1) dX12_goes_12 rfl ?_
    refine w_callS (d := d + 7) (S := []) [aJ z, aJ 0, aJ 1] dX12_goes_13 ml_X12_65 ok_X12_in st_X12_in rfl (Nat.le_of_ble_eq_true rfl) ?_
    refine c_X12_in (d := (d + 7)) z 0 1 (by omega) (by omega) (by omega) ?_
    show fwWP mX12_goes (d + 8) 16 [some (aR 12 0), some (aI x), some (aI y), some (aI z)] [aI (fwB (0 ≤ z ∧ z ≤ 1))] h Q
    refine w_ifB_ne 22 dX12_goes_16 (by decide) (fun c16 => ?_) (fun c16 => ?_)
    · refine w_aload_n dX12_goes_22 rfl ?_
      refine w_iload_n dX12_goes_23 rfl ?_
      refine w_iload_n dX12_goes_24 rfl ?_
      refine w_callV (d := d + 7) (S := []) [aI x, aI y] dX12_goes_25 ml_X12_314 ok_X12_roundOf vi_X12_roundOf rfl rfl (by decide) rfl (Nat.le_of_ble_eq_true rfl) ?_
      refine c_w_roundOf (d := d) x y J R K hsh (by omega) (by omega) (by omega) ?_
      intro v3 g3 hv3 sg3
      show fwWP mX12_goes (d + 8) 28 [some (aR 12 0), some (aI x), some (aI y), some (aI z)] [aI v3] g3 Q
      refine w_ldcw (n := 1000000000) dX12_goes_28 cs_X12_294 ?_
      refine w_icmp_ne 36 dX12_goes_31 (by decide) (by omega) (by omega) (fun c31 => ?_) (fun c31 => ?_)
      · refine w_iload_n dX12_goes_36 rfl ?_
        refine w_if_ne 47 dX12_goes_37 (by decide) (by omega) (fun c37 => ?_) (fun c37 => ?_)
        · refine w_aload_n dX12_goes_47 rfl ?_
          refine w_geti dX12_goes_48 fl_X12_306 rfl (by decide) ?_
          exact w_iret dX12_goes_51 rfl (k _ _ (sg3))
        · refine w_aload_n dX12_goes_40 rfl ?_
          refine w_geti dX12_goes_41 fl_X12_303 rfl (by decide) ?_
          refine w_goto 51 dX12_goes_44 (by decide) ?_
          exact w_iret dX12_goes_51 rfl (k _ _ (sg3))
      · refine w_iconst dX12_goes_34 ?_
        exact w_iret dX12_goes_35 rfl (k _ _ (sg3))
    · refine w_bipush dX12_goes_19 rfl ?_
      exact w_iret dX12_goes_21 rfl (k _ _ (scr_rf hsh))
set_option maxRecDepth 100000 in
set_option maxHeartbeats 4000000 in
theorem c_w_two {d : Nat} {h gg : fwH} {Q : Option fwV → fwH → Prop} (x : Int) (y : Int) (z : Int) (J : cOk gg) (R : jF gg h) (K : jA gg h) (hsh : sc h) (hx : -2147483648 ≤ x ∧ x < 2147483648) (hy : -2147483648 ≤ y ∧ y < 2147483648) (hz : -2147483648 ≤ z ∧ z < 2147483648) (k : ∀ v g, scr h g → Q (some (aI v)) g) : fwCt mX12_two (d + 8) [aR 12 0, aI x, aI y, aI z] h Q := by
  refine fwCt_of [some (aR 12 0), some (aI x), some (aI y), some (aI z), none, none, none, none, none, none] rfl rfl rfl ?_
  obtain ⟨hl, hP, hG, hM0, htd, hut, hlw, hhc, ha, hs, hT, hsc⟩ := id J
  have hb17 : hB (gg 17 0) := fun c hc => by have := hM0 c hc; omega
  obtain ⟨⟨g1, g2⟩, ⟨g3, g4⟩, ⟨g5, g6⟩, g7, -⟩ := id hG
  have h17_99 : ∀ c : Nat, (c : Int) < gg 4 0 1 → gg 17 0 c ≤ 99 := fun c hc => (hM0 c (by omega)).2
  have hpz := hP.1
  have hrs1 := R.2.2.2.2.2.2.2.2.2.2.2
  refine w_aload_n dX12_two_0 rfl ?_
  refine w_iload_n dX12_two_1 rfl ?_
  refine w_iload_n dX12_two_2 rfl ?_
  refine w_callV (d := d + 7) (S := []) [aI x, aI z] dX12_two_3 ml_X12_311 ok_X12_isRound vi_X12_isRound rfl rfl (by decide) rfl (Nat.le_of_ble_eq_true rfl) ?_
  refine c_X12_isRound (d := (d + 5)) x z J R (by omega) (by omega) ?_
  show fwWP mX12_two (d + 8) 6 [some (aR 12 0), some (aI x), some (aI y), some (aI z), none, none, none, none, none, none] [aI (fwB ((0 ≤ x ∧ x ≤ gg 4 0 1 - 1) ∧ 1 ≤ z ∧ z ≤ 800))] h Q
  refine w_ifB_eq 18 dX12_two_6 (by decide) (fun c6 => ?_) (fun c6 => ?_)
  · refine w_bipush dX12_two_18 rfl ?_
    exact w_iret dX12_two_20 rfl (k _ _ (scr_rf hsh))
  · refine w_aload_n dX12_two_9 rfl ?_
    refine w_iload_n dX12_two_10 rfl ?_
    refine w_i2l dX12_two_11 (by omega) ?_
    refine w_callV (d := d + 7) (S := []) [aJ y] dX12_two_12 ml_X12_203 ok_X12_isCell vi_X12_isCell rfl rfl (by decide) rfl (Nat.le_of_ble_eq_true rfl) ?_
    refine c_X12_isCell (d := (d + 6)) y J R (by omega) ?_
    show fwWP mX12_two (d + 8) 15 [some (aR 12 0), some (aI x), some (aI y), some (aI z), none, none, none, none, none, none] [aI (fwB (0 ≤ y ∧ y ≤ gg 4 0 1 - 1))] h Q
    refine w_ifB_ne 21 dX12_two_15 (by decide) (fun c15 => ?_) (fun c15 => ?_)
    · refine w_aload_n dX12_two_21 rfl ?_
      refine w_callV (d := d + 7) (S := []) [] dX12_two_22 ml_X12_240 ok_X12_asItIs vi_X12_asItIs rfl rfl (by decide) rfl (Nat.le_of_ble_eq_true rfl) ?_
      refine c_X12_asItIs (d := (d + 2)) J R K (show 1 ≤ gg 4 0 1 by omega) (show 1 ≤ gg 4 0 3 by omega) ?_
      intro A22_3 hA22_3
      show fwWP mX12_two (d + 8) 25 [some (aR 12 0), some (aI x), some (aI y), some (aI z), none, none, none, none, none, none] [] (fwUc h 42 0 A22_3) Q
      refine w_aload_n dX12_two_25 rfl ?_
      refine w_callV (d := d + 7) (S := []) [] dX12_two_26 ml_X12_263 ok_X12_willingSet vi_X12_willingSet rfl rfl (by decide) rfl (Nat.le_of_ble_eq_true rfl) ?_
      refine c_X12_willingSet (d := (d + 2)) (gg 17 0) J R hA22_3 hb17 (show 1 ≤ gg 4 0 1 by omega) ?_
      intro A26_4 hA26_4
      show fwWP mX12_two (d + 8) 29 [some (aR 12 0), some (aI x), some (aI y), some (aI z), none, none, none, none, none, none] [aI (mGers (gg 4 0 1) (gg 17 0) (gg 4 0 2) (gg 4 0 4) (gg 18 0) (gg 5 0 3).toNat (-1))] (fwUc (fwUc h 42 0 A22_3) 42 0 A26_4) Q
      rw [show (fwUc (fwUc h 42 0 A22_3) 42 0 A26_4) = (fwUc h 42 0 A26_4) from by funext a b; simp only [fwUc]; (repeat' split); all_goals first | rfl | (exfalso; omega)]
      have hwr4 := mGers_r (gg 4 0 1) (gg 17 0) (gg 4 0 2) (gg 4 0 4) (gg 18 0) (m := (gg 5 0 3).toNat) (-1) (by omega)
      have hw8_5 := mGers_8 (gg 4 0 1) (gg 17 0) (gg 4 0 2) (gg 4 0 4) (gg 18 0) (m := (gg 5 0 3).toNat) (-1) (by omega)
      change fwWP _ _ _ _ (aI (mWil gg 0) :: _) _ _
      have hw8 : 0 ≤ mWil gg 0 ∧ mWil gg 0 < 256 := hw8_5
      refine w_istore [some (aR 12 0), some (aI x), some (aI y), some (aI z), some (aI (mWil gg 0)), none, none, none, none, none] dX12_two_29 rfl (by decide) ?_
      refine w_ldcw (n := 1000000000) dX12_two_31 cs_X12_294 ?_
      refine w_istore [some (aR 12 0), some (aI x), some (aI y), some (aI z), some (aI (mWil gg 0)), some (aI 1000000000), none, none, none, none] dX12_two_34 rfl (by decide) ?_
      refine w_iconst dX12_two_36 ?_
      refine w_istore [some (aR 12 0), some (aI x), some (aI y), some (aI z), some (aI (mWil gg 0)), some (aI 1000000000), some (aI 0), none, none, none] dX12_two_37 rfl (by decide) ?_
      have lp39 : ∀ c : Nat, c ≤ (x + 1).toNat → ∀ (y39 lv : Int), y39 = (c : Int) → (-10000 ≤ lv ∧ lv ≤ 1000000000) → fwWP mX12_two (d + 8) 39 [some (aR 12 0), some (aI x), some (aI y), some (aI z), some (aI (mWil gg 0)), some (aI lv), some (aI y39), none, none, none] [] (fwUc h 42 0 A26_4) Q := by
        refine fw_up (fun c hc39 ih39 => ?_)
        intro y39 lv ey39 e_lv
        subst ey39
        show fwWP mX12_two (d + 8) 39 [some (aR 12 0), some (aI x), some (aI y), some (aI z), some (aI (mWil gg 0)), some (aI lv), some (aI (c : Int)), none, none, none] [] (fwUc h 42 0 A26_4) Q
        refine w_iload dX12_two_39 rfl ?_
        refine w_iload_n dX12_two_41 rfl ?_
        refine w_icmp_gt 166 dX12_two_42 (by decide) (by omega) (by omega) (fun c42 => ?_) (fun c42 => ?_)
        · refine w_iload dX12_two_166 rfl ?_
          refine w_ldcw (n := 1000000000) dX12_two_168 cs_X12_294 ?_
          refine w_icmp_ne 178 dX12_two_171 (by decide) (by omega) (by omega) (fun c171 => ?_) (fun c171 => ?_)
          · refine w_iload dX12_two_178 rfl ?_
            exact w_iret dX12_two_180 rfl (k _ _ (scr_uc (scr_rf hsh) rfl (by decide) (by decide) (by decide)))
          · refine w_iconst dX12_two_174 ?_
            refine w_goto 180 dX12_two_175 (by decide) ?_
            exact w_iret dX12_two_180 rfl (k _ _ (scr_uc (scr_rf hsh) rfl (by decide) (by decide) (by decide)))
        · refine w_iload_n dX12_two_45 rfl ?_
          refine w_istore [some (aR 12 0), some (aI x), some (aI y), some (aI z), some (aI (mWil gg 0)), some (aI lv), some (aI (c : Int)), some (aI x), none, none] dX12_two_46 rfl (by decide) ?_
          have lp48 : ∀ c2 : Nat, c2 ≤ (gg 4 0 1 - x).toNat → ∀ (y48 lw : Int), y48 = x + (c2 : Int) → (-10000 ≤ lw ∧ lw ≤ 1000000000) → fwWP mX12_two (d + 8) 48 [some (aR 12 0), some (aI x), some (aI y), some (aI z), some (aI (mWil gg 0)), some (aI lw), some (aI (c : Int)), some (aI y48), none, none] [] (fwUc h 42 0 A26_4) Q := by
            refine fw_up (fun c2 hc48 ih48 => ?_)
            intro y48 lw ey48 e_lw
            subst ey48
            show fwWP mX12_two (d + 8) 48 [some (aR 12 0), some (aI x), some (aI y), some (aI z), some (aI (mWil gg 0)), some (aI lw), some (aI (c : Int)), some (aI (x + (c2 : Int))), none, none] [] (fwUc h 42 0 A26_4) Q
            refine w_iload dX12_two_48 rfl ?_
            refine w_aload_n dX12_two_50 rfl ?_
            refine w_getr 36 0 dX12_two_51 fl_X12_9 rfl (by decide) ?_
            refine w_iconst dX12_two_54 ?_
            refine w_ialdE (v := gg 4 0 1) dX12_two_55 rfl (by decide) (by omega) (by omega) R.1 ?_
            refine w_icmp_ge 160 dX12_two_56 (by decide) (by omega) (by omega) (fun c56 => ?_) (fun c56 => ?_)
            · refine w_iinc [some (aR 12 0), some (aI x), some (aI y), some (aI z), some (aI (mWil gg 0)), some (aI lw), some (aI ((c : Int) + 1)), some (aI (x + (c2 : Int))), none, none] dX12_two_160 rfl rfl (by decide) ?_
              refine w_goto 39 dX12_two_163 (by decide) ?_
              refine w_drop [7] [some (aR 12 0), some (aI x), some (aI y), some (aI z), some (aI (mWil gg 0)), some (aI lw), some (aI ((c : Int) + 1)), none, none, none] rfl ?_
              refine ih39 (by omega) _ _ ?_ ?_
              · exact (by omega)
              · exact (by omega)
            · refine w_iload_n dX12_two_59 rfl ?_
              refine w_iload dX12_two_60 rfl ?_
              refine w_iload dX12_two_62 rfl ?_
              refine w_callS (d := d + 7) (S := []) [aI x, aI (c : Int), aI (x + (c2 : Int))] dX12_two_64 ml_X12_295 ok_X12_steps st_X12_steps rfl (Nat.le_of_ble_eq_true rfl) ?_
              refine c_X12_steps (d := (d + 6)) x (c : Int) (x + (c2 : Int)) (by omega) (by omega) (by omega) ?_
              show fwWP mX12_two (d + 8) 67 [some (aR 12 0), some (aI x), some (aI y), some (aI z), some (aI (mWil gg 0)), some (aI lw), some (aI (c : Int)), some (aI (x + (c2 : Int))), none, none] [aI (mSteps x (c : Int) (x + (c2 : Int)))] (fwUc h 42 0 A26_4) Q
              have hst9 := mSteps_w (x := x) (a := (c : Int)) (b := (x + (c2 : Int))) (by omega) (by omega) (by omega)
              refine w_iload dX12_two_67 rfl ?_
              refine w_icmp_lt 75 dX12_two_69 (by decide) (by omega) (by omega) (fun c69 => ?_) (fun c69 => ?_)
              · refine w_iconst dX12_two_75 ?_
                refine w_istore [some (aR 12 0), some (aI x), some (aI y), some (aI z), some (aI (mWil gg 0)), some (aI lw), some (aI (c : Int)), some (aI (x + (c2 : Int))), some (aI 0), none] dX12_two_76 rfl (by decide) ?_
                have lp78 : ∀ c3 : Nat, c3 ≤ (y + 1).toNat → ∀ (y78 lx : Int), y78 = (c3 : Int) → (-10000 ≤ lx ∧ lx ≤ 1000000000) → fwWP mX12_two (d + 8) 78 [some (aR 12 0), some (aI x), some (aI y), some (aI z), some (aI (mWil gg 0)), some (aI lx), some (aI (c : Int)), some (aI (x + (c2 : Int))), some (aI y78), none] [] (fwUc h 42 0 A26_4) Q := by
                  refine fw_up (fun c3 hc78 ih78 => ?_)
                  intro y78 lx ey78 e_lx
                  subst ey78
                  show fwWP mX12_two (d + 8) 78 [some (aR 12 0), some (aI x), some (aI y), some (aI z), some (aI (mWil gg 0)), some (aI lx), some (aI (c : Int)), some (aI (x + (c2 : Int))), some (aI (c3 : Int)), none] [] (fwUc h 42 0 A26_4) Q
                  refine w_iload dX12_two_78 rfl ?_
                  refine w_iload_n dX12_two_80 rfl ?_
                  refine w_icmp_gt 154 dX12_two_81 (by decide) (by omega) (by omega) (fun c81 => ?_) (fun c81 => ?_)
                  · refine w_iinc [some (aR 12 0), some (aI x), some (aI y), some (aI z), some (aI (mWil gg 0)), some (aI lx), some (aI (c : Int)), some (aI ((x + (c2 : Int)) + 1)), some (aI (c3 : Int)), none] dX12_two_154 rfl rfl (by decide) ?_
                    refine w_goto 48 dX12_two_157 (by decide) ?_
                    refine w_drop [8] [some (aR 12 0), some (aI x), some (aI y), some (aI z), some (aI (mWil gg 0)), some (aI lx), some (aI (c : Int)), some (aI ((x + (c2 : Int)) + 1)), none, none] rfl ?_
                    refine ih48 (by omega) _ _ ?_ ?_
                    · exact (by omega)
                    · exact (by omega)
                  · refine w_iload_n dX12_two_84 rfl ?_
                    refine w_istore [some (aR 12 0), some (aI x), some (aI y), some (aI z), some (aI (mWil gg 0)), some (aI lx), some (aI (c : Int)), some (aI (x + (c2 : Int))), some (aI (c3 : Int)), some (aI y)] dX12_two_85 rfl (by decide) ?_
                    have lp87 : ∀ c4 : Nat, c4 ≤ (gg 4 0 1 - y).toNat → ∀ (y87 ly : Int), y87 = y + (c4 : Int) → (-10000 ≤ ly ∧ ly ≤ 1000000000) → fwWP mX12_two (d + 8) 87 [some (aR 12 0), some (aI x), some (aI y), some (aI z), some (aI (mWil gg 0)), some (aI ly), some (aI (c : Int)), some (aI (x + (c2 : Int))), some (aI (c3 : Int)), some (aI y87)] [] (fwUc h 42 0 A26_4) Q := by
                      refine fw_up (fun c4 hc87 ih87 => ?_)
                      intro y87 ly ey87 e_ly
                      subst ey87
                      show fwWP mX12_two (d + 8) 87 [some (aR 12 0), some (aI x), some (aI y), some (aI z), some (aI (mWil gg 0)), some (aI ly), some (aI (c : Int)), some (aI (x + (c2 : Int))), some (aI (c3 : Int)), some (aI (y + (c4 : Int)))] [] (fwUc h 42 0 A26_4) Q
                      refine w_iload dX12_two_87 rfl ?_
                      refine w_aload_n dX12_two_89 rfl ?_
                      refine w_getr 36 0 dX12_two_90 fl_X12_9 rfl (by decide) ?_
                      refine w_iconst dX12_two_93 ?_
                      refine w_ialdE (v := gg 4 0 1) dX12_two_94 rfl (by decide) (by omega) (by omega) R.1 ?_
                      refine w_icmp_ge 148 dX12_two_95 (by decide) (by omega) (by omega) (fun c95 => ?_) (fun c95 => ?_)
                      · refine w_iinc [some (aR 12 0), some (aI x), some (aI y), some (aI z), some (aI (mWil gg 0)), some (aI ly), some (aI (c : Int)), some (aI (x + (c2 : Int))), some (aI ((c3 : Int) + 1)), some (aI (y + (c4 : Int)))] dX12_two_148 rfl rfl (by decide) ?_
                        refine w_goto 78 dX12_two_151 (by decide) ?_
                        refine w_drop [9] [some (aR 12 0), some (aI x), some (aI y), some (aI z), some (aI (mWil gg 0)), some (aI ly), some (aI (c : Int)), some (aI (x + (c2 : Int))), some (aI ((c3 : Int) + 1)), none] rfl ?_
                        refine ih78 (by omega) _ _ ?_ ?_
                        · exact (by omega)
                        · exact (by omega)
                      · refine w_aload_n dX12_two_98 rfl ?_
                        refine w_iload dX12_two_99 rfl ?_
                        refine w_iload dX12_two_101 rfl ?_
                        refine w_iload dX12_two_103 rfl ?_
                        refine w_iload dX12_two_105 rfl ?_
                        refine w_iload dX12_two_107 rfl ?_
                        refine w_callV (d := d + 7) (S := []) [aI (mWil gg 0), aI (c : Int), aI (x + (c2 : Int)), aI (c3 : Int), aI (y + (c4 : Int))] dX12_two_109 ml_X12_299 ok_X12_namesOn vi_X12_namesOn rfl rfl (by decide) rfl (Nat.le_of_ble_eq_true rfl) ?_
                        refine c_X12_namesOn (d := (d + 6)) (mWil gg 0) (c : Int) (x + (c2 : Int)) (c3 : Int) (y + (c4 : Int)) J R (by omega) (by omega) (by omega) (by omega) ?_
                        show fwWP mX12_two (d + 8) 112 [some (aR 12 0), some (aI x), some (aI y), some (aI z), some (aI (mWil gg 0)), some (aI ly), some (aI (c : Int)), some (aI (x + (c2 : Int))), some (aI (c3 : Int)), some (aI (y + (c4 : Int)))] [aI (nOn (gg 18 0) (mWil gg 0) (c : Int) (x + (c2 : Int)) (c3 : Int) (y + (c4 : Int)) (gg 5 0 3).toNat)] (fwUc h 42 0 A26_4) Q
                        have hnn13 := nOn_r (F := gg 18 0) (wl := (mWil gg 0)) (l := (c : Int)) (r := (x + (c2 : Int))) (u := (c3 : Int)) (v := (y + (c4 : Int))) (gg 5 0 3).toNat (by omega) (fun f hf => (hP.2 f hf).2.1)
                        refine w_iload_n dX12_two_112 rfl ?_
                        refine w_icmp_lt 142 dX12_two_113 (by decide) (by omega) (by omega) (fun c113 => ?_) (fun c113 => ?_)
                        · refine w_iinc [some (aR 12 0), some (aI x), some (aI y), some (aI z), some (aI (mWil gg 0)), some (aI ly), some (aI (c : Int)), some (aI (x + (c2 : Int))), some (aI (c3 : Int)), some (aI ((y + (c4 : Int)) + 1))] dX12_two_142 rfl rfl (by decide) ?_
                          refine w_goto 87 dX12_two_145 (by decide) ?_
                          refine ih87 (by omega) _ _ ?_ ?_
                          · exact (by omega)
                          · exact (by omega)
                        · refine w_iload dX12_two_116 rfl ?_
                          refine w_iload_n dX12_two_118 rfl ?_
                          refine w_iload dX12_two_119 rfl ?_
                          refine w_iload dX12_two_121 rfl ?_
                          refine w_callS (d := d + 7) (S := [aI ly]) [aI x, aI (c : Int), aI (x + (c2 : Int))] dX12_two_123 ml_X12_295 ok_X12_steps st_X12_steps rfl (Nat.le_of_ble_eq_true rfl) ?_
                          refine c_X12_steps (d := (d + 6)) x (c : Int) (x + (c2 : Int)) (by omega) (by omega) (by omega) ?_
                          show fwWP mX12_two (d + 8) 126 [some (aR 12 0), some (aI x), some (aI y), some (aI z), some (aI (mWil gg 0)), some (aI ly), some (aI (c : Int)), some (aI (x + (c2 : Int))), some (aI (c3 : Int)), some (aI (y + (c4 : Int)))] [aI (mSteps x (c : Int) (x + (c2 : Int))), aI ly] (fwUc h 42 0 A26_4) Q
                          have hst15 := mSteps_w (x := x) (a := (c : Int)) (b := (x + (c2 : Int))) (by omega) (by omega) (by omega)
                          refine w_iload_n dX12_two_126 rfl ?_
                          refine w_iload dX12_two_127 rfl ?_
                          refine w_iload dX12_two_129 rfl ?_
                          refine w_callS (d := d + 7) (S := [aI (mSteps x (c : Int) (x + (c2 : Int))), aI ly]) [aI y, aI (c3 : Int), aI (y + (c4 : Int))] dX12_two_131 ml_X12_295 ok_X12_steps st_X12_steps rfl (Nat.le_of_ble_eq_true rfl) ?_
                          refine c_X12_steps (d := (d + 6)) y (c3 : Int) (y + (c4 : Int)) (by omega) (by omega) (by omega) ?_
                          show fwWP mX12_two (d + 8) 134 [some (aR 12 0), some (aI x), some (aI y), some (aI z), some (aI (mWil gg 0)), some (aI ly), some (aI (c : Int)), some (aI (x + (c2 : Int))), some (aI (c3 : Int)), some (aI (y + (c4 : Int)))] [aI (mSteps y (c3 : Int) (y + (c4 : Int))), aI (mSteps x (c : Int) (x + (c2 : Int))), aI ly] (fwUc h 42 0 A26_4) Q
                          have hst16 := mSteps_w (x := y) (a := (c3 : Int)) (b := (y + (c4 : Int))) (by omega) (by omega) (by omega)
                          refine w_max (d := d + 7) (S := [aI ly]) dX12_two_134 ml_X12_317 (by omega) (by omega) (Nat.le_of_ble_eq_true rfl) ?_
                          refine w_min (d := d + 7) (S := []) dX12_two_137 ml_X12_112 (by omega) (by omega) (Nat.le_of_ble_eq_true rfl) ?_
                          refine w_istore [some (aR 12 0), some (aI x), some (aI y), some (aI z), some (aI (mWil gg 0)), some (aI (min ly (max (mSteps x (c : Int) (x + (c2 : Int))) (mSteps y (c3 : Int) (y + (c4 : Int)))))), some (aI (c : Int)), some (aI (x + (c2 : Int))), some (aI (c3 : Int)), some (aI (y + (c4 : Int)))] dX12_two_140 rfl (by decide) ?_
                          refine w_iinc [some (aR 12 0), some (aI x), some (aI y), some (aI z), some (aI (mWil gg 0)), some (aI (min ly (max (mSteps x (c : Int) (x + (c2 : Int))) (mSteps y (c3 : Int) (y + (c4 : Int)))))), some (aI (c : Int)), some (aI (x + (c2 : Int))), some (aI (c3 : Int)), some (aI ((y + (c4 : Int)) + 1))] dX12_two_142 rfl rfl (by decide) ?_
                          refine w_goto 87 dX12_two_145 (by decide) ?_
                          refine ih87 (by omega) _ _ ?_ ?_
                          · exact (by omega)
                          · exact (by omega)
                    refine lp87 0 (Nat.zero_le _) _ _ ?_ ?_
                    · exact (by omega)
                    · exact (by omega)
                refine lp78 0 (Nat.zero_le _) _ _ ?_ ?_
                · exact (by omega)
                · exact (by omega)
              · refine w_goto 154 dX12_two_72 (by decide) ?_
                refine w_iinc [some (aR 12 0), some (aI x), some (aI y), some (aI z), some (aI (mWil gg 0)), some (aI lw), some (aI (c : Int)), some (aI ((x + (c2 : Int)) + 1)), none, none] dX12_two_154 rfl rfl (by decide) ?_
                refine w_goto 48 dX12_two_157 (by decide) ?_
                refine ih48 (by omega) _ _ ?_ ?_
                · exact (by omega)
                · exact (by omega)
          refine lp48 0 (Nat.zero_le _) _ _ ?_ ?_
          · exact (by omega)
          · exact (by omega)
      refine lp39 0 (Nat.zero_le _) _ _ ?_ ?_
      · exact (by omega)
      · exact (by omega)
    · refine w_bipush dX12_two_18 rfl ?_
      exact w_iret dX12_two_20 rfl (k _ _ (scr_rf hsh))
end
section
set_option maxRecDepth 100000 in
set_option maxHeartbeats 4000000 in
theorem c_w_elected {d : Nat} {h gg : fwH} {Q : Option fwV → fwH → Prop}  (J : cOk gg) (R : jF gg h) (K : jA gg h) (hsh : sc h)  (k : ∀ v g, scr h g → Q (some (aI v)) g) : fwCt mX12_elected (d + 6) [aR 12 0] h Q := by
  refine fwCt_of [some (aR 12 0), none, none, none] rfl rfl rfl ?_
  obtain ⟨hl, hP, hG, hM0, htd, hut, hlw, hhc, ha, hs, hT, hsc⟩ := id J
  have hb17 : hB (gg 17 0) := fun c hc => by have := hM0 c hc; omega
  obtain ⟨⟨g1, g2⟩, ⟨g3, g4⟩, ⟨g5, g6⟩, g7, -⟩ := id hG
  have h17_99 : ∀ c : Nat, (c : Int) < gg 4 0 1 → gg 17 0 c ≤ 99 := fun c hc => (hM0 c (by omega)).2
  have hpz := hP.1
  have hrs1 := R.2.2.2.2.2.2.2.2.2.2.2
  refine w_aload_n dX12_elected_0 rfl ?_
  refine w_callV (d := d + 5) (S := []) [] dX12_elected_1 ml_X12_73 ok_X12_isMount vi_X12_isMount rfl rfl (by decide) rfl (Nat.le_of_ble_eq_true rfl) ?_
  refine c_X12_isMount (d := (d + 5)) J R ?_
  show fwWP mX12_elected (d + 6) 4 [some (aR 12 0), none, none, none] [aI (fwB (0 < gg 3 0 6))] h Q
  refine w_ifB_ne 10 dX12_elected_4 (by decide) (fun c4 => ?_) (fun c4 => ?_)
  · refine w_aload_n dX12_elected_10 rfl ?_
    refine w_callV (d := d + 5) (S := []) [] dX12_elected_11 ml_X12_240 ok_X12_asItIs vi_X12_asItIs rfl rfl (by decide) rfl (Nat.le_of_ble_eq_true rfl) ?_
    refine c_X12_asItIs (d := d) J R K (show 1 ≤ gg 4 0 1 by omega) (show 1 ≤ gg 4 0 3 by omega) ?_
    intro A11_2 hA11_2
    show fwWP mX12_elected (d + 6) 14 [some (aR 12 0), none, none, none] [] (fwUc h 42 0 A11_2) Q
    refine w_iconst dX12_elected_14 ?_
    refine w_istore_n [some (aR 12 0), some (aI 0), none, none] dX12_elected_15 rfl (by decide) ?_
    have lp16 : ∀ c : Nat, c ≤ (gg 4 0 1).toNat → ∀ (y16 : Int) (A16 : Nat → Int), y16 = (c : Int) → hiR (gg 4 0 1) A16 (gg 17 0) → fwWP mX12_elected (d + 6) 16 [some (aR 12 0), some (aI y16), none, none] [] (fwUc h 42 0 A16) Q := by
      refine fw_up (fun c hc16 ih16 => ?_)
      intro y16 A16 ey16 hA16
      subst ey16
      show fwWP mX12_elected (d + 6) 16 [some (aR 12 0), some (aI (c : Int)), none, none] [] (fwUc h 42 0 A16) Q
      refine w_iload_n dX12_elected_16 rfl ?_
      refine w_aload_n dX12_elected_17 rfl ?_
      refine w_getr 36 0 dX12_elected_18 fl_X12_9 rfl (by decide) ?_
      refine w_iconst dX12_elected_21 ?_
      refine w_ialdE (v := gg 4 0 1) dX12_elected_22 rfl (by decide) (by omega) (by omega) R.1 ?_
      refine w_icmp_ge 113 dX12_elected_23 (by decide) (by omega) (by omega) (fun c23 => ?_) (fun c23 => ?_)
      · refine w_iconst dX12_elected_113 ?_
        exact w_iret dX12_elected_114 rfl (k _ _ (scr_uc (scr_rf hsh) rfl (by decide) (by decide) (by decide)))
      · have hb1 := hM0 c (by omega)
        refine w_aload_n dX12_elected_26 rfl ?_
        refine w_getr 42 0 dX12_elected_27 fl_X12_34 rfl (by decide) ?_
        refine w_iload_n dX12_elected_30 rfl ?_
        refine w_ialdE (v := (gg 17 0) c) dX12_elected_31 rfl (by decide) (by omega) (by omega) (hA16 _ (by omega)) ?_
        refine w_if_le 39 dX12_elected_32 (by decide) (by omega) (fun c32 => ?_) (fun c32 => ?_)
        · refine w_iconst dX12_elected_39 ?_
          refine w_istore_n [some (aR 12 0), some (aI (c : Int)), some (aI 0), none] dX12_elected_40 rfl (by decide) ?_
          refine w_iconst dX12_elected_41 ?_
          refine w_istore_n [some (aR 12 0), some (aI (c : Int)), some (aI 0), some (aI 0)] dX12_elected_42 rfl (by decide) ?_
          have lp43 : ∀ j : Nat, j ≤ (gg 4 0 1).toNat → ∀ (y43 v43 : Int) (A43 : Nat → Int), y43 = (j : Int) → (0 ≤ v43 ∧ v43 ≤ 1) → (v43 = 0 ∨ 0 < gg 17 0 c) → hiR (gg 4 0 1) A43 (gg 17 0) → fwWP mX12_elected (d + 6) 43 [some (aR 12 0), some (aI (c : Int)), some (aI v43), some (aI y43)] [] (fwUc h 42 0 A43) Q := by
            refine fw_up (fun j hc43 ih43 => ?_)
            intro y43 v43 A43 ey43 ev43 ew43 hA43
            subst ey43
            show fwWP mX12_elected (d + 6) 43 [some (aR 12 0), some (aI (c : Int)), some (aI v43), some (aI (j : Int))] [] (fwUc h 42 0 A43) Q
            refine w_iload_n dX12_elected_43 rfl ?_
            refine w_aload_n dX12_elected_44 rfl ?_
            refine w_getr 36 0 dX12_elected_45 fl_X12_9 rfl (by decide) ?_
            refine w_iconst dX12_elected_48 ?_
            refine w_ialdE (v := gg 4 0 1) dX12_elected_49 rfl (by decide) (by omega) (by omega) R.1 ?_
            refine w_icmp_ge 101 dX12_elected_50 (by decide) (by omega) (by omega) (fun c50 => ?_) (fun c50 => ?_)
            · refine w_iload_n dX12_elected_101 rfl ?_
              refine w_if_eq 107 dX12_elected_102 (by decide) (by omega) (fun c102 => ?_) (fun c102 => ?_)
              · refine w_iinc [some (aR 12 0), some (aI ((c : Int) + 1)), some (aI v43), some (aI (j : Int))] dX12_elected_107 rfl rfl (by decide) ?_
                refine w_goto 16 dX12_elected_110 (by decide) ?_
                refine w_drop [2, 3] [some (aR 12 0), some (aI ((c : Int) + 1)), none, none] rfl ?_
                refine ih16 (by omega) _ _ ?_ ?_
                · exact (by omega)
                · exact hA43
              · refine w_iload_n dX12_elected_105 rfl ?_
                exact w_iret dX12_elected_106 rfl (k _ _ (scr_uc (scr_rf hsh) rfl (by decide) (by decide) (by decide)))
            · refine w_iload_n dX12_elected_53 rfl ?_
              refine w_if_eq 101 dX12_elected_54 (by decide) (by omega) (fun c54 => ?_) (fun c54 => ?_)
              · refine w_iload_n dX12_elected_101 rfl ?_
                refine w_if_eq 107 dX12_elected_102 (by decide) (by omega) (fun c102 => ?_) (fun c102 => ?_)
                · refine w_iinc [some (aR 12 0), some (aI ((c : Int) + 1)), some (aI v43), some (aI (j : Int))] dX12_elected_107 rfl rfl (by decide) ?_
                  refine w_goto 16 dX12_elected_110 (by decide) ?_
                  refine w_drop [2, 3] [some (aR 12 0), some (aI ((c : Int) + 1)), none, none] rfl ?_
                  refine ih16 (by omega) _ _ ?_ ?_
                  · exact (by omega)
                  · exact hA43
                · refine w_iload_n dX12_elected_105 rfl ?_
                  exact w_iret dX12_elected_106 rfl (k _ _ (scr_uc (scr_rf hsh) rfl (by decide) (by decide) (by decide)))
              · have hbj := hM0 j (by omega)
                refine w_aload_n dX12_elected_57 rfl ?_
                refine w_getr 42 0 dX12_elected_58 fl_X12_34 rfl (by decide) ?_
                refine w_iload_n dX12_elected_61 rfl ?_
                refine w_ialdE (v := (gg 17 0) j) dX12_elected_62 rfl (by decide) (by omega) (by omega) (hA43 _ (by omega)) ?_
                refine w_if_eq 89 dX12_elected_63 (by decide) (by omega) (fun c63 => ?_) (fun c63 => ?_)
                · refine w_iconst dX12_elected_89 ?_
                  refine w_goto 94 dX12_elected_90 (by decide) ?_
                  refine w_istore_n [some (aR 12 0), some (aI (c : Int)), some (aI 1), some (aI (j : Int))] dX12_elected_94 rfl (by decide) ?_
                  refine w_iinc [some (aR 12 0), some (aI (c : Int)), some (aI 1), some (aI ((j : Int) + 1))] dX12_elected_95 rfl rfl (by decide) ?_
                  refine w_goto 43 dX12_elected_98 (by decide) ?_
                  exact ih43 (by omega) _ _ _ (by omega) (by omega) (by omega) hA43
                · refine w_aload_n dX12_elected_66 rfl ?_
                  refine w_aload_n dX12_elected_67 rfl ?_
                  refine w_iload_n dX12_elected_68 rfl ?_
                  refine w_iload_n dX12_elected_69 rfl ?_
                  refine w_callV (d := d + 5) (S := [aR 12 0]) [aI (c : Int), aI (j : Int)] dX12_elected_70 ml_X12_332 ok_X12_votesFor vi_X12_votesFor rfl rfl (by decide) rfl (Nat.le_of_ble_eq_true rfl) ?_
                  refine c_X12_votesFor (d := d) c j J R hA43 (show (c : Int) < gg 4 0 1 by omega) (show (j : Int) < gg 4 0 1 by omega) (show 0 < gg 17 0 c by omega) (show 0 < gg 17 0 j by omega) ?_
                  intro A70_10 hA70_10
                  show fwWP mX12_elected (d + 6) 73 [some (aR 12 0), some (aI (c : Int)), some (aI v43), some (aI (j : Int))] [aI (mVo gg c j), aR 12 0] (fwUc (fwUc h 42 0 A43) 42 0 A70_10) Q
                  rw [show (fwUc (fwUc h 42 0 A43) 42 0 A70_10) = (fwUc h 42 0 A70_10) from by funext a b; simp only [fwUc]; (repeat' split); all_goals first | rfl | (exfalso; omega)]
                  refine w_callV (d := d + 5) (S := []) [aI (mVo gg c j)] dX12_elected_73 ml_X12_260 ok_X12_namesOf vi_X12_namesOf rfl rfl (by decide) rfl (Nat.le_of_ble_eq_true rfl) ?_
                  refine c_X12_namesOf (d := (d + 4)) (mVo gg c j) J R ?_
                  show fwWP mX12_elected (d + 6) 76 [some (aR 12 0), some (aI (c : Int)), some (aI v43), some (aI (j : Int))] [aI (mNames (gg 18 0) (mVo gg c j) (gg 5 0 3).toNat)] (fwUc h 42 0 A70_10) Q
                  have hnr11 := mNames_r2 hP (mVo gg c j)
                  refine w_aload_n dX12_elected_76 rfl ?_
                  refine w_aload_n dX12_elected_77 rfl ?_
                  refine w_iload_n dX12_elected_78 rfl ?_
                  refine w_iload_n dX12_elected_79 rfl ?_
                  refine w_callV (d := d + 5) (S := [aR 12 0, aI (mNames (gg 18 0) (mVo gg c j) (gg 5 0 3).toNat)]) [aI (j : Int), aI (c : Int)] dX12_elected_80 ml_X12_332 ok_X12_votesFor vi_X12_votesFor rfl rfl (by decide) rfl (Nat.le_of_ble_eq_true rfl) ?_
                  refine c_X12_votesFor (d := d) j c J R hA70_10 (show (j : Int) < gg 4 0 1 by omega) (show (c : Int) < gg 4 0 1 by omega) (show 0 < gg 17 0 j by omega) (show 0 < gg 17 0 c by omega) ?_
                  intro A80_12 hA80_12
                  show fwWP mX12_elected (d + 6) 83 [some (aR 12 0), some (aI (c : Int)), some (aI v43), some (aI (j : Int))] [aI (mVo gg j c), aR 12 0, aI (mNames (gg 18 0) (mVo gg c j) (gg 5 0 3).toNat)] (fwUc (fwUc h 42 0 A70_10) 42 0 A80_12) Q
                  rw [show (fwUc (fwUc h 42 0 A70_10) 42 0 A80_12) = (fwUc h 42 0 A80_12) from by funext a b; simp only [fwUc]; (repeat' split); all_goals first | rfl | (exfalso; omega)]
                  refine w_callV (d := d + 5) (S := [aI (mNames (gg 18 0) (mVo gg c j) (gg 5 0 3).toNat)]) [aI (mVo gg j c)] dX12_elected_83 ml_X12_260 ok_X12_namesOf vi_X12_namesOf rfl rfl (by decide) rfl (Nat.le_of_ble_eq_true rfl) ?_
                  refine c_X12_namesOf (d := (d + 4)) (mVo gg j c) J R ?_
                  show fwWP mX12_elected (d + 6) 86 [some (aR 12 0), some (aI (c : Int)), some (aI v43), some (aI (j : Int))] [aI (mNames (gg 18 0) (mVo gg j c) (gg 5 0 3).toNat), aI (mNames (gg 18 0) (mVo gg c j) (gg 5 0 3).toNat)] (fwUc h 42 0 A80_12) Q
                  have hnr13 := mNames_r2 hP (mVo gg j c)
                  refine w_icmp_lt 93 dX12_elected_86 (by decide) (by omega) (by omega) (fun c86 => ?_) (fun c86 => ?_)
                  · refine w_iconst dX12_elected_93 ?_
                    refine w_istore_n [some (aR 12 0), some (aI (c : Int)), some (aI 0), some (aI (j : Int))] dX12_elected_94 rfl (by decide) ?_
                    refine w_iinc [some (aR 12 0), some (aI (c : Int)), some (aI 0), some (aI ((j : Int) + 1))] dX12_elected_95 rfl rfl (by decide) ?_
                    refine w_goto 43 dX12_elected_98 (by decide) ?_
                    exact ih43 (by omega) _ _ _ (by omega) (by omega) (by omega) hA80_12
                  · refine w_iconst dX12_elected_89 ?_
                    refine w_goto 94 dX12_elected_90 (by decide) ?_
                    refine w_istore_n [some (aR 12 0), some (aI (c : Int)), some (aI 1), some (aI (j : Int))] dX12_elected_94 rfl (by decide) ?_
                    refine w_iinc [some (aR 12 0), some (aI (c : Int)), some (aI 1), some (aI ((j : Int) + 1))] dX12_elected_95 rfl rfl (by decide) ?_
                    refine w_goto 43 dX12_elected_98 (by decide) ?_
                    exact ih43 (by omega) _ _ _ (by omega) (by omega) (by omega) hA80_12
          exact lp43 0 (Nat.zero_le _) _ _ _ rfl (by omega) (by omega) hA16
        · refine w_iconst dX12_elected_35 ?_
          refine w_goto 40 dX12_elected_36 (by decide) ?_
          refine w_istore_n [some (aR 12 0), some (aI (c : Int)), some (aI 1), none] dX12_elected_40 rfl (by decide) ?_
          refine w_iconst dX12_elected_41 ?_
          refine w_istore_n [some (aR 12 0), some (aI (c : Int)), some (aI 1), some (aI 0)] dX12_elected_42 rfl (by decide) ?_
          have lp43 : ∀ j : Nat, j ≤ (gg 4 0 1).toNat → ∀ (y43 v43 : Int) (A43 : Nat → Int), y43 = (j : Int) → (0 ≤ v43 ∧ v43 ≤ 1) → (v43 = 0 ∨ 0 < gg 17 0 c) → hiR (gg 4 0 1) A43 (gg 17 0) → fwWP mX12_elected (d + 6) 43 [some (aR 12 0), some (aI (c : Int)), some (aI v43), some (aI y43)] [] (fwUc h 42 0 A43) Q := by
            refine fw_up (fun j hc43 ih43 => ?_)
            intro y43 v43 A43 ey43 ev43 ew43 hA43
            subst ey43
            show fwWP mX12_elected (d + 6) 43 [some (aR 12 0), some (aI (c : Int)), some (aI v43), some (aI (j : Int))] [] (fwUc h 42 0 A43) Q
            refine w_iload_n dX12_elected_43 rfl ?_
            refine w_aload_n dX12_elected_44 rfl ?_
            refine w_getr 36 0 dX12_elected_45 fl_X12_9 rfl (by decide) ?_
            refine w_iconst dX12_elected_48 ?_
            refine w_ialdE (v := gg 4 0 1) dX12_elected_49 rfl (by decide) (by omega) (by omega) R.1 ?_
            refine w_icmp_ge 101 dX12_elected_50 (by decide) (by omega) (by omega) (fun c50 => ?_) (fun c50 => ?_)
            · refine w_iload_n dX12_elected_101 rfl ?_
              refine w_if_eq 107 dX12_elected_102 (by decide) (by omega) (fun c102 => ?_) (fun c102 => ?_)
              · refine w_iinc [some (aR 12 0), some (aI ((c : Int) + 1)), some (aI v43), some (aI (j : Int))] dX12_elected_107 rfl rfl (by decide) ?_
                refine w_goto 16 dX12_elected_110 (by decide) ?_
                refine w_drop [2, 3] [some (aR 12 0), some (aI ((c : Int) + 1)), none, none] rfl ?_
                refine ih16 (by omega) _ _ ?_ ?_
                · exact (by omega)
                · exact hA43
              · refine w_iload_n dX12_elected_105 rfl ?_
                exact w_iret dX12_elected_106 rfl (k _ _ (scr_uc (scr_rf hsh) rfl (by decide) (by decide) (by decide)))
            · refine w_iload_n dX12_elected_53 rfl ?_
              refine w_if_eq 101 dX12_elected_54 (by decide) (by omega) (fun c54 => ?_) (fun c54 => ?_)
              · refine w_iload_n dX12_elected_101 rfl ?_
                refine w_if_eq 107 dX12_elected_102 (by decide) (by omega) (fun c102 => ?_) (fun c102 => ?_)
                · refine w_iinc [some (aR 12 0), some (aI ((c : Int) + 1)), some (aI v43), some (aI (j : Int))] dX12_elected_107 rfl rfl (by decide) ?_
                  refine w_goto 16 dX12_elected_110 (by decide) ?_
                  refine w_drop [2, 3] [some (aR 12 0), some (aI ((c : Int) + 1)), none, none] rfl ?_
                  refine ih16 (by omega) _ _ ?_ ?_
                  · exact (by omega)
                  · exact hA43
                · refine w_iload_n dX12_elected_105 rfl ?_
                  exact w_iret dX12_elected_106 rfl (k _ _ (scr_uc (scr_rf hsh) rfl (by decide) (by decide) (by decide)))
              · have hbj := hM0 j (by omega)
                refine w_aload_n dX12_elected_57 rfl ?_
                refine w_getr 42 0 dX12_elected_58 fl_X12_34 rfl (by decide) ?_
                refine w_iload_n dX12_elected_61 rfl ?_
                refine w_ialdE (v := (gg 17 0) j) dX12_elected_62 rfl (by decide) (by omega) (by omega) (hA43 _ (by omega)) ?_
                refine w_if_eq 89 dX12_elected_63 (by decide) (by omega) (fun c63 => ?_) (fun c63 => ?_)
                · refine w_iconst dX12_elected_89 ?_
                  refine w_goto 94 dX12_elected_90 (by decide) ?_
                  refine w_istore_n [some (aR 12 0), some (aI (c : Int)), some (aI 1), some (aI (j : Int))] dX12_elected_94 rfl (by decide) ?_
                  refine w_iinc [some (aR 12 0), some (aI (c : Int)), some (aI 1), some (aI ((j : Int) + 1))] dX12_elected_95 rfl rfl (by decide) ?_
                  refine w_goto 43 dX12_elected_98 (by decide) ?_
                  exact ih43 (by omega) _ _ _ (by omega) (by omega) (by omega) hA43
                · refine w_aload_n dX12_elected_66 rfl ?_
                  refine w_aload_n dX12_elected_67 rfl ?_
                  refine w_iload_n dX12_elected_68 rfl ?_
                  refine w_iload_n dX12_elected_69 rfl ?_
                  refine w_callV (d := d + 5) (S := [aR 12 0]) [aI (c : Int), aI (j : Int)] dX12_elected_70 ml_X12_332 ok_X12_votesFor vi_X12_votesFor rfl rfl (by decide) rfl (Nat.le_of_ble_eq_true rfl) ?_
                  refine c_X12_votesFor (d := d) c j J R hA43 (show (c : Int) < gg 4 0 1 by omega) (show (j : Int) < gg 4 0 1 by omega) (show 0 < gg 17 0 c by omega) (show 0 < gg 17 0 j by omega) ?_
                  intro A70_20 hA70_20
                  show fwWP mX12_elected (d + 6) 73 [some (aR 12 0), some (aI (c : Int)), some (aI v43), some (aI (j : Int))] [aI (mVo gg c j), aR 12 0] (fwUc (fwUc h 42 0 A43) 42 0 A70_20) Q
                  rw [show (fwUc (fwUc h 42 0 A43) 42 0 A70_20) = (fwUc h 42 0 A70_20) from by funext a b; simp only [fwUc]; (repeat' split); all_goals first | rfl | (exfalso; omega)]
                  refine w_callV (d := d + 5) (S := []) [aI (mVo gg c j)] dX12_elected_73 ml_X12_260 ok_X12_namesOf vi_X12_namesOf rfl rfl (by decide) rfl (Nat.le_of_ble_eq_true rfl) ?_
                  refine c_X12_namesOf (d := (d + 4)) (mVo gg c j) J R ?_
                  show fwWP mX12_elected (d + 6) 76 [some (aR 12 0), some (aI (c : Int)), some (aI v43), some (aI (j : Int))] [aI (mNames (gg 18 0) (mVo gg c j) (gg 5 0 3).toNat)] (fwUc h 42 0 A70_20) Q
                  have hnr21 := mNames_r2 hP (mVo gg c j)
                  refine w_aload_n dX12_elected_76 rfl ?_
                  refine w_aload_n dX12_elected_77 rfl ?_
                  refine w_iload_n dX12_elected_78 rfl ?_
                  refine w_iload_n dX12_elected_79 rfl ?_
                  refine w_callV (d := d + 5) (S := [aR 12 0, aI (mNames (gg 18 0) (mVo gg c j) (gg 5 0 3).toNat)]) [aI (j : Int), aI (c : Int)] dX12_elected_80 ml_X12_332 ok_X12_votesFor vi_X12_votesFor rfl rfl (by decide) rfl (Nat.le_of_ble_eq_true rfl) ?_
                  refine c_X12_votesFor (d := d) j c J R hA70_20 (show (j : Int) < gg 4 0 1 by omega) (show (c : Int) < gg 4 0 1 by omega) (show 0 < gg 17 0 j by omega) (show 0 < gg 17 0 c by omega) ?_
                  intro A80_22 hA80_22
                  show fwWP mX12_elected (d + 6) 83 [some (aR 12 0), some (aI (c : Int)), some (aI v43), some (aI (j : Int))] [aI (mVo gg j c), aR 12 0, aI (mNames (gg 18 0) (mVo gg c j) (gg 5 0 3).toNat)] (fwUc (fwUc h 42 0 A70_20) 42 0 A80_22) Q
                  rw [show (fwUc (fwUc h 42 0 A70_20) 42 0 A80_22) = (fwUc h 42 0 A80_22) from by funext a b; simp only [fwUc]; (repeat' split); all_goals first | rfl | (exfalso; omega)]
                  refine w_callV (d := d + 5) (S := [aI (mNames (gg 18 0) (mVo gg c j) (gg 5 0 3).toNat)]) [aI (mVo gg j c)] dX12_elected_83 ml_X12_260 ok_X12_namesOf vi_X12_namesOf rfl rfl (by decide) rfl (Nat.le_of_ble_eq_true rfl) ?_
                  refine c_X12_namesOf (d := (d + 4)) (mVo gg j c) J R ?_
                  show fwWP mX12_elected (d + 6) 86 [some (aR 12 0), some (aI (c : Int)), some (aI v43), some (aI (j : Int))] [aI (mNames (gg 18 0) (mVo gg j c) (gg 5 0 3).toNat), aI (mNames (gg 18 0) (mVo gg c j) (gg 5 0 3).toNat)] (fwUc h 42 0 A80_22) Q
                  have hnr23 := mNames_r2 hP (mVo gg j c)
                  refine w_icmp_lt 93 dX12_elected_86 (by decide) (by omega) (by omega) (fun c86 => ?_) (fun c86 => ?_)
                  · refine w_iconst dX12_elected_93 ?_
                    refine w_istore_n [some (aR 12 0), some (aI (c : Int)), some (aI 0), some (aI (j : Int))] dX12_elected_94 rfl (by decide) ?_
                    refine w_iinc [some (aR 12 0), some (aI (c : Int)), some (aI 0), some (aI ((j : Int) + 1))] dX12_elected_95 rfl rfl (by decide) ?_
                    refine w_goto 43 dX12_elected_98 (by decide) ?_
                    exact ih43 (by omega) _ _ _ (by omega) (by omega) (by omega) hA80_22
                  · refine w_iconst dX12_elected_89 ?_
                    refine w_goto 94 dX12_elected_90 (by decide) ?_
                    refine w_istore_n [some (aR 12 0), some (aI (c : Int)), some (aI 1), some (aI (j : Int))] dX12_elected_94 rfl (by decide) ?_
                    refine w_iinc [some (aR 12 0), some (aI (c : Int)), some (aI 1), some (aI ((j : Int) + 1))] dX12_elected_95 rfl rfl (by decide) ?_
                    refine w_goto 43 dX12_elected_98 (by decide) ?_
                    exact ih43 (by omega) _ _ _ (by omega) (by omega) (by omega) hA80_22
          exact lp43 0 (Nat.zero_le _) _ _ _ rfl (by omega) (by omega) hA16
    have z16 := lp16 0 (Nat.zero_le _) _ A11_2 (by exact (show 0 = ((0 : Nat) : Int) by omega))  hA11_2
    exact z16
  · refine w_bipush dX12_elected_7 rfl ?_
    exact w_iret dX12_elected_9 rfl (k _ _ (scr_rf hsh))
end
section
def cnt (S : Nat → Int) : Nat → Nat → Int
  | 0, _ => 0
  | i + 1, z => cnt S i z + (if (S i).toNat = z then 1 else 0)
theorem cnt_0 (S : Nat → Int) (z : Nat) : ∀ i, 0 ≤ cnt S i z := by
  intro i
  induction i with
  | zero => exact Int.le_refl _
  | succ i ih => rw [cnt]; split <;> omega
def sbt (H S : Nat → Int) (i : Nat) : Nat → Int := fun z => H z - cnt S i z
def rgv (H S : Nat → Int) (t i : Nat) : Nat → Int := fun z => H z - cnt S t z + cnt S i z
theorem sbt_s (H S : Nat → Int) (i : Nat) : fwFu (sbt H S i) (S i).toNat (sbt H S i (S i).toNat - 1) = sbt H S (i + 1) := by
  funext z
  unfold fwFu sbt
  rw [cnt]
  by_cases e : z = (S i).toNat
  · rw [if_pos e, if_pos e.symm, e]; omega
  · rw [if_neg e, if_neg (fun q => e q.symm)]; omega
theorem rgv_s (H S : Nat → Int) (t i : Nat) : fwFu (rgv H S t i) (S i).toNat (rgv H S t i (S i).toNat + 1) = rgv H S t (i + 1) := by
  funext z
  unfold fwFu rgv
  rw [cnt]
  by_cases e : z = (S i).toNat
  · rw [if_pos e, if_pos e.symm, e]; omega
  · rw [if_neg e, if_neg (fun q => e q.symm)]; omega
theorem rgv_0 (H S : Nat → Int) (t : Nat) : rgv H S t 0 = sbt H S t := by
  funext z
  unfold rgv sbt
  rw [cnt]
  omega
theorem rgv_t (H S : Nat → Int) (t : Nat) : rgv H S t t = H := by
  funext z
  unfold rgv
  omega
theorem sbt_le (H S : Nat → Int) (i z : Nat) : sbt H S i z ≤ H z := by
  have := cnt_0 S z i
  unfold sbt
  omega
theorem sbt_nn {H S : Nat → Int} {i : Nat} (h : ∀ z : Nat, z < 10 → 0 ≤ sbt H S i z) (hp : 0 < sbt H S i (S i).toNat) : ∀ z : Nat, z < 10 → 0 ≤ sbt H S (i + 1) z := by
  intro z hz
  have := h z hz
  unfold sbt at this hp ⊢
  rw [cnt]
  split
  · rename_i e; rw [e] at hp; omega
  · omega
def sB (n : Int) (S : Nat → Int) : Prop := ∀ i : Nat, i < 3 → 0 ≤ S i ∧ S i < n
def m3 (S : Nat → Int) : Int := 100 * S 0 + 10 * S 1 + S 2
theorem m3_lt {S r : Nat → Int} {n i : Nat} {N : Int} (hn : n ≤ 3) (hi : i < n) (hN : N ≤ 10) (hS : sB N S) (hx : S i ≠ N - 1) (hm : ∀ z : Nat, i < z → z < n → S z = N - 1) (h1 : ∀ z : Nat, z < n → r z = if z < i then S z else S i + 1) (h2 : ∀ z : Nat, n ≤ z → r z = S z) : m3 S < m3 r ∧ sB N r := by
  have e : ∀ z : Nat, z < 3 → (z < i ∧ r z = S z) ∨ (i ≤ z ∧ z < n ∧ r z = S i + 1 ∧ (z = i ∨ S z = N - 1)) ∨ (n ≤ z ∧ r z = S z) := by
    intro z hz
    rcases Nat.lt_or_ge z n with q | q
    · have := h1 z q
      rcases Nat.lt_or_ge z i with p | p
      · rw [if_pos p] at this
        exact Or.inl ⟨p, this⟩
      · rw [if_neg (by omega)] at this
        rcases Nat.eq_or_lt_of_le p with u | u
        · exact Or.inr (Or.inl ⟨p, q, this, Or.inl u.symm⟩)
        · exact Or.inr (Or.inl ⟨p, q, this, Or.inr (hm z u q)⟩)
    · exact Or.inr (Or.inr ⟨q, h2 z q⟩)
  have b0 := hS 0 (by omega)
  have b1 := hS 1 (by omega)
  have b2 := hS 2 (by omega)
  have bi := hS i (by omega)
  have e0 := e 0 (by omega)
  have e1 := e 1 (by omega)
  have e2 := e 2 (by omega)
  unfold m3
  refine ⟨?_, fun z hz => ?_⟩
  · rcases (show i = 0 ∨ i = 1 ∨ i = 2 by omega) with rfl | rfl | rfl <;> omega
  · have ez := e z hz
    have bz := hS z hz
    omega
def HH (h : fwH) (A S B : Nat → Int) : fwH := fwUc (fwUc (fwUc h 42 0 A) 44 0 S) 45 0 B
theorem fwUc_cmm {h : fwH} {k k' : Nat} (A B : Nat → Int) (hk : k ≠ k') : fwUc (fwUc h k 0 A) k' 0 B = fwUc (fwUc h k' 0 B) k 0 A := by
  funext a b
  unfold fwUc
  by_cases e1 : a = k' ∧ b = 0
  · rw [if_pos e1, if_neg (fun z => hk (z.1.symm.trans e1.1)), if_pos e1]
  · rw [if_neg e1]
    by_cases e2 : a = k ∧ b = 0
    · rw [if_pos e2, if_pos e2]
    · rw [if_neg e2, if_neg e2, if_neg e1]
theorem HH_42 (h : fwH) (A S B C : Nat → Int) : fwUc (HH h A S B) 42 0 C = HH h C S B := by
  unfold HH
  rw [fwUc_cmm B C (show 45 ≠ 42 by decide), fwUc_cmm S C (show 44 ≠ 42 by decide), fwUc_uc]
theorem HH_44 (h : fwH) (A S B C : Nat → Int) : fwUc (HH h A S B) 44 0 C = HH h A C B := by
  unfold HH
  rw [fwUc_cmm B C (show 45 ≠ 44 by decide), fwUc_uc]
theorem HH_45 (h : fwH) (A S B C : Nat → Int) : fwUc (HH h A S B) 45 0 C = HH h A S C := by
  unfold HH
  rw [fwUc_uc]
theorem HH_in (h : fwH) (A S : Nat → Int) : fwUc (fwUc h 42 0 A) 44 0 S = HH h A S (h 45 0) := by
  unfold HH
  exact (fwUc_self _ 45 0).symm
theorem HH_p42 (h : fwH) (A S B : Nat → Int) (j : Nat) (x : Int) : fwUp (HH h A S B) 42 0 j x = HH h (fwFu A j x) S B := by
  rw [fwUp_fu, HH_42]
  rfl
theorem HH_p45 (h : fwH) (A S B : Nat → Int) (j : Nat) (x : Int) : fwUp (HH h A S B) 45 0 j x = HH h A S (fwFu B j x) := by
  rw [fwUp_fu, HH_45]
  rfl
set_option maxRecDepth 100000 in
set_option maxHeartbeats 4000000 in
theorem c_w_takeRow {d : Nat} {h gg : fwH} {Q : Option fwV → fwH → Prop} (n : Nat) (J : cOk gg) (R : jF gg h) (hn : n ≤ 3) (hH : hiR (gg 4 0 1) (h 42 0) (gg 17 0)) (hS : sB (gg 4 0 1) (h 44 0)) (k : ∀ (t : Nat) A, t ≤ n → hiR (gg 4 0 1) A (sbt (gg 17 0) (h 44 0) t) → (∀ z : Nat, z < 10 → 0 ≤ sbt (gg 17 0) (h 44 0) t z) → Q (some (aI (t : Int))) (fwUc h 42 0 A)) : fwCt mX12_takeRow (d + 1) [aR 12 0, aI (n : Int)] h Q := by
  refine fwCt_of [some (aR 12 0), some (aI (n : Int)), none] rfl rfl rfl ?_
  obtain ⟨hl, hP, hG, -, -, -, hlw, -, ha, hs, -, hsc⟩ := id J
  obtain ⟨⟨g1, g2⟩, ⟨g3, g4⟩, ⟨g5, g6⟩, g7, -⟩ := id hG
  have hpz := hP.1
  have hM9 := J.2.2.2.1
  have hH0 : hiR (gg 4 0 1) (h 42 0) (sbt (gg 17 0) (h 44 0) 0) := fun c hc => by rw [hH c hc]; unfold sbt; rw [cnt]; omega
  have hnn0 : ∀ z : Nat, z < 10 → 0 ≤ sbt (gg 17 0) (h 44 0) 0 z := fun z hz => by have := hM9 z hz; unfold sbt; rw [cnt]; omega
  refine w_iconst dX12_takeRow_0 ?_
  refine w_istore_n [some (aR 12 0), some (aI (n : Int)), some (aI 0)] dX12_takeRow_1 rfl (by decide) ?_
  have lp2 : ∀ c : Nat, c ≤ n → ∀ A : Nat → Int, hiR (gg 4 0 1) A (sbt (gg 17 0) (h 44 0) c) → (∀ z : Nat, z < 10 → 0 ≤ sbt (gg 17 0) (h 44 0) c z) → fwWP mX12_takeRow (d + 1) 2 [some (aR 12 0), some (aI (n : Int)), some (aI (c : Int))] [] (fwUc h 42 0 A) Q := by
    refine fw_up (fun c hc ih2 => ?_)
    intro A hA hnn
    refine w_iload_n dX12_takeRow_2 rfl ?_
    refine w_iload_n dX12_takeRow_3 rfl ?_
    refine w_icmp_ge 44 dX12_takeRow_4 (by decide) (by omega) (by omega) (fun c4 => ?_) (fun c4 => ?_)
    · refine w_iload_n dX12_takeRow_44 rfl ?_
      have ec : c = n := by omega
      subst ec
      exact w_iret dX12_takeRow_45 rfl (k c _ (by omega) hA hnn)
    · have hsc9 := hS c (by omega)
      have hx0 := hnn (h 44 0 c).toNat (by omega)
      have hx1 := sbt_le (gg 17 0) (h 44 0) c (h 44 0 c).toNat
      have hx2 := hM9 (h 44 0 c).toNat (by omega)
      refine w_aload_n dX12_takeRow_7 rfl ?_
      refine w_getr 42 0 dX12_takeRow_8 fl_X12_34 rfl (by decide) ?_
      refine w_aload_n dX12_takeRow_11 rfl ?_
      refine w_getr 44 0 dX12_takeRow_12 fl_X12_41 rfl (by decide) ?_
      refine w_iload_n dX12_takeRow_15 rfl ?_
      refine w_ialdE (v := h 44 0 c) dX12_takeRow_16 rfl (by decide) (by omega) (by omega) (by rw [show (c : Int).toNat = c by omega]; rfl) ?_
      refine w_ialdE (v := sbt (gg 17 0) (h 44 0) c (h 44 0 c).toNat) dX12_takeRow_17 rfl (by decide) (by omega) (by omega) (hA _ (by omega)) ?_
      refine w_if_ne 23 dX12_takeRow_18 (by decide) (by omega) (fun c18 => ?_) (fun c18 => ?_)
      · refine w_aload_n dX12_takeRow_23 rfl ?_
        refine w_getr 42 0 dX12_takeRow_24 fl_X12_34 rfl (by decide) ?_
        refine w_aload_n dX12_takeRow_27 rfl ?_
        refine w_getr 44 0 dX12_takeRow_28 fl_X12_41 rfl (by decide) ?_
        refine w_iload_n dX12_takeRow_31 rfl ?_
        refine w_ialdE (v := h 44 0 c) dX12_takeRow_32 rfl (by decide) (by omega) (by omega) (by rw [show (c : Int).toNat = c by omega]; rfl) ?_
        refine w_dup2 dX12_takeRow_33 rfl rfl ?_
        refine w_ialdE (v := sbt (gg 17 0) (h 44 0) c (h 44 0 c).toNat) dX12_takeRow_34 rfl (by decide) (by omega) (by omega) (hA _ (by omega)) ?_
        refine w_iconst dX12_takeRow_35 ?_
        refine w_isub dX12_takeRow_36 ?_
        refine w_iast dX12_takeRow_37 rfl (by decide) (by omega) (by omega) ?_
        refine w_iinc [some (aR 12 0), some (aI (n : Int)), some (aI ((c : Int) + 1))] dX12_takeRow_38 rfl rfl (by decide) ?_
        refine w_goto 2 dX12_takeRow_41 (by decide) ?_
        rw [fwUp_uc]
        exact ih2 (by omega) _ (by have := hiR_fu hA (h 44 0 c).toNat (sbt (gg 17 0) (h 44 0) c (h 44 0 c).toNat - 1); rw [sbt_s] at this; exact this) (sbt_nn hnn (by omega))
      · refine w_iload_n dX12_takeRow_21 rfl ?_
        exact w_iret dX12_takeRow_22 rfl (k c _ (by omega) hA hnn)
  have e0 : fwUc h 42 0 (h 42 0) = h := fwUc_self h 42 0
  rw [← e0]
  exact lp2 0 (by omega) _ hH0 hnn0
set_option maxRecDepth 100000 in
set_option maxHeartbeats 4000000 in
theorem c_w_nextRow {d : Nat} {h gg : fwH} {Q : Option fwV → fwH → Prop} (n : Nat) (J : cOk gg) (R : jF gg h) (hn : n ≤ 3) (hN : 1 ≤ gg 4 0 1) (hS : sB (gg 4 0 1) (h 44 0)) (k : (∀ S, sB (gg 4 0 1) S → m3 (h 44 0) < m3 S → Q (some (aI 1)) (fwUc h 44 0 S)) ∧ Q (some (aI 0)) h) : fwCt mX12_nextRow (d + 1) [aR 12 0, aI (n : Int)] h Q := by
  refine fwCt_of [some (aR 12 0), some (aI (n : Int)), none, none] rfl rfl rfl ?_
  obtain ⟨hl, hP, hG, -, -, -, hlw, -, ha, hs, -, hsc⟩ := id J
  obtain ⟨⟨g1, g2⟩, ⟨g3, g4⟩, ⟨g5, g6⟩, g7, -⟩ := id hG
  have hpz := hP.1
  refine w_iload_n dX12_nextRow_0 rfl ?_
  refine w_iconst dX12_nextRow_1 ?_
  refine w_isub dX12_nextRow_2 ?_
  refine w_istore_n [some (aR 12 0), some (aI (n : Int)), some (aI ((n : Int) - 1)), none] dX12_nextRow_3 rfl (by decide) ?_
  have lp4 : ∀ c : Nat, c ≤ n → ∀ y4 : Int, y4 = (n : Int) - 1 - (c : Int) → (∀ z : Nat, n - c ≤ z → z < n → h 44 0 z = gg 4 0 1 - 1) → fwWP mX12_nextRow (d + 1) 4 [some (aR 12 0), some (aI (n : Int)), some (aI y4), none] [] h Q := by
    refine fw_up (fun c hc ih4 => ?_)
    intro y4 ey4 hmx
    subst ey4
    show fwWP mX12_nextRow (d + 1) 4 [some (aR 12 0), some (aI (n : Int)), some (aI ((n : Int) - 1 - (c : Int))), none] [] h Q
    refine w_iload_n dX12_nextRow_4 rfl ?_
    refine w_if_lt 73 dX12_nextRow_5 (by decide) (by omega) (fun c5 => ?_) (fun c5 => ?_)
    · refine w_iconst dX12_nextRow_73 ?_
      exact w_zret dX12_nextRow_74 rfl (Or.inl rfl) k.2
    · obtain ⟨i, hi⟩ : ∃ i : Nat, i + 1 + c = n := ⟨n - 1 - c, by omega⟩
      have hsi := hS i (by omega)
      refine w_aload_n dX12_nextRow_8 rfl ?_
      refine w_getr 44 0 dX12_nextRow_9 fl_X12_41 rfl (by decide) ?_
      refine w_iload_n dX12_nextRow_12 rfl ?_
      refine w_ialdE (v := h 44 0 i) dX12_nextRow_13 rfl (by decide) (by omega) (by omega) (by rw [show ((n : Int) - 1 - (c : Int) : Int).toNat = i by omega]) ?_
      refine w_aload_n dX12_nextRow_14 rfl ?_
      refine w_getr 36 0 dX12_nextRow_15 fl_X12_9 rfl (by decide) ?_
      refine w_iconst dX12_nextRow_18 ?_
      refine w_ialdE (v := gg 4 0 1) dX12_nextRow_19 rfl (by decide) (by omega) (by omega) R.1 ?_
      refine w_iconst dX12_nextRow_20 ?_
      refine w_isub dX12_nextRow_21 ?_
      refine w_icmp_ne 28 dX12_nextRow_22 (by decide) (by omega) (by omega) (fun c22 => ?_) (fun c22 => ?_)
      · refine w_aload_n dX12_nextRow_28 rfl ?_
        refine w_getr 44 0 dX12_nextRow_29 fl_X12_41 rfl (by decide) ?_
        refine w_iload_n dX12_nextRow_32 rfl ?_
        refine w_dup2 dX12_nextRow_33 rfl rfl ?_
        refine w_ialdE (v := h 44 0 i) dX12_nextRow_34 rfl (by decide) (by omega) (by omega) (by rw [show ((n : Int) - 1 - (c : Int) : Int).toNat = i by omega]) ?_
        refine w_iconst dX12_nextRow_35 ?_
        refine w_iadd dX12_nextRow_36 ?_
        refine w_iast dX12_nextRow_37 rfl (by decide) (by omega) (by omega) ?_
        refine w_iload_n dX12_nextRow_38 rfl ?_
        refine w_iconst dX12_nextRow_39 ?_
        refine w_iadd dX12_nextRow_40 ?_
        refine w_istore_n [some (aR 12 0), some (aI (n : Int)), some (aI ((n : Int) - 1 - (c : Int))), some (aI (((n : Int) - 1 - (c : Int)) + 1))] dX12_nextRow_41 rfl (by decide) ?_
        have lp42 : ∀ c2 : Nat, c2 ≤ n - (i + 1) → ∀ (y42 : Int) (r : Nat → Int), y42 = ((n : Int) - 1 - (c : Int)) + 1 + (c2 : Int) → (∀ z : Nat, z < i + 1 + c2 → r z = if z < i then h 44 0 z else h 44 0 i + 1) → (∀ z : Nat, i + 1 + c2 ≤ z → r z = h 44 0 z) → fwWP mX12_nextRow (d + 1) 42 [some (aR 12 0), some (aI (n : Int)), some (aI ((n : Int) - 1 - (c : Int))), some (aI y42)] [] (fwUc h 44 0 r) Q := by
          refine fw_up (fun c2 hc2 ih42 => ?_)
          intro y42 r ey42 hr1 hr2
          subst ey42
          show fwWP mX12_nextRow (d + 1) 42 [some (aR 12 0), some (aI (n : Int)), some (aI ((n : Int) - 1 - (c : Int))), some (aI (((n : Int) - 1 - (c : Int)) + 1 + (c2 : Int)))] [] (fwUc h 44 0 r) Q
          refine w_iload_n dX12_nextRow_42 rfl ?_
          refine w_iload_n dX12_nextRow_43 rfl ?_
          refine w_icmp_ge 65 dX12_nextRow_44 (by decide) (by omega) (by omega) (fun c44 => ?_) (fun c44 => ?_)
          · refine w_iconst dX12_nextRow_65 ?_
            have hm := m3_lt (S := h 44 0) (r := r) (n := n) (i := i) (N := gg 4 0 1) hn (by omega) (by omega) hS c22 (fun z h1 h2 => hmx z (by omega) h2) (fun z hz => hr1 z (by omega)) (fun z hz => hr2 z (by omega))
            exact w_zret dX12_nextRow_66 rfl (Or.inr rfl) (k.1 r hm.2 hm.1)
          · refine w_aload_n dX12_nextRow_47 rfl ?_
            refine w_getr 44 0 dX12_nextRow_48 fl_X12_41 rfl (by decide) ?_
            refine w_iload_n dX12_nextRow_51 rfl ?_
            refine w_aload_n dX12_nextRow_52 rfl ?_
            refine w_getr 44 0 dX12_nextRow_53 fl_X12_41 rfl (by decide) ?_
            refine w_iload_n dX12_nextRow_56 rfl ?_
            refine w_ialdE (v := h 44 0 i + 1) dX12_nextRow_57 rfl (by decide) (by omega) (by omega) (by rw [show ((n : Int) - 1 - (c : Int) : Int).toNat = i by omega]; exact (hr1 i (by omega)).trans (if_neg (by omega))) ?_
            refine w_iast dX12_nextRow_58 rfl (by decide) (by omega) (by omega) ?_
            refine w_iinc [some (aR 12 0), some (aI (n : Int)), some (aI ((n : Int) - 1 - (c : Int))), some (aI ((((n : Int) - 1 - (c : Int)) + 1 + (c2 : Int)) + 1))] dX12_nextRow_59 rfl rfl (by decide) ?_
            refine w_goto 42 dX12_nextRow_62 (by decide) ?_
            rw [fwUp_uc, show ((((n : Int) - 1 - (c : Int)) + 1 + (c2 : Int)).toNat) = i + 1 + c2 by omega]
            exact ih42 (by omega) _ _ (by omega) (fun z hz => by unfold fwFu; exact (Decidable.em (z = i + 1 + c2)).elim (fun e => by rw [if_pos e, if_neg (by omega)]) (fun e => by rw [if_neg e]; exact hr1 z (by omega))) (fun z hz => by unfold fwFu; rw [if_neg (by omega)]; exact hr2 z (by omega))
        rw [show (((n : Int) - 1 - (c : Int)).toNat) = i by omega, fwUp_fu]
        exact lp42 0 (by omega) _ _ (by omega) (fun z hz => by unfold fwFu; exact (Decidable.em (z = i)).elim (fun e => by rw [if_pos e, if_neg (by omega)]) (fun e => by rw [if_neg e, if_pos (by omega)])) (fun z hz => by unfold fwFu; rw [if_neg (by omega)])
      · refine w_goto 67 dX12_nextRow_25 (by decide) ?_
        refine w_iinc [some (aR 12 0), some (aI (n : Int)), some (aI (((n : Int) - 1 - (c : Int)) + (-1))), none] dX12_nextRow_67 rfl rfl (by decide) ?_
        refine w_goto 4 dX12_nextRow_70 (by decide) ?_
        exact ih4 (by omega) _ (by omega) (fun z h1 h2 => (Nat.lt_or_ge i z).elim (fun q => hmx z (by omega) h2) (fun q => by rw [show z = i by omega]; omega))
  exact lp4 0 (by omega) _ (by omega) (fun z h1 h2 => absurd h2 (by omega))
end
section
set_option maxRecDepth 100000 in
set_option maxHeartbeats 4000000 in
theorem c_w_shapeOf {d : Nat} {h gg : fwH} {Q : Option fwV → fwH → Prop} (n : Nat) (J : cOk gg) (R : jF gg h) (K : jA gg h) (hsh : sc h) (hn : n ≤ 3) (hmt : 0 < gg 3 0 6) (k : ∀ v g, (-1000000000 ≤ v ∧ v ≤ 1000000000) → scr h g → Q (some (aI v)) g) : fwCt mX12_shapeOf (d + 6) [aR 12 0, aI (n : Int)] h Q := by
  refine fwCt_of [some (aR 12 0), some (aI (n : Int)), none, none, none, none] rfl rfl rfl ?_
  obtain ⟨hl, hP, hG, hM0, htd, hut, hlw, hhc, ha, hs, hT, hsc⟩ := id J
  have hb17 : hB (gg 17 0) := fun c hc => by have := hM0 c hc; omega
  obtain ⟨⟨g1, g2⟩, ⟨g3, g4⟩, ⟨g5, g6⟩, g7, -⟩ := id hG
  have h17_99 : ∀ c : Nat, (c : Int) < gg 4 0 1 → gg 17 0 c ≤ 99 := fun c hc => (hM0 c (by omega)).2
  have hpz := hP.1
  have hrs1 := R.2.2.2.2.2.2.2.2.2.2.2
  refine w_aload_n dX12_shapeOf_0 rfl ?_
  refine w_callV (d := d + 5) (S := []) [] dX12_shapeOf_1 ml_X12_240 ok_X12_asItIs vi_X12_asItIs rfl rfl (by decide) rfl (Nat.le_of_ble_eq_true rfl) ?_
  refine c_X12_asItIs (d := d) J R K (show 1 ≤ gg 4 0 1 by omega) (show 1 ≤ gg 4 0 3 by omega) ?_
  intro A1_1 hA1_1
  show fwWP mX12_shapeOf (d + 6) 4 [some (aR 12 0), some (aI (n : Int)), none, none, none, none] [] (fwUc h 42 0 A1_1) Q
  refine w_iconst dX12_shapeOf_4 ?_
  refine w_istore_n [some (aR 12 0), some (aI (n : Int)), some (aI 0), none, none, none] dX12_shapeOf_5 rfl (by decide) ?_
  have lp6 : ∀ c : Nat, c ≤ 3 → ∀ (y6 : Int) (r : Nat → Int), y6 = (c : Int) → (∀ z : Nat, z < c → r z = 0) → fwWP mX12_shapeOf (d + 6) 6 [some (aR 12 0), some (aI (n : Int)), some (aI y6), none, none, none] [] (fwUc (fwUc h 42 0 A1_1) 44 0 r) Q := by
    refine fw_up (fun c hc ih6 => ?_)
    intro y6 r ey6 hz0
    subst ey6
    show fwWP mX12_shapeOf (d + 6) 6 [some (aR 12 0), some (aI (n : Int)), some (aI (c : Int)), none, none, none] [] (fwUc (fwUc h 42 0 A1_1) 44 0 r) Q
    refine w_iload_n dX12_shapeOf_6 rfl ?_
    refine w_iconst dX12_shapeOf_7 ?_
    refine w_icmp_ge 24 dX12_shapeOf_8 (by decide) (by omega) (by omega) (fun c8 => ?_) (fun c8 => ?_)
    · refine w_ldcw (n := -1000000000) dX12_shapeOf_24 cs_X12_335 ?_
      refine w_istore_n [some (aR 12 0), some (aI (n : Int)), some (aI (-1000000000)), none, none, none] dX12_shapeOf_27 rfl (by decide) ?_
      have lp28 : ∀ c : Nat, c ≤ 1000 → ∀ (mo : Int) (A S B : Nat → Int), (-1000000000 ≤ mo ∧ mo ≤ 1000000000) → hiR (gg 4 0 1) A (gg 17 0) → sB (gg 4 0 1) S → (c : Int) ≤ m3 S → fwWP mX12_shapeOf (d + 6) 28 [some (aR 12 0), some (aI (n : Int)), some (aI mo), none, none, none] [] (HH h A S B) Q := by
        refine fw_up (fun c hc ih28 => ?_)
        intro mo A S B hmo hA hS hm
        have hm9 : m3 S ≤ 999 := by have q0 := hS 0 (by omega); have q1 := hS 1 (by omega); have q2 := hS 2 (by omega); unfold m3; omega
        refine w_aload_n dX12_shapeOf_28 rfl ?_
        refine w_iload_n dX12_shapeOf_29 rfl ?_
        refine w_callV (d := d + 5) (S := []) [aI (n : Int)] dX12_shapeOf_30 ml_X12_336 ok_X12_takeRow vi_X12_takeRow rfl rfl (by decide) rfl (Nat.le_of_ble_eq_true rfl) ?_
        refine c_w_takeRow (d := (d + 4)) n J R hn hA hS ?_
        intro t A1 ht hA1 hnn; rw [HH_42]
        show fwWP mX12_shapeOf (d + 6) 33 [some (aR 12 0), some (aI (n : Int)), some (aI mo), none, none, none] [aI (t : Int)] (HH h A1 S B) Q
        have hbt : hB (sbt (gg 17 0) S t) := fun z hz => ⟨hnn z hz, by have := sbt_le (gg 17 0) S t z; have := hM0 z hz; omega⟩
        refine w_istore_n [some (aR 12 0), some (aI (n : Int)), some (aI mo), some (aI (t : Int)), none, none] dX12_shapeOf_33 rfl (by decide) ?_
        refine w_iload_n dX12_shapeOf_34 rfl ?_
        refine w_iload_n dX12_shapeOf_35 rfl ?_
        refine w_icmp_ne 46 dX12_shapeOf_36 (by decide) (by omega) (by omega) (fun c36 => ?_) (fun c36 => ?_)
        · refine w_ldcw (n := -1000000000) dX12_shapeOf_46 cs_X12_335 ?_
          refine w_istore [some (aR 12 0), some (aI (n : Int)), some (aI mo), some (aI (t : Int)), some (aI (-1000000000)), none] dX12_shapeOf_49 rfl (by decide) ?_
          refine w_iconst dX12_shapeOf_51 ?_
          refine w_istore [some (aR 12 0), some (aI (n : Int)), some (aI mo), some (aI (t : Int)), some (aI (-1000000000)), some (aI 0)] dX12_shapeOf_52 rfl (by decide) ?_
          have lp54 : ∀ c5 : Nat, c5 ≤ t → ∀ A5 : Nat → Int, hiR (gg 4 0 1) A5 (rgv (gg 17 0) S t c5) → fwWP mX12_shapeOf (d + 6) 54 [some (aR 12 0), some (aI (n : Int)), some (aI mo), some (aI (t : Int)), some (aI (-1000000000)), some (aI (c5 : Int))] [] (HH h A5 S B) Q := by
            refine fw_up (fun c5 hc5 ih54 => ?_)
            intro A5 hA5
            refine w_iload dX12_shapeOf_54 rfl ?_
            refine w_iload_n dX12_shapeOf_56 rfl ?_
            refine w_icmp_ge 82 dX12_shapeOf_57 (by decide) (by omega) (by omega) (fun c57 => ?_) (fun c57 => ?_)
            · have ec5 : c5 = t := by omega
              rw [ec5, rgv_t] at hA5
              refine w_iload dX12_shapeOf_82 rfl ?_
              refine w_iload_n dX12_shapeOf_84 rfl ?_
              refine w_icmp_gt 91 dX12_shapeOf_85 (by decide) (by omega) (by omega) (fun c85 => ?_) (fun c85 => ?_)
              · refine w_iload dX12_shapeOf_91 rfl ?_
                refine w_istore_n [some (aR 12 0), some (aI (n : Int)), some (aI (-1000000000)), some (aI (t : Int)), some (aI (-1000000000)), some (aI (c5 : Int))] dX12_shapeOf_93 rfl (by decide) ?_
                refine w_iconst dX12_shapeOf_94 ?_
                refine w_istore [some (aR 12 0), some (aI (n : Int)), some (aI (-1000000000)), some (aI (t : Int)), some (aI (-1000000000)), some (aI 0)] dX12_shapeOf_95 rfl (by decide) ?_
                have lp97 : ∀ c6 : Nat, c6 ≤ n → ∀ B6 : Nat → Int, fwWP mX12_shapeOf (d + 6) 97 [some (aR 12 0), some (aI (n : Int)), some (aI (-1000000000)), some (aI (t : Int)), some (aI (-1000000000)), some (aI (c6 : Int))] [] (HH h A5 S B6) Q := by
                  refine fw_up (fun c6 hc6 ih97 => ?_)
                  intro B6
                  refine w_iload dX12_shapeOf_97 rfl ?_
                  refine w_iload_n dX12_shapeOf_99 rfl ?_
                  refine w_icmp_ge 123 dX12_shapeOf_100 (by decide) (by omega) (by omega) (fun c100 => ?_) (fun c100 => ?_)
                  · refine w_aload_n dX12_shapeOf_123 rfl ?_
                    refine w_iload_n dX12_shapeOf_124 rfl ?_
                    refine w_callV (d := d + 5) (S := []) [aI (n : Int)] dX12_shapeOf_125 ml_X12_339 ok_X12_nextRow vi_X12_nextRow rfl rfl (by decide) rfl (Nat.le_of_ble_eq_true rfl) ?_
                    refine c_w_nextRow (d := (d + 4)) n J R hn (by omega) hS ⟨?_, ?_⟩
                    · intro S2 hS2 hlt
                      have hlt2 : m3 S < m3 S2 := hlt
                      rw [HH_44]
                      show fwWP mX12_shapeOf (d + 6) 128 [some (aR 12 0), some (aI (n : Int)), some (aI (-1000000000)), some (aI (t : Int)), some (aI (-1000000000)), some (aI (c6 : Int))] [aI 1] (HH h A5 S2 B6) Q
                      refine w_if_ne 28 dX12_shapeOf_128 (by decide) (by omega) (fun c128 => ?_) (fun c128 => ?_)
                      · refine w_drop [3, 4, 5] [some (aR 12 0), some (aI (n : Int)), some (aI (-1000000000)), none, none, none] rfl ?_
                        exact ih28 (by omega) _ _ _ _ (by omega) hA5 hS2 (by omega)
                      · (exfalso; omega)
                    · show fwWP mX12_shapeOf (d + 6) 128 [some (aR 12 0), some (aI (n : Int)), some (aI (-1000000000)), some (aI (t : Int)), some (aI (-1000000000)), some (aI (c6 : Int))] [aI 0] (HH h A5 S B6) Q
                      refine w_if_ne 28 dX12_shapeOf_128 (by decide) (by omega) (fun c128 => ?_) (fun c128 => ?_)
                      · (exfalso; omega)
                      · refine w_iload_n dX12_shapeOf_131 rfl ?_
                        exact w_iret dX12_shapeOf_132 rfl (k _ _ (by omega) (scr_uc (scr_uc (scr_uc (scr_rf hsh) rfl (by decide) (by decide) (by decide)) rfl (by decide) (by decide) (by decide)) rfl (by decide) (by decide) (by decide)))
                  · refine w_aload_n dX12_shapeOf_103 rfl ?_
                    refine w_getr 45 0 dX12_shapeOf_104 fl_X12_44 rfl (by decide) ?_
                    refine w_iload dX12_shapeOf_107 rfl ?_
                    refine w_aload_n dX12_shapeOf_109 rfl ?_
                    refine w_getr 44 0 dX12_shapeOf_110 fl_X12_41 rfl (by decide) ?_
                    refine w_iload dX12_shapeOf_113 rfl ?_
                    refine w_ialdE (v := S c6) dX12_shapeOf_115 rfl (by decide) (by omega) (by omega) (by rw [show ((c6 : Int) : Int).toNat = c6 by omega]; rfl) ?_
                    refine w_iast dX12_shapeOf_116 rfl (by decide) (by omega) (by omega) ?_
                    refine w_iinc [some (aR 12 0), some (aI (n : Int)), some (aI (-1000000000)), some (aI (t : Int)), some (aI (-1000000000)), some (aI ((c6 : Int) + 1))] dX12_shapeOf_117 rfl rfl (by decide) ?_
                    refine w_goto 97 dX12_shapeOf_120 (by decide) ?_
                    rw [HH_p45]
                    exact ih97 (by omega) _
                exact lp97 0 (by omega) _
              · refine w_goto 123 dX12_shapeOf_88 (by decide) ?_
                refine w_aload_n dX12_shapeOf_123 rfl ?_
                refine w_iload_n dX12_shapeOf_124 rfl ?_
                refine w_callV (d := d + 5) (S := []) [aI (n : Int)] dX12_shapeOf_125 ml_X12_339 ok_X12_nextRow vi_X12_nextRow rfl rfl (by decide) rfl (Nat.le_of_ble_eq_true rfl) ?_
                refine c_w_nextRow (d := (d + 4)) n J R hn (by omega) hS ⟨?_, ?_⟩
                · intro S2 hS2 hlt
                  have hlt2 : m3 S < m3 S2 := hlt
                  rw [HH_44]
                  show fwWP mX12_shapeOf (d + 6) 128 [some (aR 12 0), some (aI (n : Int)), some (aI mo), some (aI (t : Int)), some (aI (-1000000000)), some (aI (c5 : Int))] [aI 1] (HH h A5 S2 B) Q
                  refine w_if_ne 28 dX12_shapeOf_128 (by decide) (by omega) (fun c128 => ?_) (fun c128 => ?_)
                  · refine w_drop [3, 4, 5] [some (aR 12 0), some (aI (n : Int)), some (aI mo), none, none, none] rfl ?_
                    exact ih28 (by omega) _ _ _ _ (by omega) hA5 hS2 (by omega)
                  · (exfalso; omega)
                · show fwWP mX12_shapeOf (d + 6) 128 [some (aR 12 0), some (aI (n : Int)), some (aI mo), some (aI (t : Int)), some (aI (-1000000000)), some (aI (c5 : Int))] [aI 0] (HH h A5 S B) Q
                  refine w_if_ne 28 dX12_shapeOf_128 (by decide) (by omega) (fun c128 => ?_) (fun c128 => ?_)
                  · (exfalso; omega)
                  · refine w_iload_n dX12_shapeOf_131 rfl ?_
                    exact w_iret dX12_shapeOf_132 rfl (k _ _ (by omega) (scr_uc (scr_uc (scr_uc (scr_rf hsh) rfl (by decide) (by decide) (by decide)) rfl (by decide) (by decide) (by decide)) rfl (by decide) (by decide) (by decide)))
            · have hs5 := hS c5 (by omega)
              refine w_aload_n dX12_shapeOf_60 rfl ?_
              refine w_getr 42 0 dX12_shapeOf_61 fl_X12_34 rfl (by decide) ?_
              refine w_aload_n dX12_shapeOf_64 rfl ?_
              refine w_getr 44 0 dX12_shapeOf_65 fl_X12_41 rfl (by decide) ?_
              refine w_iload dX12_shapeOf_68 rfl ?_
              refine w_ialdE (v := S c5) dX12_shapeOf_70 rfl (by decide) (by omega) (by omega) (by rw [show ((c5 : Int) : Int).toNat = c5 by omega]; rfl) ?_
              refine w_dup2 dX12_shapeOf_71 rfl rfl ?_
              refine w_ialdE (v := A5 (S c5).toNat) dX12_shapeOf_72 rfl (by decide) (by omega) (by omega) rfl ?_
              refine w_iconst dX12_shapeOf_73 ?_
              refine w_iadd dX12_shapeOf_74 ?_
              refine w_iast dX12_shapeOf_75 rfl (by decide) (by omega) (by omega) ?_
              refine w_iinc [some (aR 12 0), some (aI (n : Int)), some (aI mo), some (aI (t : Int)), some (aI (-1000000000)), some (aI ((c5 : Int) + 1))] dX12_shapeOf_76 rfl rfl (by decide) ?_
              refine w_goto 54 dX12_shapeOf_79 (by decide) ?_
              rw [HH_p42]
              exact ih54 (by omega) _ (by have := hiR_fu hA5 (S c5).toNat (A5 (S c5).toNat + 1); rw [hA5 (S c5).toNat (by omega)] at this ⊢; rw [rgv_s] at this; exact this)
          exact lp54 0 (by omega) _ (by rw [rgv_0]; exact hA1)
        · refine w_aload_n dX12_shapeOf_39 rfl ?_
          refine w_callV (d := d + 5) (S := []) [] dX12_shapeOf_40 ml_X12_251 ok_X12_gainOfAll vi_X12_gainOfAll rfl rfl (by decide) rfl (Nat.le_of_ble_eq_true rfl) ?_
          refine c_X12_gainOfAll (d := d) (sbt (gg 17 0) S t) J R hA1 hbt (by omega) ?_
          show fwWP mX12_shapeOf (d + 6) 43 [some (aR 12 0), some (aI (n : Int)), some (aI mo), some (aI (t : Int)), none, none] [aI (mSum (mGain (gg 4 0 1) (sbt (gg 17 0) S t) (gg 4 0 2) (gg 18 0)) (gg 5 0 3).toNat)] (HH h A1 S B) Q
          have hga := mSum_r2 J hbt (gg 5 0 3).toNat (by omega)
          refine w_goto 49 dX12_shapeOf_43 (by decide) ?_
          refine w_istore [some (aR 12 0), some (aI (n : Int)), some (aI mo), some (aI (t : Int)), some (aI (mSum (mGain (gg 4 0 1) (sbt (gg 17 0) S t) (gg 4 0 2) (gg 18 0)) (gg 5 0 3).toNat)), none] dX12_shapeOf_49 rfl (by decide) ?_
          refine w_iconst dX12_shapeOf_51 ?_
          refine w_istore [some (aR 12 0), some (aI (n : Int)), some (aI mo), some (aI (t : Int)), some (aI (mSum (mGain (gg 4 0 1) (sbt (gg 17 0) S t) (gg 4 0 2) (gg 18 0)) (gg 5 0 3).toNat)), some (aI 0)] dX12_shapeOf_52 rfl (by decide) ?_
          have lp54 : ∀ c5 : Nat, c5 ≤ t → ∀ A5 : Nat → Int, hiR (gg 4 0 1) A5 (rgv (gg 17 0) S t c5) → fwWP mX12_shapeOf (d + 6) 54 [some (aR 12 0), some (aI (n : Int)), some (aI mo), some (aI (t : Int)), some (aI (mSum (mGain (gg 4 0 1) (sbt (gg 17 0) S t) (gg 4 0 2) (gg 18 0)) (gg 5 0 3).toNat)), some (aI (c5 : Int))] [] (HH h A5 S B) Q := by
            refine fw_up (fun c5 hc5 ih54 => ?_)
            intro A5 hA5
            refine w_iload dX12_shapeOf_54 rfl ?_
            refine w_iload_n dX12_shapeOf_56 rfl ?_
            refine w_icmp_ge 82 dX12_shapeOf_57 (by decide) (by omega) (by omega) (fun c57 => ?_) (fun c57 => ?_)
            · have ec5 : c5 = t := by omega
              rw [ec5, rgv_t] at hA5
              refine w_iload dX12_shapeOf_82 rfl ?_
              refine w_iload_n dX12_shapeOf_84 rfl ?_
              refine w_icmp_gt 91 dX12_shapeOf_85 (by decide) (by omega) (by omega) (fun c85 => ?_) (fun c85 => ?_)
              · refine w_iload dX12_shapeOf_91 rfl ?_
                refine w_istore_n [some (aR 12 0), some (aI (n : Int)), some (aI (mSum (mGain (gg 4 0 1) (sbt (gg 17 0) S t) (gg 4 0 2) (gg 18 0)) (gg 5 0 3).toNat)), some (aI (t : Int)), some (aI (mSum (mGain (gg 4 0 1) (sbt (gg 17 0) S t) (gg 4 0 2) (gg 18 0)) (gg 5 0 3).toNat)), some (aI (c5 : Int))] dX12_shapeOf_93 rfl (by decide) ?_
                refine w_iconst dX12_shapeOf_94 ?_
                refine w_istore [some (aR 12 0), some (aI (n : Int)), some (aI (mSum (mGain (gg 4 0 1) (sbt (gg 17 0) S t) (gg 4 0 2) (gg 18 0)) (gg 5 0 3).toNat)), some (aI (t : Int)), some (aI (mSum (mGain (gg 4 0 1) (sbt (gg 17 0) S t) (gg 4 0 2) (gg 18 0)) (gg 5 0 3).toNat)), some (aI 0)] dX12_shapeOf_95 rfl (by decide) ?_
                have lp97 : ∀ c6 : Nat, c6 ≤ n → ∀ B6 : Nat → Int, fwWP mX12_shapeOf (d + 6) 97 [some (aR 12 0), some (aI (n : Int)), some (aI (mSum (mGain (gg 4 0 1) (sbt (gg 17 0) S t) (gg 4 0 2) (gg 18 0)) (gg 5 0 3).toNat)), some (aI (t : Int)), some (aI (mSum (mGain (gg 4 0 1) (sbt (gg 17 0) S t) (gg 4 0 2) (gg 18 0)) (gg 5 0 3).toNat)), some (aI (c6 : Int))] [] (HH h A5 S B6) Q := by
                  refine fw_up (fun c6 hc6 ih97 => ?_)
                  intro B6
                  refine w_iload dX12_shapeOf_97 rfl ?_
                  refine w_iload_n dX12_shapeOf_99 rfl ?_
                  refine w_icmp_ge 123 dX12_shapeOf_100 (by decide) (by omega) (by omega) (fun c100 => ?_) (fun c100 => ?_)
                  · refine w_aload_n dX12_shapeOf_123 rfl ?_
                    refine w_iload_n dX12_shapeOf_124 rfl ?_
                    refine w_callV (d := d + 5) (S := []) [aI (n : Int)] dX12_shapeOf_125 ml_X12_339 ok_X12_nextRow vi_X12_nextRow rfl rfl (by decide) rfl (Nat.le_of_ble_eq_true rfl) ?_
                    refine c_w_nextRow (d := (d + 4)) n J R hn (by omega) hS ⟨?_, ?_⟩
                    · intro S2 hS2 hlt
                      have hlt2 : m3 S < m3 S2 := hlt
                      rw [HH_44]
                      show fwWP mX12_shapeOf (d + 6) 128 [some (aR 12 0), some (aI (n : Int)), some (aI (mSum (mGain (gg 4 0 1) (sbt (gg 17 0) S t) (gg 4 0 2) (gg 18 0)) (gg 5 0 3).toNat)), some (aI (t : Int)), some (aI (mSum (mGain (gg 4 0 1) (sbt (gg 17 0) S t) (gg 4 0 2) (gg 18 0)) (gg 5 0 3).toNat)), some (aI (c6 : Int))] [aI 1] (HH h A5 S2 B6) Q
                      refine w_if_ne 28 dX12_shapeOf_128 (by decide) (by omega) (fun c128 => ?_) (fun c128 => ?_)
                      · refine w_drop [3, 4, 5] [some (aR 12 0), some (aI (n : Int)), some (aI (mSum (mGain (gg 4 0 1) (sbt (gg 17 0) S t) (gg 4 0 2) (gg 18 0)) (gg 5 0 3).toNat)), none, none, none] rfl ?_
                        exact ih28 (by omega) _ _ _ _ (by omega) hA5 hS2 (by omega)
                      · (exfalso; omega)
                    · show fwWP mX12_shapeOf (d + 6) 128 [some (aR 12 0), some (aI (n : Int)), some (aI (mSum (mGain (gg 4 0 1) (sbt (gg 17 0) S t) (gg 4 0 2) (gg 18 0)) (gg 5 0 3).toNat)), some (aI (t : Int)), some (aI (mSum (mGain (gg 4 0 1) (sbt (gg 17 0) S t) (gg 4 0 2) (gg 18 0)) (gg 5 0 3).toNat)), some (aI (c6 : Int))] [aI 0] (HH h A5 S B6) Q
                      refine w_if_ne 28 dX12_shapeOf_128 (by decide) (by omega) (fun c128 => ?_) (fun c128 => ?_)
                      · (exfalso; omega)
                      · refine w_iload_n dX12_shapeOf_131 rfl ?_
                        exact w_iret dX12_shapeOf_132 rfl (k _ _ (by omega) (scr_uc (scr_uc (scr_uc (scr_rf hsh) rfl (by decide) (by decide) (by decide)) rfl (by decide) (by decide) (by decide)) rfl (by decide) (by decide) (by decide)))
                  · refine w_aload_n dX12_shapeOf_103 rfl ?_
                    refine w_getr 45 0 dX12_shapeOf_104 fl_X12_44 rfl (by decide) ?_
                    refine w_iload dX12_shapeOf_107 rfl ?_
                    refine w_aload_n dX12_shapeOf_109 rfl ?_
                    refine w_getr 44 0 dX12_shapeOf_110 fl_X12_41 rfl (by decide) ?_
                    refine w_iload dX12_shapeOf_113 rfl ?_
                    refine w_ialdE (v := S c6) dX12_shapeOf_115 rfl (by decide) (by omega) (by omega) (by rw [show ((c6 : Int) : Int).toNat = c6 by omega]; rfl) ?_
                    refine w_iast dX12_shapeOf_116 rfl (by decide) (by omega) (by omega) ?_
                    refine w_iinc [some (aR 12 0), some (aI (n : Int)), some (aI (mSum (mGain (gg 4 0 1) (sbt (gg 17 0) S t) (gg 4 0 2) (gg 18 0)) (gg 5 0 3).toNat)), some (aI (t : Int)), some (aI (mSum (mGain (gg 4 0 1) (sbt (gg 17 0) S t) (gg 4 0 2) (gg 18 0)) (gg 5 0 3).toNat)), some (aI ((c6 : Int) + 1))] dX12_shapeOf_117 rfl rfl (by decide) ?_
                    refine w_goto 97 dX12_shapeOf_120 (by decide) ?_
                    rw [HH_p45]
                    exact ih97 (by omega) _
                exact lp97 0 (by omega) _
              · refine w_goto 123 dX12_shapeOf_88 (by decide) ?_
                refine w_aload_n dX12_shapeOf_123 rfl ?_
                refine w_iload_n dX12_shapeOf_124 rfl ?_
                refine w_callV (d := d + 5) (S := []) [aI (n : Int)] dX12_shapeOf_125 ml_X12_339 ok_X12_nextRow vi_X12_nextRow rfl rfl (by decide) rfl (Nat.le_of_ble_eq_true rfl) ?_
                refine c_w_nextRow (d := (d + 4)) n J R hn (by omega) hS ⟨?_, ?_⟩
                · intro S2 hS2 hlt
                  have hlt2 : m3 S < m3 S2 := hlt
                  rw [HH_44]
                  show fwWP mX12_shapeOf (d + 6) 128 [some (aR 12 0), some (aI (n : Int)), some (aI mo), some (aI (t : Int)), some (aI (mSum (mGain (gg 4 0 1) (sbt (gg 17 0) S t) (gg 4 0 2) (gg 18 0)) (gg 5 0 3).toNat)), some (aI (c5 : Int))] [aI 1] (HH h A5 S2 B) Q
                  refine w_if_ne 28 dX12_shapeOf_128 (by decide) (by omega) (fun c128 => ?_) (fun c128 => ?_)
                  · refine w_drop [3, 4, 5] [some (aR 12 0), some (aI (n : Int)), some (aI mo), none, none, none] rfl ?_
                    exact ih28 (by omega) _ _ _ _ (by omega) hA5 hS2 (by omega)
                  · (exfalso; omega)
                · show fwWP mX12_shapeOf (d + 6) 128 [some (aR 12 0), some (aI (n : Int)), some (aI mo), some (aI (t : Int)), some (aI (mSum (mGain (gg 4 0 1) (sbt (gg 17 0) S t) (gg 4 0 2) (gg 18 0)) (gg 5 0 3).toNat)), some (aI (c5 : Int))] [aI 0] (HH h A5 S B) Q
                  refine w_if_ne 28 dX12_shapeOf_128 (by decide) (by omega) (fun c128 => ?_) (fun c128 => ?_)
                  · (exfalso; omega)
                  · refine w_iload_n dX12_shapeOf_131 rfl ?_
                    exact w_iret dX12_shapeOf_132 rfl (k _ _ (by omega) (scr_uc (scr_uc (scr_uc (scr_rf hsh) rfl (by decide) (by decide) (by decide)) rfl (by decide) (by decide) (by decide)) rfl (by decide) (by decide) (by decide)))
            · have hs5 := hS c5 (by omega)
              refine w_aload_n dX12_shapeOf_60 rfl ?_
              refine w_getr 42 0 dX12_shapeOf_61 fl_X12_34 rfl (by decide) ?_
              refine w_aload_n dX12_shapeOf_64 rfl ?_
              refine w_getr 44 0 dX12_shapeOf_65 fl_X12_41 rfl (by decide) ?_
              refine w_iload dX12_shapeOf_68 rfl ?_
              refine w_ialdE (v := S c5) dX12_shapeOf_70 rfl (by decide) (by omega) (by omega) (by rw [show ((c5 : Int) : Int).toNat = c5 by omega]; rfl) ?_
              refine w_dup2 dX12_shapeOf_71 rfl rfl ?_
              refine w_ialdE (v := A5 (S c5).toNat) dX12_shapeOf_72 rfl (by decide) (by omega) (by omega) rfl ?_
              refine w_iconst dX12_shapeOf_73 ?_
              refine w_iadd dX12_shapeOf_74 ?_
              refine w_iast dX12_shapeOf_75 rfl (by decide) (by omega) (by omega) ?_
              refine w_iinc [some (aR 12 0), some (aI (n : Int)), some (aI mo), some (aI (t : Int)), some (aI (mSum (mGain (gg 4 0 1) (sbt (gg 17 0) S t) (gg 4 0 2) (gg 18 0)) (gg 5 0 3).toNat)), some (aI ((c5 : Int) + 1))] dX12_shapeOf_76 rfl rfl (by decide) ?_
              refine w_goto 54 dX12_shapeOf_79 (by decide) ?_
              rw [HH_p42]
              exact ih54 (by omega) _ (by have := hiR_fu hA5 (S c5).toNat (A5 (S c5).toNat + 1); rw [hA5 (S c5).toNat (by omega)] at this ⊢; rw [rgv_s] at this; exact this)
          exact lp54 0 (by omega) _ (by rw [rgv_0]; exact hA1)
      rw [HH_in]
      exact lp28 0 (by omega) _ _ _ _ (by omega) hA1_1 (fun i hi => by rw [hz0 i (by omega)]; omega) (by unfold m3; rw [hz0 0 (by omega), hz0 1 (by omega), hz0 2 (by omega)]; omega)
    · refine w_aload_n dX12_shapeOf_11 rfl ?_
      refine w_getr 44 0 dX12_shapeOf_12 fl_X12_41 rfl (by decide) ?_
      refine w_iload_n dX12_shapeOf_15 rfl ?_
      refine w_iconst dX12_shapeOf_16 ?_
      refine w_iast dX12_shapeOf_17 rfl (by decide) (by omega) (by omega) ?_
      refine w_iinc [some (aR 12 0), some (aI (n : Int)), some (aI ((c : Int) + 1)), none, none, none] dX12_shapeOf_18 rfl rfl (by decide) ?_
      refine w_goto 6 dX12_shapeOf_21 (by decide) ?_
      rw [fwUp_uc, Int.toNat_natCast]
      exact ih6 (by omega) _ _ (by omega) (fun z hz => by unfold fwFu; exact (Decidable.em (z = c)).elim (fun e => by rw [if_pos e]) (fun e => by rw [if_neg e]; exact hz0 z (by omega)))
  have e44 := fwUc_self (fwUc h 42 0 A1_1) 44 0
  rw [← e44]
  exact lp6 0 (by omega) _ _ rfl (fun z hz => absurd hz (by omega))
theorem c_w_shapeE {d : Nat} {h gg : fwH} {Q : Option fwV → fwH → Prop} (x : Int) (J : cOk gg) (R : jF gg h) (K : jA gg h) (hsh : sc h) (hx : 0 ≤ x ∧ x ≤ 3) (hmt : 0 < gg 3 0 6) (k : ∀ v g, (-1000000000 ≤ v ∧ v ≤ 1000000000) → scr h g → Q (some (aI v)) g) : fwCt mX12_shapeOf (d + 6) [aR 12 0, aI x] h Q := by
  obtain ⟨n, rfl⟩ : ∃ n : Nat, x = (n : Int) := ⟨x.toNat, by omega⟩
  exact c_w_shapeOf n J R K hsh (by omega) hmt k
set_option maxRecDepth 100000 in
set_option maxHeartbeats 4000000 in
theorem c_w_shape {d : Nat} {h gg : fwH} {Q : Option fwV → fwH → Prop} (x : Int) (J : cOk gg) (R : jF gg h) (K : jA gg h) (hsh : sc h) (hx : -2147483648 ≤ x ∧ x < 2147483648) (k : ∀ v g, scr h g → Q (some (aI v)) g) : fwCt mX12_shape (d + 7) [aR 12 0, aI x] h Q := by
  refine fwCt_of [some (aR 12 0), some (aI x), none] rfl rfl rfl ?_
  obtain ⟨hl, hP, hG, hM0, htd, hut, hlw, hhc, ha, hs, hT, hsc⟩ := id J
  have hb17 : hB (gg 17 0) := fun c hc => by have := hM0 c hc; omega
  obtain ⟨⟨g1, g2⟩, ⟨g3, g4⟩, ⟨g5, g6⟩, g7, -⟩ := id hG
  have h17_99 : ∀ c : Nat, (c : Int) < gg 4 0 1 → gg 17 0 c ≤ 99 := fun c hc => (hM0 c (by omega)).2
  have hpz := hP.1
  have hrs1 := R.2.2.2.2.2.2.2.2.2.2.2
  refine w_aload_n dX12_shape_0 rfl ?_
  refine w_callV (d := d + 6) (S := []) [] dX12_shape_1 ml_X12_73 ok_X12_isMount vi_X12_isMount rfl rfl (by decide) rfl (Nat.le_of_ble_eq_true rfl) ?_
  refine c_X12_isMount (d := (d + 6)) J R ?_
  show fwWP mX12_shape (d + 7) 4 [some (aR 12 0), some (aI x), none] [aI (fwB (0 < gg 3 0 6))] h Q
  refine w_ifB_eq 19 dX12_shape_4 (by decide) (fun c4 => ?_) (fun c4 => ?_)
  · refine w_bipush dX12_shape_19 rfl ?_
    exact w_iret dX12_shape_21 rfl (k _ _ (scr_rf hsh))
  · refine w_iload_n dX12_shape_7 rfl ?_
    refine w_i2l dX12_shape_8 (by omega) ?_
    refine w_lconst (z := 0) dX12_shape_9 rfl ?_
    refine w_ldc2 (n := 3) dX12_shape_10 cs_X12_342 ?_
    refine w_callS (d := d + 6) (S := []) [aJ x, aJ 0, aJ 3] dX12_shape_13 ml_X12_65 ok_X12_in st_X12_in rfl (Nat.le_of_ble_eq_true rfl) ?_
    refine c_X12_in (d := (d + 6)) x 0 3 (by omega) (by omega) (by omega) ?_
    show fwWP mX12_shape (d + 7) 16 [some (aR 12 0), some (aI x), none] [aI (fwB (0 ≤ x ∧ x ≤ 3))] h Q
    refine w_ifB_ne 22 dX12_shape_16 (by decide) (fun c16 => ?_) (fun c16 => ?_)
    · refine w_aload_n dX12_shape_22 rfl ?_
      refine w_iload_n dX12_shape_23 rfl ?_
      refine w_callV (d := d + 6) (S := []) [aI x] dX12_shape_24 ml_X12_344 ok_X12_shapeOf vi_X12_shapeOf rfl rfl (by decide) rfl (Nat.le_of_ble_eq_true rfl) ?_
      refine c_w_shapeE (d := d) x J R K hsh (by omega) (by omega) ?_
      intro v3 g3 hv3 sg3
      show fwWP mX12_shape (d + 7) 27 [some (aR 12 0), some (aI x), none] [aI v3] g3 Q
      refine w_istore_n [some (aR 12 0), some (aI x), some (aI v3)] dX12_shape_27 rfl (by decide) ?_
      refine w_iload_n dX12_shape_28 rfl ?_
      refine w_ldcw (n := -1000000000) dX12_shape_29 cs_X12_335 ?_
      refine w_icmp_ne 40 dX12_shape_32 (by decide) (by omega) (by omega) (fun c32 => ?_) (fun c32 => ?_)
      · refine w_iload_n dX12_shape_40 rfl ?_
        exact w_iret dX12_shape_41 rfl (k _ _ (sg3))
      · refine w_bipush dX12_shape_35 rfl ?_
        refine w_goto 41 dX12_shape_37 (by decide) ?_
        exact w_iret dX12_shape_41 rfl (k _ _ (sg3))
    · refine w_bipush dX12_shape_19 rfl ?_
      exact w_iret dX12_shape_21 rfl (k _ _ (scr_rf hsh))
set_option maxRecDepth 100000 in
set_option maxHeartbeats 4000000 in
theorem c_w_shaped {d : Nat} {h gg : fwH} {Q : Option fwV → fwH → Prop} (x : Int) (y : Int) (J : cOk gg) (R : jF gg h) (K : jA gg h) (hsh : sc h) (hx : -2147483648 ≤ x ∧ x < 2147483648) (hy : -2147483648 ≤ y ∧ y < 2147483648) (k : ∀ v g, scr h g → Q (some (aI v)) g) : fwCt mX12_shaped (d + 7) [aR 12 0, aI x, aI y] h Q := by
  refine fwCt_of [some (aR 12 0), some (aI x), some (aI y)] rfl rfl rfl ?_
  obtain ⟨hl, hP, hG, hM0, htd, hut, hlw, hhc, ha, hs, hT, hsc⟩ := id J
  have hb17 : hB (gg 17 0) := fun c hc => by have := hM0 c hc; omega
  obtain ⟨⟨g1, g2⟩, ⟨g3, g4⟩, ⟨g5, g6⟩, g7, -⟩ := id hG
  have h17_99 : ∀ c : Nat, (c : Int) < gg 4 0 1 → gg 17 0 c ≤ 99 := fun c hc => (hM0 c (by omega)).2
  have hpz := hP.1
  have hrs1 := R.2.2.2.2.2.2.2.2.2.2.2
  refine w_aload_n dX12_shaped_0 rfl ?_
  refine w_callV (d := d + 6) (S := []) [] dX12_shaped_1 ml_X12_73 ok_X12_isMount vi_X12_isMount rfl rfl (by decide) rfl (Nat.le_of_ble_eq_true rfl) ?_
  refine c_X12_isMount (d := (d + 6)) J R ?_
  show fwWP mX12_shaped (d + 7) 4 [some (aR 12 0), some (aI x), some (aI y)] [aI (fwB (0 < gg 3 0 6))] h Q
  refine w_ifB_eq 30 dX12_shaped_4 (by decide) (fun c4 => ?_) (fun c4 => ?_)
  · refine w_bipush dX12_shaped_30 rfl ?_
    exact w_iret dX12_shaped_32 rfl (k _ _ (scr_rf hsh))
  · refine w_iload_n dX12_shaped_7 rfl ?_
    refine w_i2l dX12_shaped_8 (by omega) ?_
    refine w_lconst (z := 0) dX12_shaped_9 rfl ?_
    refine w_ldc2 (n := 3) dX12_shaped_10 cs_X12_342 ?_
    refine w_callS (d := d + 6) (S := []) [aJ x, aJ 0, aJ 3] dX12_shaped_13 ml_X12_65 ok_X12_in st_X12_in rfl (Nat.le_of_ble_eq_true rfl) ?_
    refine c_X12_in (d := (d + 6)) x 0 3 (by omega) (by omega) (by omega) ?_
    show fwWP mX12_shaped (d + 7) 16 [some (aR 12 0), some (aI x), some (aI y)] [aI (fwB (0 ≤ x ∧ x ≤ 3))] h Q
    refine w_ifB_eq 30 dX12_shaped_16 (by decide) (fun c16 => ?_) (fun c16 => ?_)
    · refine w_bipush dX12_shaped_30 rfl ?_
      exact w_iret dX12_shaped_32 rfl (k _ _ (scr_rf hsh))
    · refine w_aload_n dX12_shaped_19 rfl ?_
      refine w_iload_n dX12_shaped_20 rfl ?_
      refine w_callV (d := d + 6) (S := []) [aI x] dX12_shaped_21 ml_X12_344 ok_X12_shapeOf vi_X12_shapeOf rfl rfl (by decide) rfl (Nat.le_of_ble_eq_true rfl) ?_
      refine c_w_shapeE (d := d) x J R K hsh (by omega) (by omega) ?_
      intro v3 g3 hv3 sg3
      show fwWP mX12_shaped (d + 7) 24 [some (aR 12 0), some (aI x), some (aI y)] [aI v3] g3 Q
      refine w_ldcw (n := -1000000000) dX12_shaped_24 cs_X12_335 ?_
      refine w_icmp_ne 33 dX12_shaped_27 (by decide) (by omega) (by omega) (fun c27 => ?_) (fun c27 => ?_)
      · refine w_iload_n dX12_shaped_33 rfl ?_
        refine w_i2l dX12_shaped_34 (by omega) ?_
        refine w_lconst (z := 0) dX12_shaped_35 rfl ?_
        refine w_iload_n dX12_shaped_36 rfl ?_
        refine w_iconst dX12_shaped_37 ?_
        refine w_isub dX12_shaped_38 ?_
        refine w_i2l dX12_shaped_39 (by omega) ?_
        refine w_callS (d := d + 6) (S := []) [aJ y, aJ 0, aJ (x - 1)] dX12_shaped_40 ml_X12_65 ok_X12_in st_X12_in rfl (Nat.le_of_ble_eq_true rfl) ?_
        refine c_X12_in (d := (d + 6)) y 0 (x - 1) (by omega) (by omega) (by omega) ?_
        show fwWP mX12_shaped (d + 7) 43 [some (aR 12 0), some (aI x), some (aI y)] [aI (fwB (0 ≤ y ∧ y ≤ (x - 1)))] g3 Q
        refine w_ifB_eq 55 dX12_shaped_43 (by decide) (fun c43 => ?_) (fun c43 => ?_)
        · refine w_iconst dX12_shaped_55 ?_
          exact w_iret dX12_shaped_56 rfl (k _ _ (sg3))
        · refine w_aload_n dX12_shaped_46 rfl ?_
          refine w_getr 45 0 dX12_shaped_47 fl_X12_44 rfl (by decide) ?_
          refine w_iload_n dX12_shaped_50 rfl ?_
          refine w_iald dX12_shaped_51 rfl (by decide) (by omega) (by omega) ?_
          refine w_goto 56 dX12_shaped_52 (by decide) ?_
          exact w_iret dX12_shaped_56 rfl (k _ _ (sg3))
      · refine w_bipush dX12_shaped_30 rfl ?_
        exact w_iret dX12_shaped_32 rfl (k _ _ (sg3))
end
section
section FREE
variable {M : fwM} {d pc : Nat} {L : List (Option fwV)} {S : List fwV} {h : fwH} {Q : Option fwV → fwH → Prop}
theorem w_ifF_eq {x off : Int} (tgt : Nat) (hd : decode M.2.1 pc = .ok (.ifCond .eq off, 3)) (ht : (pc : Int) + off = (tgt : Int)) (kt : fwWP M d tgt L S h Q) (kf : fwWP M d (pc + 3) L S h Q) : fwWP M d pc L (aI x :: S) h Q := by
  intro l p e s m args below meth c ad D tc H locs ls C X
  exact lv_if_eq C.1 C.2.1 hd ht (fun _ => kt l p e s m args below meth c ad D tc H locs ls C X) (fun _ => kf l p e s m args below meth c ad D tc H locs ls C X)
theorem w_ifF_ne {x off : Int} (tgt : Nat) (hd : decode M.2.1 pc = .ok (.ifCond .ne off, 3)) (ht : (pc : Int) + off = (tgt : Int)) (kt : fwWP M d tgt L S h Q) (kf : fwWP M d (pc + 3) L S h Q) : fwWP M d pc L (aI x :: S) h Q := by
  intro l p e s m args below meth c ad D tc H locs ls C X
  exact lv_if_ne C.1 C.2.1 hd ht (fun _ => kt l p e s m args below meth c ad D tc H locs ls C X) (fun _ => kf l p e s m args below meth c ad D tc H locs ls C X)
theorem w_icmpF_ne {x y off : Int} (tgt : Nat) (hd : decode M.2.1 pc = .ok (.if_icmp .ne off, 3)) (ht : (pc : Int) + off = (tgt : Int)) (kt : fwWP M d tgt L S h Q) (kf : fwWP M d (pc + 3) L S h Q) : fwWP M d pc L (aI y :: aI x :: S) h Q := by
  intro l p e s m args below meth c ad D tc H locs ls C X
  exact lv_icmp_ne C.1 C.2.1 hd ht (fun _ => kt l p e s m args below meth c ad D tc H locs ls C X) (fun _ => kf l p e s m args below meth c ad D tc H locs ls C X)
end FREE
set_option maxRecDepth 100000 in
set_option maxHeartbeats 4000000 in
theorem c_w_isWinners {d : Nat} {h : fwH} {Q : Option fwV → fwH → Prop} (x y : Int)  (k : ∀ v : Int, (v = 0 ∨ v = 1) → Q (some (aI v)) h) : fwCt mX12_isWinners (d + 0) [aI x, aI y] h Q := by
  refine fwCt_of [some (aI x), some (aI y)] rfl rfl rfl ?_
  refine w_iload_n dX12_isWinners_0 rfl ?_
  refine w_iconst dX12_isWinners_1 ?_
  refine w_irem dX12_isWinners_2 (by omega) (by omega) ?_
  refine w_iload_n dX12_isWinners_3 rfl ?_
  refine w_icmpF_ne 11 dX12_isWinners_4 (by decide) ?_ ?_
  · refine w_iconst dX12_isWinners_11 ?_
    exact w_zret dX12_isWinners_12 rfl (by omega) (k _ (by omega))
  · refine w_iconst dX12_isWinners_7 ?_
    refine w_goto 12 dX12_isWinners_8 (by decide) ?_
    exact w_zret dX12_isWinners_12 rfl (by omega) (k _ (by omega))
set_option maxRecDepth 100000 in
set_option maxHeartbeats 4000000 in
theorem c_X12_pair {d : Nat} {h : fwH} {Q : Option fwV → fwH → Prop} (x y : Int)  (k : Q (some (aI (256 * x + y))) h) : fwCt mX12_pair (d + 0) [aI x, aI y] h Q := by
  refine fwCt_of [some (aI x), some (aI y)] rfl rfl rfl ?_
  refine w_sipush dX12_pair_0 rfl ?_
  refine w_iload_n dX12_pair_3 rfl ?_
  refine w_imul dX12_pair_4 ?_
  refine w_iload_n dX12_pair_5 rfl ?_
  refine w_iadd dX12_pair_6 ?_
  exact w_iretE dX12_pair_7 rfl (by rfl) k
theorem shl_c8 {c : Nat} (hc : c < 8) : fwShl 1 (c : Int) < 256 := by
  have key : ∀ c : Nat, c < 8 → fwShl 1 (c : Int) < 256 := by decide +kernel
  exact key c hc
set_option maxRecDepth 100000 in
set_option maxHeartbeats 4000000 in
theorem c_w_endBy {d : Nat} {h gg : fwH} {Q : Option fwV → fwH → Prop} (x y u v wl : Int) (J : cOk gg) (R : jF gg h) (hx : 0 ≤ x ∧ x < 256) (hy : 0 ≤ y ∧ y < 256) (hu : 0 ≤ u ∧ u ≤ 4) (hw8 : 0 ≤ wl ∧ wl < 256) (k : ∀ b : Int, (b = 0 ∨ b = 1) → Q (some (aI b)) h) : fwCt mX12_endBy (d + 3) [aR 12 0, aI x, aI y, aI u, aI v, aI wl] h Q := by
  refine fwCt_of [some (aR 12 0), some (aI x), some (aI y), some (aI u), some (aI v), some (aI wl), none, none, none, none] rfl rfl rfl ?_
  obtain ⟨hl, hP, hG, -, -, -, hlw, -, ha, hs, -, hsc⟩ := id J
  obtain ⟨⟨g1, g2⟩, ⟨g3, g4⟩, ⟨g5, g6⟩, g7, -⟩ := id hG
  have hpz := hP.1
  refine w_iload_n dX12_endBy_0 rfl ?_
  refine w_callS (d := d + 2) (S := []) [aI x] dX12_endBy_1 ml_X12_229 ok_X12_bits st_X12_bits rfl (Nat.le_of_ble_eq_true rfl) ?_
  refine c_bitsP (d := (d + 2)) x (by first | assumption | omega | decide) ?_
  show fwWP mX12_endBy (d + 3) 4 [some (aR 12 0), some (aI x), some (aI y), some (aI u), some (aI v), some (aI wl), none, none, none, none] [aI (fwPop x)] h Q
  have hpp1 := fwPop_rng x
  refine w_iload_n dX12_endBy_4 rfl ?_
  refine w_callS (d := d + 2) (S := [aI (fwPop x)]) [aI y] dX12_endBy_5 ml_X12_229 ok_X12_bits st_X12_bits rfl (Nat.le_of_ble_eq_true rfl) ?_
  refine c_bitsP (d := (d + 2)) y (by first | assumption | omega | decide) ?_
  show fwWP mX12_endBy (d + 3) 8 [some (aR 12 0), some (aI x), some (aI y), some (aI u), some (aI v), some (aI wl), none, none, none, none] [aI (fwPop y), aI (fwPop x)] h Q
  have hpp2 := fwPop_rng y
  refine w_iadd dX12_endBy_8 ?_
  refine w_istore [some (aR 12 0), some (aI x), some (aI y), some (aI u), some (aI v), some (aI wl), some (aI ((fwPop x) + (fwPop y))), none, none, none] dX12_endBy_9 rfl (by decide) ?_
  refine w_iload dX12_endBy_11 rfl ?_
  refine w_iconst dX12_endBy_13 ?_
  refine w_iload_n dX12_endBy_14 rfl ?_
  refine w_imul dX12_endBy_15 ?_
  refine w_aload_n dX12_endBy_16 rfl ?_
  refine w_getr 36 0 dX12_endBy_17 fl_X12_9 rfl (by decide) ?_
  refine w_bipush dX12_endBy_20 rfl ?_
  refine w_ialdE (v := gg 5 0 3) dX12_endBy_22 rfl (by decide) (by omega) (by omega) R.2.2.2.2.2.2.1 ?_
  refine w_min (d := d + 2) (S := [aI ((fwPop x) + (fwPop y))]) dX12_endBy_23 ml_X12_112 (by omega) (by omega) (Nat.le_of_ble_eq_true rfl) ?_
  refine w_icmp_lt 43 dX12_endBy_26 (by decide) (by omega) (by omega) (fun c26 => ?_) (fun c26 => ?_)
  · refine w_iload dX12_endBy_43 rfl ?_
    refine w_iload dX12_endBy_45 rfl ?_
    refine w_callS (d := d + 2) (S := []) [aI ((fwPop x) + (fwPop y)), aI v] dX12_endBy_47 ml_X12_279 ok_X12_isWinners st_X12_isWinners rfl (Nat.le_of_ble_eq_true rfl) ?_
    refine c_w_isWinners (d := (d + 2)) ((fwPop x) + (fwPop y)) v ?_
    intro b4 hb4
    show fwWP mX12_endBy (d + 3) 50 [some (aR 12 0), some (aI x), some (aI y), some (aI u), some (aI v), some (aI wl), some (aI ((fwPop x) + (fwPop y))), none, none, none] [aI b4] h Q
    refine w_istore [some (aR 12 0), some (aI x), some (aI y), some (aI u), some (aI v), some (aI wl), some (aI ((fwPop x) + (fwPop y))), some (aI b4), none, none] dX12_endBy_50 rfl (by decide) ?_
    refine w_iconst dX12_endBy_52 ?_
    refine w_istore [some (aR 12 0), some (aI x), some (aI y), some (aI u), some (aI v), some (aI wl), some (aI ((fwPop x) + (fwPop y))), some (aI b4), some (aI 0), none] dX12_endBy_53 rfl (by decide) ?_
    have lp55 : ∀ c : Nat, c ≤ (gg 5 0 3).toNat → ∀ (y55  : Int), y55 = (c : Int) → fwWP mX12_endBy (d + 3) 55 [some (aR 12 0), some (aI x), some (aI y), some (aI u), some (aI v), some (aI wl), some (aI ((fwPop x) + (fwPop y))), some (aI b4), some (aI y55), none] [] h Q := by
      refine fw_up (fun c hc55 ih55 => ?_)
      intro y55  ey55
      subst ey55
      show fwWP mX12_endBy (d + 3) 55 [some (aR 12 0), some (aI x), some (aI y), some (aI u), some (aI v), some (aI wl), some (aI ((fwPop x) + (fwPop y))), some (aI b4), some (aI (c : Int)), none] [] h Q
      refine w_iload dX12_endBy_55 rfl ?_
      refine w_aload_n dX12_endBy_57 rfl ?_
      refine w_getr 36 0 dX12_endBy_58 fl_X12_9 rfl (by decide) ?_
      refine w_bipush dX12_endBy_61 rfl ?_
      refine w_ialdE (v := gg 5 0 3) dX12_endBy_63 rfl (by decide) (by omega) (by omega) R.2.2.2.2.2.2.1 ?_
      refine w_icmp_ge 138 dX12_endBy_64 (by decide) (by omega) (by omega) (fun c64 => ?_) (fun c64 => ?_)
      · refine w_iload dX12_endBy_138 rfl ?_
        refine w_ifF_ne 147 dX12_endBy_140 (by decide) ?_ ?_
        · refine w_iconst dX12_endBy_147 ?_
          exact w_zret dX12_endBy_148 rfl (by omega) (k _ (by omega))
        · refine w_iconst dX12_endBy_143 ?_
          refine w_goto 148 dX12_endBy_144 (by decide) ?_
          exact w_zret dX12_endBy_148 rfl (by omega) (k _ (by omega))
      · refine w_iload_n dX12_endBy_67 rfl ?_
        refine w_iload_n dX12_endBy_68 rfl ?_
        refine w_ior dX12_endBy_69 ?_
        refine w_iload dX12_endBy_70 rfl ?_
        refine w_callS (d := d + 2) (S := []) [aI (fwOr x y), aI (c : Int)] dX12_endBy_72 ml_X12_257 ok_X12_bit st_X12_bit rfl (Nat.le_of_ble_eq_true rfl) ?_
        refine c_X12_bit (d := (d + 2)) (fwOr x y) (c : Int) ?_
        show fwWP mX12_endBy (d + 3) 75 [some (aR 12 0), some (aI x), some (aI y), some (aI u), some (aI v), some (aI wl), some (aI ((fwPop x) + (fwPop y))), some (aI b4), some (aI (c : Int)), none] [aI (fwAnd (fwShr (fwOr x y) (c : Int)) 1)] h Q
        have hbt7 := bit_01 (fwOr x y) (c : Int)
        refine w_iconst dX12_endBy_75 ?_
        refine w_icmp_ne 82 dX12_endBy_76 (by decide) (by omega) (by omega) (fun c76 => ?_) (fun c76 => ?_)
        · have hf8 := shl_8 (x := (c : Int)) (by omega)
          have hf7 : fwShl 1 (c : Int) < 256 := shl_c8 (by omega)
          have hox := or_rg hx (y := fwShl 1 (c : Int)) (by omega)
          have hoy := or_rg hy (y := fwShl 1 (c : Int)) (by omega)
          refine w_iload dX12_endBy_82 rfl ?_
          refine w_ifF_eq 105 dX12_endBy_84 (by decide) ?_ ?_
          · refine w_aload_n dX12_endBy_105 rfl ?_
            refine w_getr 43 0 dX12_endBy_106 fl_X12_38 rfl (by decide) ?_
            refine w_iload_n dX12_endBy_109 rfl ?_
            refine w_iload_n dX12_endBy_110 rfl ?_
            refine w_iconst dX12_endBy_111 ?_
            refine w_iload dX12_endBy_112 rfl ?_
            refine w_ishl dX12_endBy_114 ?_
            refine w_ior dX12_endBy_115 ?_
            refine w_callS (d := d + 2) (S := [aR 43 0]) [aI x, aI (fwOr y (fwShl 1 (c : Int)))] dX12_endBy_116 ml_X12_282 ok_X12_pair st_X12_pair rfl (Nat.le_of_ble_eq_true rfl) ?_
            refine c_X12_pair (d := (d + 2)) x (fwOr y (fwShl 1 (c : Int))) ?_
            show fwWP mX12_endBy (d + 3) 119 [some (aR 12 0), some (aI x), some (aI y), some (aI u), some (aI v), some (aI wl), some (aI ((fwPop x) + (fwPop y))), some (aI b4), some (aI (c : Int)), none] [aI (256 * x + (fwOr y (fwShl 1 (c : Int)))), aR 43 0] h Q
            refine w_zald dX12_endBy_119 rfl (by decide) (by omega) (by omega) ?_
            refine w_istore [some (aR 12 0), some (aI x), some (aI y), some (aI u), some (aI v), some (aI wl), some (aI ((fwPop x) + (fwPop y))), some (aI b4), some (aI (c : Int)), some (aI (h 43 0 (256 * x + (fwOr y (fwShl 1 (c : Int)))).toNat))] dX12_endBy_120 rfl (by decide) ?_
            refine w_iload dX12_endBy_122 rfl ?_
            refine w_iload dX12_endBy_124 rfl ?_
            refine w_icmpF_ne 132 dX12_endBy_126 (by decide) ?_ ?_
            · refine w_iinc [some (aR 12 0), some (aI x), some (aI y), some (aI u), some (aI v), some (aI wl), some (aI ((fwPop x) + (fwPop y))), some (aI b4), some (aI ((c : Int) + 1)), some (aI (h 43 0 (256 * x + (fwOr y (fwShl 1 (c : Int)))).toNat))] dX12_endBy_132 rfl rfl (by decide) ?_
              refine w_goto 55 dX12_endBy_135 (by decide) ?_
              refine w_drop [9] [some (aR 12 0), some (aI x), some (aI y), some (aI u), some (aI v), some (aI wl), some (aI ((fwPop x) + (fwPop y))), some (aI b4), some (aI ((c : Int) + 1)), none] rfl ?_
              refine ih55 (by omega) _ ?_
              · exact (by omega)
            · refine w_iload dX12_endBy_129 rfl ?_
              exact w_zret dX12_endBy_131 rfl (by omega) (k _ (by omega))
          · refine w_aload_n dX12_endBy_87 rfl ?_
            refine w_getr 43 0 dX12_endBy_88 fl_X12_38 rfl (by decide) ?_
            refine w_iload_n dX12_endBy_91 rfl ?_
            refine w_iconst dX12_endBy_92 ?_
            refine w_iload dX12_endBy_93 rfl ?_
            refine w_ishl dX12_endBy_95 ?_
            refine w_ior dX12_endBy_96 ?_
            refine w_iload_n dX12_endBy_97 rfl ?_
            refine w_callS (d := d + 2) (S := [aR 43 0]) [aI (fwOr x (fwShl 1 (c : Int))), aI y] dX12_endBy_98 ml_X12_282 ok_X12_pair st_X12_pair rfl (Nat.le_of_ble_eq_true rfl) ?_
            refine c_X12_pair (d := (d + 2)) (fwOr x (fwShl 1 (c : Int))) y ?_
            show fwWP mX12_endBy (d + 3) 101 [some (aR 12 0), some (aI x), some (aI y), some (aI u), some (aI v), some (aI wl), some (aI ((fwPop x) + (fwPop y))), some (aI b4), some (aI (c : Int)), none] [aI (256 * (fwOr x (fwShl 1 (c : Int))) + y), aR 43 0] h Q
            refine w_zald dX12_endBy_101 rfl (by decide) (by omega) (by omega) ?_
            refine w_goto 120 dX12_endBy_102 (by decide) ?_
            refine w_istore [some (aR 12 0), some (aI x), some (aI y), some (aI u), some (aI v), some (aI wl), some (aI ((fwPop x) + (fwPop y))), some (aI b4), some (aI (c : Int)), some (aI (h 43 0 (256 * (fwOr x (fwShl 1 (c : Int))) + y).toNat))] dX12_endBy_120 rfl (by decide) ?_
            refine w_iload dX12_endBy_122 rfl ?_
            refine w_iload dX12_endBy_124 rfl ?_
            refine w_icmpF_ne 132 dX12_endBy_126 (by decide) ?_ ?_
            · refine w_iinc [some (aR 12 0), some (aI x), some (aI y), some (aI u), some (aI v), some (aI wl), some (aI ((fwPop x) + (fwPop y))), some (aI b4), some (aI ((c : Int) + 1)), some (aI (h 43 0 (256 * (fwOr x (fwShl 1 (c : Int))) + y).toNat))] dX12_endBy_132 rfl rfl (by decide) ?_
              refine w_goto 55 dX12_endBy_135 (by decide) ?_
              refine w_drop [9] [some (aR 12 0), some (aI x), some (aI y), some (aI u), some (aI v), some (aI wl), some (aI ((fwPop x) + (fwPop y))), some (aI b4), some (aI ((c : Int) + 1)), none] rfl ?_
              refine ih55 (by omega) _ ?_
              · exact (by omega)
            · refine w_iload dX12_endBy_129 rfl ?_
              exact w_zret dX12_endBy_131 rfl (by omega) (k _ (by omega))
        · refine w_goto 132 dX12_endBy_79 (by decide) ?_
          refine w_iinc [some (aR 12 0), some (aI x), some (aI y), some (aI u), some (aI v), some (aI wl), some (aI ((fwPop x) + (fwPop y))), some (aI b4), some (aI ((c : Int) + 1)), none] dX12_endBy_132 rfl rfl (by decide) ?_
          refine w_goto 55 dX12_endBy_135 (by decide) ?_
          refine ih55 (by omega) _ ?_
          · exact (by omega)
    refine lp55 0 (Nat.zero_le _) _ ?_
    · exact (by omega)
  · have ho8 := or_rg hw8 (y := x) (by omega)
    refine w_aload_n dX12_endBy_29 rfl ?_
    refine w_aload_n dX12_endBy_30 rfl ?_
    refine w_iload dX12_endBy_31 rfl ?_
    refine w_iload_n dX12_endBy_33 rfl ?_
    refine w_ior dX12_endBy_34 ?_
    refine w_iload_n dX12_endBy_35 rfl ?_
    refine w_callV (d := d + 2) (S := [aR 12 0]) [aI (fwOr wl x), aI y] dX12_endBy_36 ml_X12_270 ok_X12_signing vi_X12_signing rfl rfl (by decide) rfl (Nat.le_of_ble_eq_true rfl) ?_
    refine c_sgE (d := (d + 1)) (fwOr wl x) y J R (by omega) (by omega) ?_
    show fwWP mX12_endBy (d + 3) 39 [some (aR 12 0), some (aI x), some (aI y), some (aI u), some (aI v), some (aI wl), some (aI ((fwPop x) + (fwPop y))), none, none, none] [aI (mSign (gg 18 0) (gg 5 0 3).toNat (fwOr wl x) y), aR 12 0] h Q
    refine w_callV (d := d + 2) (S := []) [aI (mSign (gg 18 0) (gg 5 0 3).toNat (fwOr wl x) y)] dX12_endBy_39 ml_X12_273 ok_X12_isEnough vi_X12_isEnough rfl rfl (by decide) rfl (Nat.le_of_ble_eq_true rfl) ?_
    refine c_X12_isEnough (d := d) (mSign (gg 18 0) (gg 5 0 3).toNat (fwOr wl x) y) J R ?_
    show fwWP mX12_endBy (d + 3) 42 [some (aR 12 0), some (aI x), some (aI y), some (aI u), some (aI v), some (aI wl), some (aI ((fwPop x) + (fwPop y))), none, none, none] [aI (fwB (gg 3 0 4 ≤ mNames (gg 18 0) (mSign (gg 18 0) (gg 5 0 3).toNat (fwOr wl x) y) (gg 5 0 3).toNat))] h Q
    exact w_zret dX12_endBy_42 rfl (fwB_01 _) (k _ (fwB_01 _))
theorem and_w {x y : Int} (hx : 0 ≤ x ∧ x < 256) (hy : 0 ≤ y ∧ y < 256) : 0 ≤ fwAnd x y ∧ fwAnd x y < 256 := by
  obtain ⟨a, rfl⟩ : ∃ a : Nat, x = a := ⟨x.toNat, by omega⟩
  obtain ⟨b, rfl⟩ : ∃ b : Nat, y = b := ⟨y.toNat, by omega⟩
  rw [and_255 (by omega) (by omega)]
  have := Nat.and_le_left (n := a) (m := b)
  omega
set_option maxRecDepth 100000 in
set_option maxHeartbeats 4000000 in
theorem c_w_playBy {d : Nat} {h gg : fwH} {Q : Option fwV → fwH → Prop} (x y : Int) (J : cOk gg) (R : jF gg h) (K : jA gg h) (hsh : sc h) (hx : 0 ≤ x ∧ x ≤ 4) (hmt : 0 < gg 3 0 6) (k : ∀ v g, (v = 0 ∨ v = 1) → scr h g → Q (some (aI v)) g) : fwCt mX12_playBy (d + 6) [aR 12 0, aI x, aI y] h Q := by
  refine fwCt_of [some (aR 12 0), some (aI x), some (aI y), none, none, none] rfl rfl rfl ?_
  obtain ⟨hl, hP, hG, hM0, htd, hut, hlw, hhc, ha, hs, hT, hsc⟩ := id J
  have hb17 : hB (gg 17 0) := fun c hc => by have := hM0 c hc; omega
  obtain ⟨⟨g1, g2⟩, ⟨g3, g4⟩, ⟨g5, g6⟩, g7, -⟩ := id hG
  have h17_99 : ∀ c : Nat, (c : Int) < gg 4 0 1 → gg 17 0 c ≤ 99 := fun c hc => (hM0 c (by omega)).2
  have hpz := hP.1
  have hrs1 := R.2.2.2.2.2.2.2.2.2.2.2
  refine w_aload_n dX12_playBy_0 rfl ?_
  refine w_callV (d := d + 5) (S := []) [] dX12_playBy_1 ml_X12_240 ok_X12_asItIs vi_X12_asItIs rfl rfl (by decide) rfl (Nat.le_of_ble_eq_true rfl) ?_
  refine c_X12_asItIs (d := d) J R K (show 1 ≤ gg 4 0 1 by omega) (show 1 ≤ gg 4 0 3 by omega) ?_
  intro A1_1 hA1_1
  show fwWP mX12_playBy (d + 6) 4 [some (aR 12 0), some (aI x), some (aI y), none, none, none] [] (fwUc h 42 0 A1_1) Q
  refine w_aload_n dX12_playBy_4 rfl ?_
  refine w_callV (d := d + 5) (S := []) [] dX12_playBy_5 ml_X12_263 ok_X12_willingSet vi_X12_willingSet rfl rfl (by decide) rfl (Nat.le_of_ble_eq_true rfl) ?_
  refine c_X12_willingSet (d := d) (gg 17 0) J R hA1_1 hb17 (show 1 ≤ gg 4 0 1 by omega) ?_
  intro A5_2 hA5_2
  show fwWP mX12_playBy (d + 6) 8 [some (aR 12 0), some (aI x), some (aI y), none, none, none] [aI (mGers (gg 4 0 1) (gg 17 0) (gg 4 0 2) (gg 4 0 4) (gg 18 0) (gg 5 0 3).toNat (-1))] (fwUc (fwUc h 42 0 A1_1) 42 0 A5_2) Q
  rw [show (fwUc (fwUc h 42 0 A1_1) 42 0 A5_2) = (fwUc h 42 0 A5_2) from by funext a b; simp only [fwUc]; (repeat' split); all_goals first | rfl | (exfalso; omega)]
  have hwr2 := mGers_r (gg 4 0 1) (gg 17 0) (gg 4 0 2) (gg 4 0 4) (gg 18 0) (m := (gg 5 0 3).toNat) (-1) (by omega)
  have hw8_3 := mGers_8 (gg 4 0 1) (gg 17 0) (gg 4 0 2) (gg 4 0 4) (gg 18 0) (m := (gg 5 0 3).toNat) (-1) (by omega)
  change fwWP _ _ _ _ (aI (mWil gg 0) :: _) _ _
  have hw8 : 0 ≤ mWil gg 0 ∧ mWil gg 0 < 256 := hw8_3
  have hs8 := shl_8 (x := gg 5 0 3) (by omega)
  refine w_istore_n [some (aR 12 0), some (aI x), some (aI y), some (aI (mWil gg 0)), none, none] dX12_playBy_8 rfl (by decide) ?_
  refine w_aload_n dX12_playBy_9 rfl ?_
  refine w_callV (d := d + 5) (S := []) [] dX12_playBy_10 ml_X12_77 ok_X12_all vi_X12_all rfl rfl (by decide) rfl (Nat.le_of_ble_eq_true rfl) ?_
  refine c_X12_all (d := (d + 5)) J R ?_
  show fwWP mX12_playBy (d + 6) 13 [some (aR 12 0), some (aI x), some (aI y), some (aI (mWil gg 0)), none, none] [aI (fwShl 1 (gg 5 0 3) - 1)] (fwUc h 42 0 A5_2) Q
  have hsh4 := fwShl1_rng (x := gg 5 0 3) (by omega)
  refine w_istore [some (aR 12 0), some (aI x), some (aI y), some (aI (mWil gg 0)), some (aI (fwShl 1 (gg 5 0 3) - 1)), none] dX12_playBy_13 rfl (by decide) ?_
  have lp15 : ∀ c : Nat, c ≤ (fwShl 1 (gg 5 0 3)).toNat → ∀ (y15  : Int) (hh15 : fwH), y15 = fwShl 1 (gg 5 0 3) - 1 - (c : Int) → (∃ r : Nat → Int, hh15 = (fwUc (fwUc h 42 0 A5_2) 43 0 r) ∧ ((c : Int) < fwShl 1 (gg 5 0 3) ∨ (r 0 = 0 ∨ r 0 = 1))) → fwWP mX12_playBy (d + 6) 15 [some (aR 12 0), some (aI x), some (aI y), some (aI (mWil gg 0)), some (aI y15), none] [] hh15 Q := by
    refine fw_up (fun c hc15 ih15 => ?_)
    intro y15  hh15 ey15 eh15
    subst ey15
    obtain ⟨r_15, eh15, hp15⟩ := eh15
    subst eh15
    show fwWP mX12_playBy (d + 6) 15 [some (aR 12 0), some (aI x), some (aI y), some (aI (mWil gg 0)), some (aI (fwShl 1 (gg 5 0 3) - 1 - (c : Int))), none] [] (fwUc (fwUc h 42 0 A5_2) 43 0 r_15) Q
    refine w_iload dX12_playBy_15 rfl ?_
    refine w_if_lt 74 dX12_playBy_17 (by decide) (by omega) (fun c17 => ?_) (fun c17 => ?_)
    · refine w_aload_n dX12_playBy_74 rfl ?_
      refine w_getr 43 0 dX12_playBy_75 fl_X12_38 rfl (by decide) ?_
      refine w_iconst dX12_playBy_78 ?_
      refine w_zaldE (v := r_15 0) dX12_playBy_79 rfl (by decide) (by omega) (by omega) (by rw [show (0 : Int).toNat = 0 by omega]; rfl) ?_
      exact w_zret dX12_playBy_80 rfl (by omega) (k _ _ (by omega) (scr_uc (scr_uc (scr_rf hsh) rfl (by decide) (by decide) (by decide)) rfl (by decide) (by decide) (by decide)))
    · refine w_aload_n dX12_playBy_20 rfl ?_
      refine w_callV (d := d + 5) (S := []) [] dX12_playBy_21 ml_X12_77 ok_X12_all vi_X12_all rfl rfl (by decide) rfl (Nat.le_of_ble_eq_true rfl) ?_
      refine c_X12_all (d := (d + 5)) J R ?_
      show fwWP mX12_playBy (d + 6) 24 [some (aR 12 0), some (aI x), some (aI y), some (aI (mWil gg 0)), some (aI (fwShl 1 (gg 5 0 3) - 1 - (c : Int))), none] [aI (fwShl 1 (gg 5 0 3) - 1)] (fwUc (fwUc h 42 0 A5_2) 43 0 r_15) Q
      have hsh6 := fwShl1_rng (x := gg 5 0 3) (by omega)
      refine w_istore [some (aR 12 0), some (aI x), some (aI y), some (aI (mWil gg 0)), some (aI (fwShl 1 (gg 5 0 3) - 1 - (c : Int))), some (aI (fwShl 1 (gg 5 0 3) - 1))] dX12_playBy_24 rfl (by decide) ?_
      have lp26 : ∀ c2 : Nat, c2 ≤ (fwShl 1 (gg 5 0 3)).toNat → ∀ (y26  : Int) (hh26 : fwH), y26 = fwShl 1 (gg 5 0 3) - 1 - (c2 : Int) → (∃ r : Nat → Int, hh26 = (fwUc (fwUc h 42 0 A5_2) 43 0 r) ∧ ((c : Int) < fwShl 1 (gg 5 0 3) - 1 ∨ (c2 : Int) < fwShl 1 (gg 5 0 3) ∨ (r 0 = 0 ∨ r 0 = 1))) → fwWP mX12_playBy (d + 6) 26 [some (aR 12 0), some (aI x), some (aI y), some (aI (mWil gg 0)), some (aI (fwShl 1 (gg 5 0 3) - 1 - (c : Int))), some (aI y26)] [] hh26 Q := by
        refine fw_up (fun c2 hc26 ih26 => ?_)
        intro y26  hh26 ey26 eh26
        subst ey26
        obtain ⟨r_26, eh26, hp26⟩ := eh26
        subst eh26
        show fwWP mX12_playBy (d + 6) 26 [some (aR 12 0), some (aI x), some (aI y), some (aI (mWil gg 0)), some (aI (fwShl 1 (gg 5 0 3) - 1 - (c : Int))), some (aI (fwShl 1 (gg 5 0 3) - 1 - (c2 : Int)))] [] (fwUc (fwUc h 42 0 A5_2) 43 0 r_26) Q
        refine w_iload dX12_playBy_26 rfl ?_
        refine w_if_lt 68 dX12_playBy_28 (by decide) (by omega) (fun c28 => ?_) (fun c28 => ?_)
        · refine w_iinc [some (aR 12 0), some (aI x), some (aI y), some (aI (mWil gg 0)), some (aI ((fwShl 1 (gg 5 0 3) - 1 - (c : Int)) + (-1))), some (aI (fwShl 1 (gg 5 0 3) - 1 - (c2 : Int)))] dX12_playBy_68 rfl rfl (by decide) ?_
          refine w_goto 15 dX12_playBy_71 (by decide) ?_
          refine w_drop [5] [some (aR 12 0), some (aI x), some (aI y), some (aI (mWil gg 0)), some (aI ((fwShl 1 (gg 5 0 3) - 1 - (c : Int)) + (-1))), none] rfl ?_
          refine ih15 (by omega) _ _ ?_ ?_
          · exact (by omega)
          · exact ⟨_, rfl, by omega⟩
        · refine w_iload dX12_playBy_31 rfl ?_
          refine w_iload dX12_playBy_33 rfl ?_
          refine w_iand dX12_playBy_35 ?_
          refine w_if_ne 62 dX12_playBy_36 (by decide) (by have := and_w (x := fwShl 1 (gg 5 0 3) - 1 - (c : Int)) (y := fwShl 1 (gg 5 0 3) - 1 - (c2 : Int)) (by omega) (by omega); omega) (fun c36 => ?_) (fun c36 => ?_)
          · refine w_iinc [some (aR 12 0), some (aI x), some (aI y), some (aI (mWil gg 0)), some (aI (fwShl 1 (gg 5 0 3) - 1 - (c : Int))), some (aI ((fwShl 1 (gg 5 0 3) - 1 - (c2 : Int)) + (-1)))] dX12_playBy_62 rfl rfl (by decide) ?_
            refine w_goto 26 dX12_playBy_65 (by decide) ?_
            refine ih26 (by omega) _ _ ?_ ?_
            · exact (by omega)
            · exact ⟨_, rfl, by rcases hp26 with q | q | q; exact Or.inl q; exact (Decidable.em ((c2 : Int) + 1 < fwShl 1 (gg 5 0 3))).elim (fun z => Or.inr (Or.inl (by omega))) (fun z => (Decidable.em ((c : Int) < fwShl 1 (gg 5 0 3) - 1)).elim Or.inl (fun z2 => absurd (by rw [show fwShl 1 (gg 5 0 3) - 1 - (c : Int) = 0 by omega, show fwShl 1 (gg 5 0 3) - 1 - (c2 : Int) = 0 by omega]; decide) c36)); exact Or.inr (Or.inr q)⟩
          · refine w_aload_n dX12_playBy_39 rfl ?_
            refine w_getr 43 0 dX12_playBy_40 fl_X12_38 rfl (by decide) ?_
            refine w_iload dX12_playBy_43 rfl ?_
            refine w_iload dX12_playBy_45 rfl ?_
            refine w_callS (d := d + 5) (S := [aR 43 0]) [aI (fwShl 1 (gg 5 0 3) - 1 - (c : Int)), aI (fwShl 1 (gg 5 0 3) - 1 - (c2 : Int))] dX12_playBy_47 ml_X12_282 ok_X12_pair st_X12_pair rfl (Nat.le_of_ble_eq_true rfl) ?_
            refine c_X12_pair (d := (d + 5)) (fwShl 1 (gg 5 0 3) - 1 - (c : Int)) (fwShl 1 (gg 5 0 3) - 1 - (c2 : Int)) ?_
            show fwWP mX12_playBy (d + 6) 50 [some (aR 12 0), some (aI x), some (aI y), some (aI (mWil gg 0)), some (aI (fwShl 1 (gg 5 0 3) - 1 - (c : Int))), some (aI (fwShl 1 (gg 5 0 3) - 1 - (c2 : Int)))] [aI (256 * (fwShl 1 (gg 5 0 3) - 1 - (c : Int)) + (fwShl 1 (gg 5 0 3) - 1 - (c2 : Int))), aR 43 0] (fwUc (fwUc h 42 0 A5_2) 43 0 r_26) Q
            refine w_aload_n dX12_playBy_50 rfl ?_
            refine w_iload dX12_playBy_51 rfl ?_
            refine w_iload dX12_playBy_53 rfl ?_
            refine w_iload_n dX12_playBy_55 rfl ?_
            refine w_iload_n dX12_playBy_56 rfl ?_
            refine w_iload_n dX12_playBy_57 rfl ?_
            refine w_callV (d := d + 5) (S := [aI (256 * (fwShl 1 (gg 5 0 3) - 1 - (c : Int)) + (fwShl 1 (gg 5 0 3) - 1 - (c2 : Int))), aR 43 0]) [aI (fwShl 1 (gg 5 0 3) - 1 - (c : Int)), aI (fwShl 1 (gg 5 0 3) - 1 - (c2 : Int)), aI x, aI y, aI (mWil gg 0)] dX12_playBy_58 ml_X12_285 ok_X12_endBy vi_X12_endBy rfl rfl (by decide) rfl (Nat.le_of_ble_eq_true rfl) ?_
            refine c_w_endBy (d := (d + 2)) (fwShl 1 (gg 5 0 3) - 1 - (c : Int)) (fwShl 1 (gg 5 0 3) - 1 - (c2 : Int)) x y (mWil gg 0) J R (by omega) (by omega) (by omega) (by omega) ?_
            intro b9 hb9
            show fwWP mX12_playBy (d + 6) 61 [some (aR 12 0), some (aI x), some (aI y), some (aI (mWil gg 0)), some (aI (fwShl 1 (gg 5 0 3) - 1 - (c : Int))), some (aI (fwShl 1 (gg 5 0 3) - 1 - (c2 : Int)))] [aI b9, aI (256 * (fwShl 1 (gg 5 0 3) - 1 - (c : Int)) + (fwShl 1 (gg 5 0 3) - 1 - (c2 : Int))), aR 43 0] (fwUc (fwUc h 42 0 A5_2) 43 0 r_26) Q
            refine w_zast dX12_playBy_61 rfl (by decide) (by omega) (by omega) (by omega) ?_
            refine w_iinc [some (aR 12 0), some (aI x), some (aI y), some (aI (mWil gg 0)), some (aI (fwShl 1 (gg 5 0 3) - 1 - (c : Int))), some (aI ((fwShl 1 (gg 5 0 3) - 1 - (c2 : Int)) + (-1)))] dX12_playBy_62 rfl rfl (by decide) ?_
            refine w_goto 26 dX12_playBy_65 (by decide) ?_
            refine ih26 (by omega) _ _ ?_ ?_
            · exact (by omega)
            · exact ⟨fwFu r_26 (256 * (fwShl 1 (gg 5 0 3) - 1 - (c : Int)) + (fwShl 1 (gg 5 0 3) - 1 - (c2 : Int))).toNat b9, by rw [fwUp_uc], by rcases hp26 with q | q | q; exact Or.inl q; exact (Decidable.em ((c2 : Int) + 1 < fwShl 1 (gg 5 0 3))).elim (fun z => Or.inr (Or.inl (by omega))) (fun z => (Decidable.em ((c : Int) < fwShl 1 (gg 5 0 3) - 1)).elim Or.inl (fun z2 => Or.inr (Or.inr (by unfold fwFu; rw [if_pos (by omega)]; omega)))); exact Or.inr (Or.inr (by unfold fwFu; split <;> omega))⟩
      refine lp26 0 (Nat.zero_le _) _ _ ?_ ?_
      · exact (by omega)
      · exact ⟨_, rfl, by omega⟩
  refine lp15 0 (Nat.zero_le _) _ _ ?_ ?_
  · exact (by omega)
  · exact ⟨h 43 0, (fwUc_self _ 43 0).symm, by omega⟩
theorem scr_36 {h g : fwH} (a : scr h g) : g 36 0 = h 36 0 := a.1 36 0 rfl (by decide)
set_option maxRecDepth 100000 in
set_option maxHeartbeats 4000000 in
theorem c_w_play {d : Nat} {h gg : fwH} {Q : Option fwV → fwH → Prop} (x : Int) (y : Int) (J : cOk gg) (R : jF gg h) (K : jA gg h) (hsh : sc h) (hx : -2147483648 ≤ x ∧ x < 2147483648) (hy : -2147483648 ≤ y ∧ y < 2147483648) (k : ∀ v g, scr h g → Q (some (aI v)) g) : fwCt mX12_play (d + 7) [aR 12 0, aI x, aI y] h Q := by
  refine fwCt_of [some (aR 12 0), some (aI x), some (aI y)] rfl rfl rfl ?_
  obtain ⟨hl, hP, hG, hM0, htd, hut, hlw, hhc, ha, hs, hT, hsc⟩ := id J
  have hb17 : hB (gg 17 0) := fun c hc => by have := hM0 c hc; omega
  obtain ⟨⟨g1, g2⟩, ⟨g3, g4⟩, ⟨g5, g6⟩, g7, -⟩ := id hG
  have h17_99 : ∀ c : Nat, (c : Int) < gg 4 0 1 → gg 17 0 c ≤ 99 := fun c hc => (hM0 c (by omega)).2
  have hpz := hP.1
  have hrs1 := R.2.2.2.2.2.2.2.2.2.2.2
  refine w_aload_n dX12_play_0 rfl ?_
  refine w_callV (d := d + 6) (S := []) [] dX12_play_1 ml_X12_73 ok_X12_isMount vi_X12_isMount rfl rfl (by decide) rfl (Nat.le_of_ble_eq_true rfl) ?_
  refine c_X12_isMount (d := (d + 6)) J R ?_
  show fwWP mX12_play (d + 7) 4 [some (aR 12 0), some (aI x), some (aI y)] [aI (fwB (0 < gg 3 0 6))] h Q
  refine w_ifB_eq 46 dX12_play_4 (by decide) (fun c4 => ?_) (fun c4 => ?_)
  · refine w_bipush dX12_play_46 rfl ?_
    exact w_iret dX12_play_48 rfl (k _ _ (scr_rf hsh))
  · refine w_iload_n dX12_play_7 rfl ?_
    refine w_i2l dX12_play_8 (by omega) ?_
    refine w_lconst (z := 0) dX12_play_9 rfl ?_
    refine w_ldc2 (n := 4) dX12_play_10 cs_X12_289 ?_
    refine w_callS (d := d + 6) (S := []) [aJ x, aJ 0, aJ 4] dX12_play_13 ml_X12_65 ok_X12_in st_X12_in rfl (Nat.le_of_ble_eq_true rfl) ?_
    refine c_X12_in (d := (d + 6)) x 0 4 (by omega) (by omega) (by omega) ?_
    show fwWP mX12_play (d + 7) 16 [some (aR 12 0), some (aI x), some (aI y)] [aI (fwB (0 ≤ x ∧ x ≤ 4))] h Q
    refine w_ifB_eq 46 dX12_play_16 (by decide) (fun c16 => ?_) (fun c16 => ?_)
    · refine w_bipush dX12_play_46 rfl ?_
      exact w_iret dX12_play_48 rfl (k _ _ (scr_rf hsh))
    · refine w_iload_n dX12_play_19 rfl ?_
      refine w_i2l dX12_play_20 (by omega) ?_
      refine w_lconst (z := 0) dX12_play_21 rfl ?_
      refine w_lconst (z := 1) dX12_play_22 rfl ?_
      refine w_callS (d := d + 6) (S := []) [aJ y, aJ 0, aJ 1] dX12_play_23 ml_X12_65 ok_X12_in st_X12_in rfl (Nat.le_of_ble_eq_true rfl) ?_
      refine c_X12_in (d := (d + 6)) y 0 1 (by omega) (by omega) (by omega) ?_
      show fwWP mX12_play (d + 7) 26 [some (aR 12 0), some (aI x), some (aI y)] [aI (fwB (0 ≤ y ∧ y ≤ 1))] h Q
      refine w_ifB_eq 46 dX12_play_26 (by decide) (fun c26 => ?_) (fun c26 => ?_)
      · refine w_bipush dX12_play_46 rfl ?_
        exact w_iret dX12_play_48 rfl (k _ _ (scr_rf hsh))
      · refine w_aload_n dX12_play_29 rfl ?_
        refine w_iload_n dX12_play_30 rfl ?_
        refine w_iload_n dX12_play_31 rfl ?_
        refine w_callV (d := d + 6) (S := []) [aI x, aI y] dX12_play_32 ml_X12_291 ok_X12_playBy vi_X12_playBy rfl rfl (by decide) rfl (Nat.le_of_ble_eq_true rfl) ?_
        refine c_w_playBy (d := d) x y J R K hsh (by omega) (by omega) ?_
        intro v4 g4 hv4 sg4
        show fwWP mX12_play (d + 7) 35 [some (aR 12 0), some (aI x), some (aI y)] [aI v4] g4 Q
        have rr4 := scr_36 sg4
        refine w_if_eq 42 dX12_play_35 (by decide) (by omega) (fun c35 => ?_) (fun c35 => ?_)
        · refine w_iconst dX12_play_42 ?_
          refine w_goto 48 dX12_play_43 (by decide) ?_
          exact w_iret dX12_play_48 rfl (k _ _ (sg4))
        · refine w_iconst dX12_play_38 ?_
          refine w_goto 48 dX12_play_39 (by decide) ?_
          exact w_iret dX12_play_48 rfl (k _ _ (sg4))
set_option maxRecDepth 100000 in
set_option maxHeartbeats 4000000 in
theorem c_w_moves {d : Nat} {h gg : fwH} {Q : Option fwV → fwH → Prop} (x : Int) (y : Int) (J : cOk gg) (R : jF gg h) (K : jA gg h) (hsh : sc h) (hx : -2147483648 ≤ x ∧ x < 2147483648) (hy : -2147483648 ≤ y ∧ y < 2147483648) (k : ∀ v g, scr h g → Q (some (aI v)) g) : fwCt mX12_moves (d + 7) [aR 12 0, aI x, aI y] h Q := by
  refine fwCt_of [some (aR 12 0), some (aI x), some (aI y), none, none] rfl rfl rfl ?_
  obtain ⟨hl, hP, hG, hM0, htd, hut, hlw, hhc, ha, hs, hT, hsc⟩ := id J
  have hb17 : hB (gg 17 0) := fun c hc => by have := hM0 c hc; omega
  obtain ⟨⟨g1, g2⟩, ⟨g3, g4⟩, ⟨g5, g6⟩, g7, -⟩ := id hG
  have h17_99 : ∀ c : Nat, (c : Int) < gg 4 0 1 → gg 17 0 c ≤ 99 := fun c hc => (hM0 c (by omega)).2
  have hpz := hP.1
  have hrs1 := R.2.2.2.2.2.2.2.2.2.2.2
  refine w_aload_n dX12_moves_0 rfl ?_
  refine w_callV (d := d + 6) (S := []) [] dX12_moves_1 ml_X12_73 ok_X12_isMount vi_X12_isMount rfl rfl (by decide) rfl (Nat.le_of_ble_eq_true rfl) ?_
  refine c_X12_isMount (d := (d + 6)) J R ?_
  show fwWP mX12_moves (d + 7) 4 [some (aR 12 0), some (aI x), some (aI y), none, none] [aI (fwB (0 < gg 3 0 6))] h Q
  refine w_ifB_eq 29 dX12_moves_4 (by decide) (fun c4 => ?_) (fun c4 => ?_)
  · refine w_bipush dX12_moves_29 rfl ?_
    exact w_iret dX12_moves_31 rfl (k _ _ (scr_rf hsh))
  · refine w_iload_n dX12_moves_7 rfl ?_
    refine w_i2l dX12_moves_8 (by omega) ?_
    refine w_lconst (z := 0) dX12_moves_9 rfl ?_
    refine w_ldc2 (n := 4) dX12_moves_10 cs_X12_289 ?_
    refine w_callS (d := d + 6) (S := []) [aJ x, aJ 0, aJ 4] dX12_moves_13 ml_X12_65 ok_X12_in st_X12_in rfl (Nat.le_of_ble_eq_true rfl) ?_
    refine c_X12_in (d := (d + 6)) x 0 4 (by omega) (by omega) (by omega) ?_
    show fwWP mX12_moves (d + 7) 16 [some (aR 12 0), some (aI x), some (aI y), none, none] [aI (fwB (0 ≤ x ∧ x ≤ 4))] h Q
    refine w_ifB_eq 29 dX12_moves_16 (by decide) (fun c16 => ?_) (fun c16 => ?_)
    · refine w_bipush dX12_moves_29 rfl ?_
      exact w_iret dX12_moves_31 rfl (k _ _ (scr_rf hsh))
    · refine w_iload_n dX12_moves_19 rfl ?_
      refine w_i2l dX12_moves_20 (by omega) ?_
      refine w_lconst (z := 0) dX12_moves_21 rfl ?_
      refine w_lconst (z := 1) dX12_moves_22 rfl ?_
      refine w_callS (d := d + 6) (S := []) [aJ y, aJ 0, aJ 1] dX12_moves_23 ml_X12_65 ok_X12_in st_X12_in rfl (Nat.le_of_ble_eq_true rfl) ?_
      refine c_X12_in (d := (d + 6)) y 0 1 (by omega) (by omega) (by omega) ?_
      show fwWP mX12_moves (d + 7) 26 [some (aR 12 0), some (aI x), some (aI y), none, none] [aI (fwB (0 ≤ y ∧ y ≤ 1))] h Q
      refine w_ifB_ne 32 dX12_moves_26 (by decide) (fun c26 => ?_) (fun c26 => ?_)
      · refine w_iload_n dX12_moves_32 rfl ?_
        refine w_if_eq 46 dX12_moves_33 (by decide) (by omega) (fun c33 => ?_) (fun c33 => ?_)
        · refine w_iconst dX12_moves_46 ?_
          exact w_iret dX12_moves_47 rfl (k _ _ (scr_rf hsh))
        · refine w_aload_n dX12_moves_36 rfl ?_
          refine w_getr 36 0 dX12_moves_37 fl_X12_9 rfl (by decide) ?_
          refine w_bipush dX12_moves_40 rfl ?_
          refine w_ialdE (v := gg 5 0 3) dX12_moves_42 rfl (by decide) (by omega) (by omega) R.2.2.2.2.2.2.1 ?_
          refine w_if_ne 48 dX12_moves_43 (by decide) (by omega) (fun c43 => ?_) (fun c43 => ?_)
          · refine w_aload_n dX12_moves_48 rfl ?_
            refine w_iload_n dX12_moves_49 rfl ?_
            refine w_iload_n dX12_moves_50 rfl ?_
            refine w_callV (d := d + 6) (S := []) [aI x, aI y] dX12_moves_51 ml_X12_291 ok_X12_playBy vi_X12_playBy rfl rfl (by decide) rfl (Nat.le_of_ble_eq_true rfl) ?_
            refine c_w_playBy (d := d) x y J R K hsh (by omega) (by omega) ?_
            intro v6 g6 hv6 sg6
            show fwWP mX12_moves (d + 7) 54 [some (aR 12 0), some (aI x), some (aI y), none, none] [aI v6] g6 Q
            have rr6 := scr_36 sg6
            refine w_pop dX12_moves_54 rfl ?_
            refine w_iconst dX12_moves_55 ?_
            refine w_iload_n dX12_moves_56 rfl ?_
            refine w_callS (d := d + 6) (S := []) [aI 0, aI y] dX12_moves_57 ml_X12_279 ok_X12_isWinners st_X12_isWinners rfl (Nat.le_of_ble_eq_true rfl) ?_
            refine c_w_isWinners (d := (d + 6)) 0 y ?_
            intro b7 hb7
            show fwWP mX12_moves (d + 7) 60 [some (aR 12 0), some (aI x), some (aI y), none, none] [aI b7] g6 Q
            refine w_istore_n [some (aR 12 0), some (aI x), some (aI y), some (aI b7), none] dX12_moves_60 rfl (by decide) ?_
            refine w_iconst dX12_moves_61 ?_
            refine w_istore [some (aR 12 0), some (aI x), some (aI y), some (aI b7), some (aI 0)] dX12_moves_62 rfl (by decide) ?_
            have lp64 : ∀ c : Nat, c ≤ (gg 5 0 3).toNat → ∀ (y64  : Int), y64 = (c : Int) → fwWP mX12_moves (d + 7) 64 [some (aR 12 0), some (aI x), some (aI y), some (aI b7), some (aI y64)] [] g6 Q := by
              refine fw_up (fun c hc64 ih64 => ?_)
              intro y64  ey64
              subst ey64
              show fwWP mX12_moves (d + 7) 64 [some (aR 12 0), some (aI x), some (aI y), some (aI b7), some (aI (c : Int))] [] g6 Q
              refine w_iload dX12_moves_64 rfl ?_
              refine w_aload_n dX12_moves_66 rfl ?_
              refine w_getr 36 0 dX12_moves_67 fl_X12_9 rfl (by decide) ?_
              refine w_bipush dX12_moves_70 rfl ?_
              refine w_ialdE (v := gg 5 0 3) dX12_moves_72 rfl (by decide) (by omega) (by omega) (by rw [rr6]; exact R.2.2.2.2.2.2.1) ?_
              refine w_icmp_ge 122 dX12_moves_73 (by decide) (by omega) (by omega) (fun c73 => ?_) (fun c73 => ?_)
              · refine w_iconst dX12_moves_122 ?_
                exact w_iret dX12_moves_123 rfl (k _ _ (sg6))
              · have hf8 := shl_8 (x := (c : Int)) (by omega)
                have hf7 : fwShl 1 (c : Int) < 256 := shl_c8 (by omega)
                refine w_iload_n dX12_moves_76 rfl ?_
                refine w_ifF_eq 96 dX12_moves_77 (by decide) ?_ ?_
                · refine w_aload_n dX12_moves_96 rfl ?_
                  refine w_getr 43 0 dX12_moves_97 fl_X12_38 rfl (by decide) ?_
                  refine w_iconst dX12_moves_100 ?_
                  refine w_iconst dX12_moves_101 ?_
                  refine w_iload dX12_moves_102 rfl ?_
                  refine w_ishl dX12_moves_104 ?_
                  refine w_callS (d := d + 6) (S := [aR 43 0]) [aI 0, aI (fwShl 1 (c : Int))] dX12_moves_105 ml_X12_282 ok_X12_pair st_X12_pair rfl (Nat.le_of_ble_eq_true rfl) ?_
                  refine c_X12_pair (d := (d + 6)) 0 (fwShl 1 (c : Int)) ?_
                  show fwWP mX12_moves (d + 7) 108 [some (aR 12 0), some (aI x), some (aI y), some (aI b7), some (aI (c : Int))] [aI (256 * 0 + (fwShl 1 (c : Int))), aR 43 0] g6 Q
                  refine w_zald dX12_moves_108 rfl (by decide) (by omega) (by omega) ?_
                  refine w_iload_n dX12_moves_109 rfl ?_
                  refine w_icmpF_ne 116 dX12_moves_110 (by decide) ?_ ?_
                  · refine w_iinc [some (aR 12 0), some (aI x), some (aI y), some (aI b7), some (aI ((c : Int) + 1))] dX12_moves_116 rfl rfl (by decide) ?_
                    refine w_goto 64 dX12_moves_119 (by decide) ?_
                    refine ih64 (by omega) _ ?_
                    · exact (by omega)
                  · refine w_iload dX12_moves_113 rfl ?_
                    exact w_iret dX12_moves_115 rfl (k _ _ (sg6))
                · refine w_aload_n dX12_moves_80 rfl ?_
                  refine w_getr 43 0 dX12_moves_81 fl_X12_38 rfl (by decide) ?_
                  refine w_iconst dX12_moves_84 ?_
                  refine w_iload dX12_moves_85 rfl ?_
                  refine w_ishl dX12_moves_87 ?_
                  refine w_iconst dX12_moves_88 ?_
                  refine w_callS (d := d + 6) (S := [aR 43 0]) [aI (fwShl 1 (c : Int)), aI 0] dX12_moves_89 ml_X12_282 ok_X12_pair st_X12_pair rfl (Nat.le_of_ble_eq_true rfl) ?_
                  refine c_X12_pair (d := (d + 6)) (fwShl 1 (c : Int)) 0 ?_
                  show fwWP mX12_moves (d + 7) 92 [some (aR 12 0), some (aI x), some (aI y), some (aI b7), some (aI (c : Int))] [aI (256 * (fwShl 1 (c : Int)) + 0), aR 43 0] g6 Q
                  refine w_zald dX12_moves_92 rfl (by decide) (by omega) (by omega) ?_
                  refine w_goto 109 dX12_moves_93 (by decide) ?_
                  refine w_iload_n dX12_moves_109 rfl ?_
                  refine w_icmpF_ne 116 dX12_moves_110 (by decide) ?_ ?_
                  · refine w_iinc [some (aR 12 0), some (aI x), some (aI y), some (aI b7), some (aI ((c : Int) + 1))] dX12_moves_116 rfl rfl (by decide) ?_
                    refine w_goto 64 dX12_moves_119 (by decide) ?_
                    refine ih64 (by omega) _ ?_
                    · exact (by omega)
                  · refine w_iload dX12_moves_113 rfl ?_
                    exact w_iret dX12_moves_115 rfl (k _ _ (sg6))
            refine lp64 0 (Nat.zero_le _) _ ?_
            · exact (by omega)
          · refine w_iconst dX12_moves_46 ?_
            exact w_iret dX12_moves_47 rfl (k _ _ (scr_rf hsh))
      · refine w_bipush dX12_moves_29 rfl ?_
        exact w_iret dX12_moves_31 rfl (k _ _ (scr_rf hsh))
end
section
theorem w_icmpF_lt {M : fwM} {d pc : Nat} {L : List (Option fwV)} {S : List fwV} {h : fwH} {Q : Option fwV → fwH → Prop} {x y off : Int} (tgt : Nat) (hd : decode M.2.1 pc = .ok (.if_icmp .lt off, 3)) (ht : (pc : Int) + off = (tgt : Int)) (kt : fwWP M d tgt L S h Q) (kf : fwWP M d (pc + 3) L S h Q) : fwWP M d pc L (aI y :: aI x :: S) h Q := by
  intro l p e s m args below meth c ad D tc H locs ls C X
  exact lv_icmp_lt C.1 C.2.1 hd ht (fun _ => kt l p e s m args below meth c ad D tc H locs ls C X) (fun _ => kf l p e s m args below meth c ad D tc H locs ls C X)
theorem W12_42 (h : fwH) (A r B : Nat → Int) : fwUc (fwUc (fwUc h 42 0 A) 12 0 r) 42 0 B = fwUc (fwUc h 42 0 B) 12 0 r := by
  rw [fwUc_cmm r B (show 12 ≠ 42 by decide), fwUc_uc]
/-- a SLOT whose row tells of light, as the questions find it -/
def oSl (gg : fwH) (s : Nat) : Prop := s < 4 ∧ (0 ≤ gg 35 0 s ∧ gg 35 0 s ≤ 60) ∧ gg 35 0 s % 3 = 0 ∧ mAll (mSiP (gg 33 s) (gg 4 0 1)) (gg 35 0 s / 3).toNat = true
set_option maxRecDepth 100000 in
set_option maxHeartbeats 4000000 in
theorem c_w_oldBy {d : Nat} {h gg : fwH} {Q : Option fwV → fwH → Prop} (s : Nat) (x : Int) (J : cOk gg) (R : jF gg h) (S : jS gg h) (hs : sOk gg) (hSl : oSl gg s) (hH : hiR (gg 4 0 1) (h 42 0) (gg 17 0)) (hx : -2147483648 ≤ x ∧ x < 2147483648) (k : ∀ v A, hiR (gg 4 0 1) A (gg 17 0) → Q (some (aI v)) (fwUc h 42 0 A)) : fwCt mX12_oldBy (d + 4) [aR 12 0, aI (s : Int), aI x] h Q := by
  refine fwCt_of [some (aR 12 0), some (aI (s : Int)), some (aI x), none, none, none, none] rfl rfl rfl ?_
  obtain ⟨hs4, hs5, hs6, hs7⟩ := id hSl
  refine w_iconst dX12_oldBy_0 ?_
  refine w_istore_n [some (aR 12 0), some (aI (s : Int)), some (aI x), some (aI 0), none, none, none] dX12_oldBy_1 rfl (by decide) ?_
  refine w_iconst dX12_oldBy_2 ?_
  refine w_istore [some (aR 12 0), some (aI (s : Int)), some (aI x), some (aI 0), some (aI 0), none, none] dX12_oldBy_3 rfl (by decide) ?_
  have lp5 : ∀ c : Nat, c ≤ 21 → ∀ (se y5 : Int) (A : Nat → Int), y5 = (c : Int) → hiR (gg 4 0 1) A (gg 17 0) → fwWP mX12_oldBy (d + 4) 5 [some (aR 12 0), some (aI (s : Int)), some (aI x), some (aI se), some (aI y5), none, none] [] (fwUc h 42 0 A) Q := by
    refine fw_up (fun c hc5 ih5 => ?_)
    intro se y5 A ey5 hA5
    subst ey5
    show fwWP mX12_oldBy (d + 4) 5 [some (aR 12 0), some (aI (s : Int)), some (aI x), some (aI se), some (aI (c : Int)), none, none] [] (fwUc h 42 0 A) Q
    refine w_iload dX12_oldBy_5 rfl ?_
    refine w_bipush dX12_oldBy_7 rfl ?_
    refine w_icmp_gt 121 dX12_oldBy_9 (by decide) (by omega) (by omega) (fun c9 => ?_) (fun c9 => ?_)
    · refine w_iload_n dX12_oldBy_121 rfl ?_
      exact w_iret dX12_oldBy_122 rfl (k _ _ hA5)
    · refine w_iconst dX12_oldBy_12 ?_
      refine w_istore [some (aR 12 0), some (aI (s : Int)), some (aI x), some (aI se), some (aI (c : Int)), some (aI 1), none] dX12_oldBy_13 rfl (by decide) ?_
      refine w_iconst dX12_oldBy_15 ?_
      refine w_istore [some (aR 12 0), some (aI (s : Int)), some (aI x), some (aI se), some (aI (c : Int)), some (aI 1), some (aI 0)] dX12_oldBy_16 rfl (by decide) ?_
      have lp18 : ∀ c2 : Nat, c2 ≤ (gg 35 0 s / 3).toNat → ∀ (ho y18 : Int) (A2 : Nat → Int), y18 = 3 * (c2 : Int) → (0 ≤ ho ∧ ho ≤ 1) → hiR (gg 4 0 1) A2 (gg 17 0) → fwWP mX12_oldBy (d + 4) 18 [some (aR 12 0), some (aI (s : Int)), some (aI x), some (aI se), some (aI (c : Int)), some (aI ho), some (aI y18)] [] (fwUc h 42 0 A2) Q := by
        refine fw_up (fun c2 hc18 ih18 => ?_)
        intro ho y18 A2 ey18 hho hA18
        subst ey18
        show fwWP mX12_oldBy (d + 4) 18 [some (aR 12 0), some (aI (s : Int)), some (aI x), some (aI se), some (aI (c : Int)), some (aI ho), some (aI (3 * (c2 : Int)))] [] (fwUc h 42 0 A2) Q
        refine w_iload dX12_oldBy_18 rfl ?_
        refine w_aload_n dX12_oldBy_20 rfl ?_
        refine w_getr 46 0 dX12_oldBy_21 fl_X12_47 rfl (by decide) ?_
        refine w_iload_n dX12_oldBy_24 rfl ?_
        refine w_ialdE (v := gg 35 0 s) dX12_oldBy_25 rfl (by decide) (by omega) (by omega) (S s (by omega)).1 ?_
        refine w_icmp_ge 99 dX12_oldBy_26 (by decide) (by omega) (by omega) (fun c26 => ?_) (fun c26 => ?_)
        · refine w_iload_n dX12_oldBy_99 rfl ?_
          refine w_iload dX12_oldBy_100 rfl ?_
          refine w_if_eq 112 dX12_oldBy_102 (by decide) (by omega) (fun c102 => ?_) (fun c102 => ?_)
          · refine w_iconst dX12_oldBy_112 ?_
            refine w_ior dX12_oldBy_113 ?_
            refine w_istore_n [some (aR 12 0), some (aI (s : Int)), some (aI x), some (aI (fwOr se 0)), some (aI (c : Int)), some (aI ho), some (aI (3 * (c2 : Int)))] dX12_oldBy_114 rfl (by decide) ?_
            refine w_iinc [some (aR 12 0), some (aI (s : Int)), some (aI x), some (aI (fwOr se 0)), some (aI ((c : Int) + 1)), some (aI ho), some (aI (3 * (c2 : Int)))] dX12_oldBy_115 rfl rfl (by decide) ?_
            refine w_goto 5 dX12_oldBy_118 (by decide) ?_
            refine w_drop [5, 6] [some (aR 12 0), some (aI (s : Int)), some (aI x), some (aI (fwOr se 0)), some (aI ((c : Int) + 1)), none, none] rfl ?_
            exact ih5 (by omega) _ _ _ (by omega) hA18
          · refine w_iconst dX12_oldBy_105 ?_
            refine w_iload dX12_oldBy_106 rfl ?_
            refine w_ishl dX12_oldBy_108 ?_
            refine w_goto 113 dX12_oldBy_109 (by decide) ?_
            refine w_ior dX12_oldBy_113 ?_
            refine w_istore_n [some (aR 12 0), some (aI (s : Int)), some (aI x), some (aI (fwOr se (fwShl 1 (c : Int)))), some (aI (c : Int)), some (aI ho), some (aI (3 * (c2 : Int)))] dX12_oldBy_114 rfl (by decide) ?_
            refine w_iinc [some (aR 12 0), some (aI (s : Int)), some (aI x), some (aI (fwOr se (fwShl 1 (c : Int)))), some (aI ((c : Int) + 1)), some (aI ho), some (aI (3 * (c2 : Int)))] dX12_oldBy_115 rfl rfl (by decide) ?_
            refine w_goto 5 dX12_oldBy_118 (by decide) ?_
            refine w_drop [5, 6] [some (aR 12 0), some (aI (s : Int)), some (aI x), some (aI (fwOr se (fwShl 1 (c : Int)))), some (aI ((c : Int) + 1)), none, none] rfl ?_
            exact ih5 (by omega) _ _ _ (by omega) hA18
        · refine w_iload dX12_oldBy_29 rfl ?_
          refine w_if_eq 99 dX12_oldBy_31 (by decide) (by omega) (fun c31 => ?_) (fun c31 => ?_)
          · refine w_iload_n dX12_oldBy_99 rfl ?_
            refine w_iload dX12_oldBy_100 rfl ?_
            refine w_if_eq 112 dX12_oldBy_102 (by decide) (by omega) (fun c102 => ?_) (fun c102 => ?_)
            · refine w_iconst dX12_oldBy_112 ?_
              refine w_ior dX12_oldBy_113 ?_
              refine w_istore_n [some (aR 12 0), some (aI (s : Int)), some (aI x), some (aI (fwOr se 0)), some (aI (c : Int)), some (aI ho), some (aI (3 * (c2 : Int)))] dX12_oldBy_114 rfl (by decide) ?_
              refine w_iinc [some (aR 12 0), some (aI (s : Int)), some (aI x), some (aI (fwOr se 0)), some (aI ((c : Int) + 1)), some (aI ho), some (aI (3 * (c2 : Int)))] dX12_oldBy_115 rfl rfl (by decide) ?_
              refine w_goto 5 dX12_oldBy_118 (by decide) ?_
              refine w_drop [5, 6] [some (aR 12 0), some (aI (s : Int)), some (aI x), some (aI (fwOr se 0)), some (aI ((c : Int) + 1)), none, none] rfl ?_
              exact ih5 (by omega) _ _ _ (by omega) hA18
            · refine w_iconst dX12_oldBy_105 ?_
              refine w_iload dX12_oldBy_106 rfl ?_
              refine w_ishl dX12_oldBy_108 ?_
              refine w_goto 113 dX12_oldBy_109 (by decide) ?_
              refine w_ior dX12_oldBy_113 ?_
              refine w_istore_n [some (aR 12 0), some (aI (s : Int)), some (aI x), some (aI (fwOr se (fwShl 1 (c : Int)))), some (aI (c : Int)), some (aI ho), some (aI (3 * (c2 : Int)))] dX12_oldBy_114 rfl (by decide) ?_
              refine w_iinc [some (aR 12 0), some (aI (s : Int)), some (aI x), some (aI (fwOr se (fwShl 1 (c : Int)))), some (aI ((c : Int) + 1)), some (aI ho), some (aI (3 * (c2 : Int)))] dX12_oldBy_115 rfl rfl (by decide) ?_
              refine w_goto 5 dX12_oldBy_118 (by decide) ?_
              refine w_drop [5, 6] [some (aR 12 0), some (aI (s : Int)), some (aI x), some (aI (fwOr se (fwShl 1 (c : Int)))), some (aI ((c : Int) + 1)), none, none] rfl ?_
              exact ih5 (by omega) _ _ _ (by omega) hA18
          · have hq9 := of_decide_eq_true ((mAll_iff _ _).mp hSl.2.2.2 c2 (by omega))
            refine w_iload dX12_oldBy_34 rfl ?_
            refine w_iload_n dX12_oldBy_36 rfl ?_
            refine w_icmp_eq 86 dX12_oldBy_37 (by decide) (by omega) (by omega) (fun c37 => ?_) (fun c37 => ?_)
            · refine w_iconst dX12_oldBy_86 ?_
              refine w_goto 91 dX12_oldBy_87 (by decide) ?_
              refine w_istore [some (aR 12 0), some (aI (s : Int)), some (aI x), some (aI se), some (aI (c : Int)), some (aI 1), some (aI (3 * (c2 : Int)))] dX12_oldBy_91 rfl (by decide) ?_
              refine w_iinc [some (aR 12 0), some (aI (s : Int)), some (aI x), some (aI se), some (aI (c : Int)), some (aI 1), some (aI ((3 * (c2 : Int)) + 3))] dX12_oldBy_93 rfl rfl (by decide) ?_
              refine w_goto 18 dX12_oldBy_96 (by decide) ?_
              exact ih18 (by omega) _ _ _ (by omega) (by omega) hA18
            · refine w_aload_n dX12_oldBy_40 rfl ?_
              refine w_iload dX12_oldBy_41 rfl ?_
              refine w_aload_n dX12_oldBy_43 rfl ?_
              refine w_iload_n dX12_oldBy_44 rfl ?_
              refine w_iload dX12_oldBy_45 rfl ?_
              refine w_callV (d := d + 3) (S := [aI (c : Int), aR 12 0]) [aI (s : Int), aI (3 * (c2 : Int))] dX12_oldBy_47 ml_X12_360 ok_X12_numberAt vi_X12_numberAt rfl rfl (by decide) rfl (Nat.le_of_ble_eq_true rfl) ?_
              refine c_naE (d := (d + 3)) s (3 * c2) (s : Int) (3 * (c2 : Int)) S (by omega) (by omega) (by omega) (by omega) ?_
              show fwWP mX12_oldBy (d + 4) 50 [some (aR 12 0), some (aI (s : Int)), some (aI x), some (aI se), some (aI (c : Int)), some (aI ho), some (aI (3 * (c2 : Int)))] [aJ (gg 33 s (3 * c2)), aI (c : Int), aR 12 0] (fwUc h 42 0 A2) Q
              have hl7 := (hs s (by omega)).2.2 (3 * c2) (by omega)
              refine w_l2i dX12_oldBy_50 ?_
              refine w_aload_n dX12_oldBy_51 rfl ?_
              refine w_iload_n dX12_oldBy_52 rfl ?_
              refine w_iload dX12_oldBy_53 rfl ?_
              refine w_iconst dX12_oldBy_55 ?_
              refine w_iadd dX12_oldBy_56 ?_
              refine w_callV (d := d + 3) (S := [aI (gg 33 s (3 * c2)), aI (c : Int), aR 12 0]) [aI (s : Int), aI ((3 * (c2 : Int)) + 1)] dX12_oldBy_57 ml_X12_360 ok_X12_numberAt vi_X12_numberAt rfl rfl (by decide) rfl (Nat.le_of_ble_eq_true rfl) ?_
              refine c_naE (d := (d + 3)) s ((3 * c2) + 1) (s : Int) ((3 * (c2 : Int)) + 1) S (by omega) (by omega) (by omega) (by omega) ?_
              show fwWP mX12_oldBy (d + 4) 60 [some (aR 12 0), some (aI (s : Int)), some (aI x), some (aI se), some (aI (c : Int)), some (aI ho), some (aI (3 * (c2 : Int)))] [aJ (gg 33 s ((3 * c2) + 1)), aI (gg 33 s (3 * c2)), aI (c : Int), aR 12 0] (fwUc h 42 0 A2) Q
              have hl8 := (hs s (by omega)).2.2 ((3 * c2) + 1) (by omega)
              refine w_l2i dX12_oldBy_60 ?_
              refine w_callV (d := d + 3) (S := []) [aI (c : Int), aI (gg 33 s (3 * c2)), aI (gg 33 s ((3 * c2) + 1))] dX12_oldBy_61 ml_X12_364 ok_X12_wasDark vi_X12_wasDark rfl rfl (by decide) rfl (Nat.le_of_ble_eq_true rfl) ?_
              refine c_X12_wasDark (d := d) c (gg 33 s (3 * c2)) (gg 33 s ((3 * c2) + 1)) J R hA18 (by omega) (by omega) (by omega) ?_
              intro A61_9 hA61_9; rw [fwUc_uc]
              show fwWP mX12_oldBy (d + 4) 64 [some (aR 12 0), some (aI (s : Int)), some (aI x), some (aI se), some (aI (c : Int)), some (aI ho), some (aI (3 * (c2 : Int)))] [aI (fwB (mShadeB (gg 4 0 1) (mOH gg c) (gg 33 s (3 * c2)) (gg 33 s ((3 * c2) + 1)) = true))] (fwUc h 42 0 A61_9) Q
              refine w_aload_n dX12_oldBy_64 rfl ?_
              refine w_iload_n dX12_oldBy_65 rfl ?_
              refine w_iload dX12_oldBy_66 rfl ?_
              refine w_iconst dX12_oldBy_68 ?_
              refine w_iadd dX12_oldBy_69 ?_
              refine w_callV (d := d + 3) (S := [aI (fwB (mShadeB (gg 4 0 1) (mOH gg c) (gg 33 s (3 * c2)) (gg 33 s ((3 * c2) + 1)) = true))]) [aI (s : Int), aI ((3 * (c2 : Int)) + 2)] dX12_oldBy_70 ml_X12_360 ok_X12_numberAt vi_X12_numberAt rfl rfl (by decide) rfl (Nat.le_of_ble_eq_true rfl) ?_
              refine c_naE (d := (d + 3)) s ((3 * c2) + 2) (s : Int) ((3 * (c2 : Int)) + 2) S (by omega) (by omega) (by omega) (by omega) ?_
              show fwWP mX12_oldBy (d + 4) 73 [some (aR 12 0), some (aI (s : Int)), some (aI x), some (aI se), some (aI (c : Int)), some (aI ho), some (aI (3 * (c2 : Int)))] [aJ (gg 33 s ((3 * c2) + 2)), aI (fwB (mShadeB (gg 4 0 1) (mOH gg c) (gg 33 s (3 * c2)) (gg 33 s ((3 * c2) + 1)) = true))] (fwUc h 42 0 A61_9) Q
              have hl10 := (hs s (by omega)).2.2 ((3 * c2) + 2) (by omega)
              refine w_lconst (z := 1) dX12_oldBy_73 rfl ?_
              refine w_lc_ne 82 dX12_oldBy_74 dX12_oldBy_75 (by decide) (by omega) (by omega) (fun c75 => ?_) (fun c75 => ?_)
              · refine w_iconst dX12_oldBy_82 ?_
                refine w_icmpF_ne 90 dX12_oldBy_83 (by decide) ?_ ?_
                · refine w_iconst dX12_oldBy_90 ?_
                  refine w_istore [some (aR 12 0), some (aI (s : Int)), some (aI x), some (aI se), some (aI (c : Int)), some (aI 0), some (aI (3 * (c2 : Int)))] dX12_oldBy_91 rfl (by decide) ?_
                  refine w_iinc [some (aR 12 0), some (aI (s : Int)), some (aI x), some (aI se), some (aI (c : Int)), some (aI 0), some (aI ((3 * (c2 : Int)) + 3))] dX12_oldBy_93 rfl rfl (by decide) ?_
                  refine w_goto 18 dX12_oldBy_96 (by decide) ?_
                  exact ih18 (by omega) _ _ _ (by omega) (by omega) hA61_9
                · refine w_iconst dX12_oldBy_86 ?_
                  refine w_goto 91 dX12_oldBy_87 (by decide) ?_
                  refine w_istore [some (aR 12 0), some (aI (s : Int)), some (aI x), some (aI se), some (aI (c : Int)), some (aI 1), some (aI (3 * (c2 : Int)))] dX12_oldBy_91 rfl (by decide) ?_
                  refine w_iinc [some (aR 12 0), some (aI (s : Int)), some (aI x), some (aI se), some (aI (c : Int)), some (aI 1), some (aI ((3 * (c2 : Int)) + 3))] dX12_oldBy_93 rfl rfl (by decide) ?_
                  refine w_goto 18 dX12_oldBy_96 (by decide) ?_
                  exact ih18 (by omega) _ _ _ (by omega) (by omega) hA61_9
              · refine w_iconst dX12_oldBy_78 ?_
                refine w_goto 83 dX12_oldBy_79 (by decide) ?_
                refine w_icmpF_ne 90 dX12_oldBy_83 (by decide) ?_ ?_
                · refine w_iconst dX12_oldBy_90 ?_
                  refine w_istore [some (aR 12 0), some (aI (s : Int)), some (aI x), some (aI se), some (aI (c : Int)), some (aI 0), some (aI (3 * (c2 : Int)))] dX12_oldBy_91 rfl (by decide) ?_
                  refine w_iinc [some (aR 12 0), some (aI (s : Int)), some (aI x), some (aI se), some (aI (c : Int)), some (aI 0), some (aI ((3 * (c2 : Int)) + 3))] dX12_oldBy_93 rfl rfl (by decide) ?_
                  refine w_goto 18 dX12_oldBy_96 (by decide) ?_
                  exact ih18 (by omega) _ _ _ (by omega) (by omega) hA61_9
                · refine w_iconst dX12_oldBy_86 ?_
                  refine w_goto 91 dX12_oldBy_87 (by decide) ?_
                  refine w_istore [some (aR 12 0), some (aI (s : Int)), some (aI x), some (aI se), some (aI (c : Int)), some (aI 1), some (aI (3 * (c2 : Int)))] dX12_oldBy_91 rfl (by decide) ?_
                  refine w_iinc [some (aR 12 0), some (aI (s : Int)), some (aI x), some (aI se), some (aI (c : Int)), some (aI 1), some (aI ((3 * (c2 : Int)) + 3))] dX12_oldBy_93 rfl rfl (by decide) ?_
                  refine w_goto 18 dX12_oldBy_96 (by decide) ?_
                  exact ih18 (by omega) _ _ _ (by omega) (by omega) hA61_9
      exact lp18 0 (by omega) _ _ _ (by omega) (by omega) hA5
  have e42 := fwUc_self h 42 0
  rw [← e42]
  exact lp5 0 (by omega) _ _ _ rfl hH
set_option maxRecDepth 100000 in
set_option maxHeartbeats 4000000 in
theorem c_w_askOf {d : Nat} {h gg : fwH} {Q : Option fwV → fwH → Prop} (s : Nat) (x : Int) (J : cOk gg) (R : jF gg h) (S : jS gg h) (hs : sOk gg) (hSl : oSl gg s) (hH : hiR (gg 4 0 1) (h 42 0) (gg 17 0)) (hx : 0 ≤ x ∧ x < gg 4 0 1) (k : ∀ v A r, hiR (gg 4 0 1) A (gg 17 0) → (r 5 = h 12 0 5 ∧ r 12 = h 12 0 12 ∧ r 13 = h 12 0 13) → Q (some (aI v)) (fwUc (fwUc h 42 0 A) 12 0 r)) : fwCt mX12_askOf (d + 5) [aR 12 0, aI (s : Int), aI x] h Q := by
  refine fwCt_of [some (aR 12 0), some (aI (s : Int)), some (aI x), none, none, none, none, none] rfl rfl rfl ?_
  obtain ⟨hs4, hs5, hs6, hs7⟩ := id hSl
  refine w_aload_n dX12_askOf_0 rfl ?_
  refine w_iload_n dX12_askOf_1 rfl ?_
  refine w_iconst dX12_askOf_2 ?_
  refine w_callV (d := d + 4) (S := []) [aI (s : Int), aI (-1)] dX12_askOf_3 ml_X12_371 ok_X12_oldBy vi_X12_oldBy rfl rfl (by decide) rfl (Nat.le_of_ble_eq_true rfl) ?_
  refine c_w_oldBy (d := d) s (-1) J R S hs hSl hH (by omega) ?_
  intro v1 A3_1 hA3_1
  show fwWP mX12_askOf (d + 5) 6 [some (aR 12 0), some (aI (s : Int)), some (aI x), none, none, none, none, none] [aI v1] (fwUc h 42 0 A3_1) Q
  refine w_istore_n [some (aR 12 0), some (aI (s : Int)), some (aI x), some (aI v1), none, none, none, none] dX12_askOf_6 rfl (by decide) ?_
  refine w_aload_n dX12_askOf_7 rfl ?_
  refine w_iload_n dX12_askOf_8 rfl ?_
  refine w_callS (d := d + 4) (S := [aR 12 0]) [aI v1] dX12_askOf_9 ml_X12_229 ok_X12_bits st_X12_bits rfl (Nat.le_of_ble_eq_true rfl) ?_
  refine c_X12_bits (d := (d + 4)) v1 ?_
  show fwWP mX12_askOf (d + 5) 12 [some (aR 12 0), some (aI (s : Int)), some (aI x), some (aI v1), none, none, none, none] [aI (mBt v1 21), aR 12 0] (fwUc h 42 0 A3_1) Q
  have hbb2 := mBt_rng v1 21
  refine w_puti dX12_askOf_12 fl_X12_374 fp_12_21 rfl (by decide) ?_
  have e3 : fwUp (fwUc h 42 0 A3_1) 12 0 21 (mBt v1 21) = (fwUc (fwUc h 42 0 A3_1) 12 0 (fwFu (h 12 0) 21 (mBt v1 21))) := fwUp_fu _ _ _ _ _
  rw [e3]
  refine w_iconst dX12_askOf_15 ?_
  refine w_istore [some (aR 12 0), some (aI (s : Int)), some (aI x), some (aI v1), some (aI 0), none, none, none] dX12_askOf_16 rfl (by decide) ?_
  refine w_iconst dX12_askOf_18 ?_
  refine w_istore [some (aR 12 0), some (aI (s : Int)), some (aI x), some (aI v1), some (aI 0), some (aI 1), none, none] dX12_askOf_19 rfl (by decide) ?_
  have lp21 : ∀ c : Nat, c ≤ 18 → ∀ (be y21 : Int) (A r : Nat → Int), y21 = 1 + (c : Int) → hiR (gg 4 0 1) A (gg 17 0) → (r 5 = h 12 0 5 ∧ r 12 = h 12 0 12 ∧ r 13 = h 12 0 13) → fwWP mX12_askOf (d + 5) 21 [some (aR 12 0), some (aI (s : Int)), some (aI x), some (aI v1), some (aI be), some (aI y21), none, none] [] (fwUc (fwUc h 42 0 A) 12 0 r) Q := by
    refine fw_up (fun c hc21 ih21 => ?_)
    intro be y21 A r ey21 hA21 hr21
    subst ey21
    show fwWP mX12_askOf (d + 5) 21 [some (aR 12 0), some (aI (s : Int)), some (aI x), some (aI v1), some (aI be), some (aI (1 + (c : Int))), none, none] [] (fwUc (fwUc h 42 0 A) 12 0 r) Q
    refine w_iload dX12_askOf_21 rfl ?_
    refine w_bipush dX12_askOf_23 rfl ?_
    refine w_icmp_gt 136 dX12_askOf_25 (by decide) (by omega) (by omega) (fun c25 => ?_) (fun c25 => ?_)
    · refine w_iload dX12_askOf_136 rfl ?_
      exact w_iret dX12_askOf_138 rfl (k _ _ _ hA21 hr21)
    · refine w_iconst dX12_askOf_28 ?_
      refine w_istore [some (aR 12 0), some (aI (s : Int)), some (aI x), some (aI v1), some (aI be), some (aI (1 + (c : Int))), some (aI 0), none] dX12_askOf_29 rfl (by decide) ?_
      refine w_iconst dX12_askOf_31 ?_
      refine w_istore [some (aR 12 0), some (aI (s : Int)), some (aI x), some (aI v1), some (aI be), some (aI (1 + (c : Int))), some (aI 0), some (aI 0)] dX12_askOf_32 rfl (by decide) ?_
      have lp34 : ∀ c2 : Nat, c2 ≤ 21 → ∀ (dk y34 : Int) (A2 : Nat → Int), y34 = (c2 : Int) → (0 ≤ dk ∧ dk ≤ c2) → hiR (gg 4 0 1) A2 (gg 17 0) → fwWP mX12_askOf (d + 5) 34 [some (aR 12 0), some (aI (s : Int)), some (aI x), some (aI v1), some (aI be), some (aI (1 + (c : Int))), some (aI dk), some (aI y34)] [] (fwUc (fwUc h 42 0 A2) 12 0 r) Q := by
        refine fw_up (fun c2 hc34 ih34 => ?_)
        intro dk y34 A2 ey34 hdk hA34
        subst ey34
        show fwWP mX12_askOf (d + 5) 34 [some (aR 12 0), some (aI (s : Int)), some (aI x), some (aI v1), some (aI be), some (aI (1 + (c : Int))), some (aI dk), some (aI (c2 : Int))] [] (fwUc (fwUc h 42 0 A2) 12 0 r) Q
        refine w_iload dX12_askOf_34 rfl ?_
        refine w_bipush dX12_askOf_36 rfl ?_
        refine w_icmp_gt 94 dX12_askOf_38 (by decide) (by omega) (by omega) (fun c38 => ?_) (fun c38 => ?_)
        · refine w_iload dX12_askOf_94 rfl ?_
          refine w_iload_n dX12_askOf_96 rfl ?_
          refine w_callS (d := d + 4) (S := [aI dk]) [aI v1] dX12_askOf_97 ml_X12_229 ok_X12_bits st_X12_bits rfl (Nat.le_of_ble_eq_true rfl) ?_
          refine c_X12_bits (d := (d + 4)) v1 ?_
          show fwWP mX12_askOf (d + 5) 100 [some (aR 12 0), some (aI (s : Int)), some (aI x), some (aI v1), some (aI be), some (aI (1 + (c : Int))), some (aI dk), some (aI (c2 : Int))] [aI (mBt v1 21), aI dk] (fwUc (fwUc h 42 0 A2) 12 0 r) Q
          have hbb6 := mBt_rng v1 21
          refine w_iload dX12_askOf_100 rfl ?_
          refine w_isub dX12_askOf_102 ?_
          refine w_max (d := d + 4) (S := []) dX12_askOf_103 ml_X12_317 (by omega) (by omega) (Nat.le_of_ble_eq_true rfl) ?_
          refine w_istore [some (aR 12 0), some (aI (s : Int)), some (aI x), some (aI v1), some (aI be), some (aI (1 + (c : Int))), some (aI dk), some (aI (max dk ((mBt v1 21) - dk)))] dX12_askOf_106 rfl (by decide) ?_
          refine w_iload dX12_askOf_108 rfl ?_
          refine w_aload_n dX12_askOf_110 rfl ?_
          refine w_getiE (v := r 21) dX12_askOf_111 fl_X12_374 rfl (by decide) rfl ?_
          refine w_icmpF_lt 120 dX12_askOf_114 (by decide) ?_ ?_
          · refine w_aload_n dX12_askOf_120 rfl ?_
            refine w_iload dX12_askOf_121 rfl ?_
            refine w_puti dX12_askOf_123 fl_X12_374 fp_12_21 rfl (by decide) ?_
            rw [fwUp_uc]
            refine w_iload dX12_askOf_126 rfl ?_
            refine w_istore [some (aR 12 0), some (aI (s : Int)), some (aI x), some (aI v1), some (aI (1 + (c : Int))), some (aI (1 + (c : Int))), some (aI dk), some (aI (max dk ((mBt v1 21) - dk)))] dX12_askOf_128 rfl (by decide) ?_
            refine w_iinc [some (aR 12 0), some (aI (s : Int)), some (aI x), some (aI v1), some (aI (1 + (c : Int))), some (aI ((1 + (c : Int)) + 1)), some (aI dk), some (aI (max dk ((mBt v1 21) - dk)))] dX12_askOf_130 rfl rfl (by decide) ?_
            refine w_goto 21 dX12_askOf_133 (by decide) ?_
            refine w_drop [6, 7] [some (aR 12 0), some (aI (s : Int)), some (aI x), some (aI v1), some (aI (1 + (c : Int))), some (aI ((1 + (c : Int)) + 1)), none, none] rfl ?_
            exact ih21 (by omega) _ _ _ _ (by omega) hA34 hr21
          · refine w_goto 130 dX12_askOf_117 (by decide) ?_
            refine w_iinc [some (aR 12 0), some (aI (s : Int)), some (aI x), some (aI v1), some (aI be), some (aI ((1 + (c : Int)) + 1)), some (aI dk), some (aI (max dk ((mBt v1 21) - dk)))] dX12_askOf_130 rfl rfl (by decide) ?_
            refine w_goto 21 dX12_askOf_133 (by decide) ?_
            refine w_drop [6, 7] [some (aR 12 0), some (aI (s : Int)), some (aI x), some (aI v1), some (aI be), some (aI ((1 + (c : Int)) + 1)), none, none] rfl ?_
            exact ih21 (by omega) _ _ _ _ (by omega) hA34 hr21
        · refine w_iload dX12_askOf_41 rfl ?_
          refine w_iload_n dX12_askOf_43 rfl ?_
          refine w_iload dX12_askOf_44 rfl ?_
          refine w_callS (d := d + 4) (S := [aI dk]) [aI v1, aI (c2 : Int)] dX12_askOf_46 ml_X12_257 ok_X12_bit st_X12_bit rfl (Nat.le_of_ble_eq_true rfl) ?_
          refine c_X12_bit (d := (d + 4)) v1 (c2 : Int) ?_
          show fwWP mX12_askOf (d + 5) 49 [some (aR 12 0), some (aI (s : Int)), some (aI x), some (aI v1), some (aI be), some (aI (1 + (c : Int))), some (aI dk), some (aI (c2 : Int))] [aI (fwAnd (fwShr v1 (c2 : Int)) 1), aI dk] (fwUc (fwUc h 42 0 A2) 12 0 r) Q
          have hbt9 := bit_01 v1 (c2 : Int)
          refine w_iconst dX12_askOf_49 ?_
          refine w_icmp_ne 84 dX12_askOf_50 (by decide) (by omega) (by omega) (fun c50 => ?_) (fun c50 => ?_)
          · refine w_iconst dX12_askOf_84 ?_
            refine w_iadd dX12_askOf_85 ?_
            refine w_istore [some (aR 12 0), some (aI (s : Int)), some (aI x), some (aI v1), some (aI be), some (aI (1 + (c : Int))), some (aI (dk + 0)), some (aI (c2 : Int))] dX12_askOf_86 rfl (by decide) ?_
            refine w_iinc [some (aR 12 0), some (aI (s : Int)), some (aI x), some (aI v1), some (aI be), some (aI (1 + (c : Int))), some (aI (dk + 0)), some (aI ((c2 : Int) + 1))] dX12_askOf_88 rfl rfl (by decide) ?_
            refine w_goto 34 dX12_askOf_91 (by decide) ?_
            exact ih34 (by omega) _ _ _ (by omega) (by omega) hA34
          · refine w_aload_n dX12_askOf_53 rfl ?_
            refine w_iload dX12_askOf_54 rfl ?_
            refine w_iload_n dX12_askOf_56 rfl ?_
            refine w_iload dX12_askOf_57 rfl ?_
            refine w_bipush dX12_askOf_59 rfl ?_
            refine w_icmp_gt 69 dX12_askOf_61 (by decide) (by omega) (by omega) (fun c61 => ?_) (fun c61 => ?_)
            · refine w_bipush dX12_askOf_69 rfl ?_
              refine w_iload dX12_askOf_71 rfl ?_
              refine w_isub dX12_askOf_73 ?_
              refine w_callV (d := d + 4) (S := [aI dk]) [aI (c2 : Int), aI x, aI (9 - (1 + (c : Int)))] dX12_askOf_74 ml_X12_364 ok_X12_wasDark vi_X12_wasDark rfl rfl (by decide) rfl (Nat.le_of_ble_eq_true rfl) ?_
              refine c_X12_wasDark (d := (d + 1)) c2 x (9 - (1 + (c : Int))) J R hA34 (by omega) (by omega) (by omega) ?_
              intro A74_12 hA74_12; rw [W12_42]
              show fwWP mX12_askOf (d + 5) 77 [some (aR 12 0), some (aI (s : Int)), some (aI x), some (aI v1), some (aI be), some (aI (1 + (c : Int))), some (aI dk), some (aI (c2 : Int))] [aI (fwB (mShadeB (gg 4 0 1) (mOH gg c2) x (9 - (1 + (c : Int))) = true)), aI dk] (fwUc (fwUc h 42 0 A74_12) 12 0 r) Q
              refine w_ifB_eq 84 dX12_askOf_77 (by decide) (fun c77 => ?_) (fun c77 => ?_)
              · refine w_iconst dX12_askOf_84 ?_
                refine w_iadd dX12_askOf_85 ?_
                refine w_istore [some (aR 12 0), some (aI (s : Int)), some (aI x), some (aI v1), some (aI be), some (aI (1 + (c : Int))), some (aI (dk + 0)), some (aI (c2 : Int))] dX12_askOf_86 rfl (by decide) ?_
                refine w_iinc [some (aR 12 0), some (aI (s : Int)), some (aI x), some (aI v1), some (aI be), some (aI (1 + (c : Int))), some (aI (dk + 0)), some (aI ((c2 : Int) + 1))] dX12_askOf_88 rfl rfl (by decide) ?_
                refine w_goto 34 dX12_askOf_91 (by decide) ?_
                exact ih34 (by omega) _ _ _ (by omega) (by omega) hA74_12
              · refine w_iconst dX12_askOf_80 ?_
                refine w_goto 85 dX12_askOf_81 (by decide) ?_
                refine w_iadd dX12_askOf_85 ?_
                refine w_istore [some (aR 12 0), some (aI (s : Int)), some (aI x), some (aI v1), some (aI be), some (aI (1 + (c : Int))), some (aI (dk + 1)), some (aI (c2 : Int))] dX12_askOf_86 rfl (by decide) ?_
                refine w_iinc [some (aR 12 0), some (aI (s : Int)), some (aI x), some (aI v1), some (aI be), some (aI (1 + (c : Int))), some (aI (dk + 1)), some (aI ((c2 : Int) + 1))] dX12_askOf_88 rfl rfl (by decide) ?_
                refine w_goto 34 dX12_askOf_91 (by decide) ?_
                exact ih34 (by omega) _ _ _ (by omega) (by omega) hA74_12
            · refine w_iload dX12_askOf_64 rfl ?_
              refine w_goto 74 dX12_askOf_66 (by decide) ?_
              refine w_callV (d := d + 4) (S := [aI dk]) [aI (c2 : Int), aI x, aI (1 + (c : Int))] dX12_askOf_74 ml_X12_364 ok_X12_wasDark vi_X12_wasDark rfl rfl (by decide) rfl (Nat.le_of_ble_eq_true rfl) ?_
              refine c_X12_wasDark (d := (d + 1)) c2 x (1 + (c : Int)) J R hA34 (by omega) (by omega) (by omega) ?_
              intro A74_14 hA74_14; rw [W12_42]
              show fwWP mX12_askOf (d + 5) 77 [some (aR 12 0), some (aI (s : Int)), some (aI x), some (aI v1), some (aI be), some (aI (1 + (c : Int))), some (aI dk), some (aI (c2 : Int))] [aI (fwB (mShadeB (gg 4 0 1) (mOH gg c2) x (1 + (c : Int)) = true)), aI dk] (fwUc (fwUc h 42 0 A74_14) 12 0 r) Q
              refine w_ifB_eq 84 dX12_askOf_77 (by decide) (fun c77 => ?_) (fun c77 => ?_)
              · refine w_iconst dX12_askOf_84 ?_
                refine w_iadd dX12_askOf_85 ?_
                refine w_istore [some (aR 12 0), some (aI (s : Int)), some (aI x), some (aI v1), some (aI be), some (aI (1 + (c : Int))), some (aI (dk + 0)), some (aI (c2 : Int))] dX12_askOf_86 rfl (by decide) ?_
                refine w_iinc [some (aR 12 0), some (aI (s : Int)), some (aI x), some (aI v1), some (aI be), some (aI (1 + (c : Int))), some (aI (dk + 0)), some (aI ((c2 : Int) + 1))] dX12_askOf_88 rfl rfl (by decide) ?_
                refine w_goto 34 dX12_askOf_91 (by decide) ?_
                exact ih34 (by omega) _ _ _ (by omega) (by omega) hA74_14
              · refine w_iconst dX12_askOf_80 ?_
                refine w_goto 85 dX12_askOf_81 (by decide) ?_
                refine w_iadd dX12_askOf_85 ?_
                refine w_istore [some (aR 12 0), some (aI (s : Int)), some (aI x), some (aI v1), some (aI be), some (aI (1 + (c : Int))), some (aI (dk + 1)), some (aI (c2 : Int))] dX12_askOf_86 rfl (by decide) ?_
                refine w_iinc [some (aR 12 0), some (aI (s : Int)), some (aI x), some (aI v1), some (aI be), some (aI (1 + (c : Int))), some (aI (dk + 1)), some (aI ((c2 : Int) + 1))] dX12_askOf_88 rfl rfl (by decide) ?_
                refine w_goto 34 dX12_askOf_91 (by decide) ?_
                exact ih34 (by omega) _ _ _ (by omega) (by omega) hA74_14
      exact lp34 0 (by omega) _ _ _ rfl (by omega) hA21
  exact lp21 0 (by omega) _ _ _ _ (by omega) hA3_1 ⟨rfl, rfl, rfl⟩
end
section
set_option maxRecDepth 100000 in
set_option maxHeartbeats 4000000 in
theorem c_w_old {d : Nat} {h gg : fwH} {Q : Option fwV → fwH → Prop} (x : Int) (J : cOk gg) (R : jF gg h) (K : jA gg h) (hsh : sc h) (S : jS gg h) (hx : -2147483648 ≤ x ∧ x < 2147483648) (k : ∀ v g, scr h g → Q (some (aI v)) g) : fwCt mX12_old (d + 7) [aR 12 0, aI x] h Q := by
  refine fwCt_of [some (aR 12 0), some (aI x), none] rfl rfl rfl ?_
  obtain ⟨hl, hP, hG, hM0, htd, hut, hlw, hhc, ha, hs, hT, hsc⟩ := id J
  have hb17 : hB (gg 17 0) := fun c hc => by have := hM0 c hc; omega
  obtain ⟨⟨g1, g2⟩, ⟨g3, g4⟩, ⟨g5, g6⟩, g7, -⟩ := id hG
  have h17_99 : ∀ c : Nat, (c : Int) < gg 4 0 1 → gg 17 0 c ≤ 99 := fun c hc => (hM0 c (by omega)).2
  have hpz := hP.1
  have hrs1 := R.2.2.2.2.2.2.2.2.2.2.2
  refine w_aload_n dX12_old_0 rfl ?_
  refine w_iload_n dX12_old_1 rfl ?_
  refine w_callV (d := d + 6) (S := []) [aI x] dX12_old_2 ml_X12_368 ok_X12_asksOld vi_X12_asksOld rfl rfl (by decide) rfl (Nat.le_of_ble_eq_true rfl) ?_
  refine c_X12_asksOld (d := d) x J R K S (by omega) ⟨fun hld => ?_, fun hld => ?_⟩
  · have hrn := mLdR_n gg x
    show fwWP mX12_old (d + 7) 5 [some (aR 12 0), some (aI x), none] [aI (mLdR gg x)] h Q
    refine w_istore_n [some (aR 12 0), some (aI x), some (aI (mLdR gg x))] dX12_old_5 rfl (by decide) ?_
    refine w_iload_n dX12_old_6 rfl ?_
    refine w_if_ge 14 dX12_old_7 (by decide) (by omega) (fun c7 => ?_) (fun c7 => ?_)
    · (exfalso; omega)
    · refine w_iload_n dX12_old_10 rfl ?_
      refine w_goto 20 dX12_old_11 (by decide) ?_
      exact w_iret dX12_old_20 rfl (k _ _ (scr_rf hsh))
  · intro A9 hA9
    show fwWP mX12_old (d + 7) 5 [some (aR 12 0), some (aI x), none] [aI 0] (fwUc h 42 0 A9) Q
    obtain ⟨s, rfl⟩ : ∃ s : Nat, x = (s : Int) := ⟨x.toNat, by omega⟩
    have hs35 := (hs s (by omega)).1
    have hz1 : gg 35 0 s ≠ -1 := hld.2.2.1
    have hz2 : gg 35 0 s % 3 = 0 := hld.2.2.2.1
    have hal : mAll (mSiP (gg 33 s) (gg 4 0 1)) (gg 35 0 s / 3).toNat = true := hld.2.2.2.2
    have hSl : oSl gg s := ⟨by omega, by omega, hz2, hal⟩
    refine w_istore_n [some (aR 12 0), some (aI (s : Int)), some (aI 0)] dX12_old_5 rfl (by decide) ?_
    refine w_iload_n dX12_old_6 rfl ?_
    refine w_if_ge 14 dX12_old_7 (by decide) (by omega) (fun c7 => ?_) (fun c7 => ?_)
    · refine w_aload_n dX12_old_14 rfl ?_
      refine w_iload_n dX12_old_15 rfl ?_
      refine w_iconst dX12_old_16 ?_
      refine w_callV (d := d + 6) (S := []) [aI (s : Int), aI (-1)] dX12_old_17 ml_X12_371 ok_X12_oldBy vi_X12_oldBy rfl rfl (by decide) rfl (Nat.le_of_ble_eq_true rfl) ?_
      refine c_w_oldBy (d := (d + 2)) s (-1) J R S hs hSl hA9 (by omega) ?_
      intro v3 A17_3 hA17_3; rw [fwUc_uc]
      show fwWP mX12_old (d + 7) 20 [some (aR 12 0), some (aI (s : Int)), some (aI 0)] [aI v3] (fwUc h 42 0 A17_3) Q
      exact w_iret dX12_old_20 rfl (k _ _ (scr_uc (scr_rf hsh) rfl (by decide) (by decide) (by decide)))
    · (exfalso; omega)
set_option maxRecDepth 100000 in
set_option maxHeartbeats 4000000 in
theorem c_w_ask {d : Nat} {h gg : fwH} {Q : Option fwV → fwH → Prop} (x : Int) (y : Int) (J : cOk gg) (R : jF gg h) (K : jA gg h) (hsh : sc h) (S : jS gg h) (hx : -2147483648 ≤ x ∧ x < 2147483648) (hy : -2147483648 ≤ y ∧ y < 2147483648) (k : ∀ v g, scr h g → Q (some (aI v)) g) : fwCt mX12_ask (d + 7) [aR 12 0, aI x, aI y] h Q := by
  refine fwCt_of [some (aR 12 0), some (aI x), some (aI y), none] rfl rfl rfl ?_
  obtain ⟨hl, hP, hG, hM0, htd, hut, hlw, hhc, ha, hs, hT, hsc⟩ := id J
  have hb17 : hB (gg 17 0) := fun c hc => by have := hM0 c hc; omega
  obtain ⟨⟨g1, g2⟩, ⟨g3, g4⟩, ⟨g5, g6⟩, g7, -⟩ := id hG
  have h17_99 : ∀ c : Nat, (c : Int) < gg 4 0 1 → gg 17 0 c ≤ 99 := fun c hc => (hM0 c (by omega)).2
  have hpz := hP.1
  have hrs1 := R.2.2.2.2.2.2.2.2.2.2.2
  refine w_aload_n dX12_ask_0 rfl ?_
  refine w_iload_n dX12_ask_1 rfl ?_
  refine w_callV (d := d + 6) (S := []) [aI x] dX12_ask_2 ml_X12_368 ok_X12_asksOld vi_X12_asksOld rfl rfl (by decide) rfl (Nat.le_of_ble_eq_true rfl) ?_
  refine c_X12_asksOld (d := d) x J R K S (by omega) ⟨fun hld => ?_, fun hld => ?_⟩
  · have hrn := mLdR_n gg x
    show fwWP mX12_ask (d + 7) 5 [some (aR 12 0), some (aI x), some (aI y), none] [aI (mLdR gg x)] h Q
    refine w_istore_n [some (aR 12 0), some (aI x), some (aI y), some (aI (mLdR gg x))] dX12_ask_5 rfl (by decide) ?_
    refine w_iload_n dX12_ask_6 rfl ?_
    refine w_bipush dX12_ask_7 rfl ?_
    refine w_icmp_ne 26 dX12_ask_9 (by decide) (by omega) (by omega) (fun c9 => ?_) (fun c9 => ?_)
    · refine w_iload_n dX12_ask_26 rfl ?_
      refine w_if_ge 34 dX12_ask_27 (by decide) (by omega) (fun c27 => ?_) (fun c27 => ?_)
      · (exfalso; omega)
      · refine w_iload_n dX12_ask_30 rfl ?_
        refine w_goto 54 dX12_ask_31 (by decide) ?_
        exact w_iret dX12_ask_54 rfl (k _ _ (scr_rf hsh))
    · refine w_aload_n dX12_ask_12 rfl ?_
      refine w_iload_n dX12_ask_13 rfl ?_
      refine w_i2l dX12_ask_14 (by omega) ?_
      refine w_callV (d := d + 6) (S := []) [aJ y] dX12_ask_15 ml_X12_203 ok_X12_isCell vi_X12_isCell rfl rfl (by decide) rfl (Nat.le_of_ble_eq_true rfl) ?_
      refine c_X12_isCell (d := (d + 5)) y J R (by omega) ?_
      show fwWP mX12_ask (d + 7) 18 [some (aR 12 0), some (aI x), some (aI y), some (aI (mLdR gg x))] [aI (fwB (0 ≤ y ∧ y ≤ gg 4 0 1 - 1))] h Q
      refine w_ifB_ne 26 dX12_ask_18 (by decide) (fun c18 => ?_) (fun c18 => ?_)
      · refine w_iload_n dX12_ask_26 rfl ?_
        refine w_if_ge 34 dX12_ask_27 (by decide) (by omega) (fun c27 => ?_) (fun c27 => ?_)
        · (exfalso; omega)
        · refine w_iload_n dX12_ask_30 rfl ?_
          refine w_goto 54 dX12_ask_31 (by decide) ?_
          exact w_iret dX12_ask_54 rfl (k _ _ (scr_rf hsh))
      · refine w_bipush dX12_ask_21 rfl ?_
        refine w_goto 54 dX12_ask_23 (by decide) ?_
        exact w_iret dX12_ask_54 rfl (k _ _ (scr_rf hsh))
  · intro A9 hA9
    show fwWP mX12_ask (d + 7) 5 [some (aR 12 0), some (aI x), some (aI y), none] [aI 0] (fwUc h 42 0 A9) Q
    obtain ⟨s, rfl⟩ : ∃ s : Nat, x = (s : Int) := ⟨x.toNat, by omega⟩
    have hs35 := (hs s (by omega)).1
    have hz1 : gg 35 0 s ≠ -1 := hld.2.2.1
    have hz2 : gg 35 0 s % 3 = 0 := hld.2.2.2.1
    have hal : mAll (mSiP (gg 33 s) (gg 4 0 1)) (gg 35 0 s / 3).toNat = true := hld.2.2.2.2
    have hSl : oSl gg s := ⟨by omega, by omega, hz2, hal⟩
    refine w_istore_n [some (aR 12 0), some (aI (s : Int)), some (aI y), some (aI 0)] dX12_ask_5 rfl (by decide) ?_
    refine w_iload_n dX12_ask_6 rfl ?_
    refine w_bipush dX12_ask_7 rfl ?_
    refine w_icmp_ne 26 dX12_ask_9 (by decide) (by omega) (by omega) (fun c9 => ?_) (fun c9 => ?_)
    · refine w_iload_n dX12_ask_26 rfl ?_
      refine w_if_ge 34 dX12_ask_27 (by decide) (by omega) (fun c27 => ?_) (fun c27 => ?_)
      · refine w_aload_n dX12_ask_34 rfl ?_
        refine w_iload_n dX12_ask_35 rfl ?_
        refine w_i2l dX12_ask_36 (by omega) ?_
        refine w_callV (d := d + 6) (S := []) [aJ y] dX12_ask_37 ml_X12_203 ok_X12_isCell vi_X12_isCell rfl rfl (by decide) rfl (Nat.le_of_ble_eq_true rfl) ?_
        refine c_X12_isCell (d := (d + 5)) y J R (by omega) ?_
        show fwWP mX12_ask (d + 7) 40 [some (aR 12 0), some (aI (s : Int)), some (aI y), some (aI 0)] [aI (fwB (0 ≤ y ∧ y ≤ gg 4 0 1 - 1))] (fwUc h 42 0 A9) Q
        refine w_ifB_eq 52 dX12_ask_40 (by decide) (fun c40 => ?_) (fun c40 => ?_)
        · refine w_bipush dX12_ask_52 rfl ?_
          exact w_iret dX12_ask_54 rfl (k _ _ (scr_uc (scr_rf hsh) rfl (by decide) (by decide) (by decide)))
        · refine w_aload_n dX12_ask_43 rfl ?_
          refine w_iload_n dX12_ask_44 rfl ?_
          refine w_iload_n dX12_ask_45 rfl ?_
          refine w_callV (d := d + 6) (S := []) [aI (s : Int), aI y] dX12_ask_46 ml_X12_377 ok_X12_askOf vi_X12_askOf rfl rfl (by decide) rfl (Nat.le_of_ble_eq_true rfl) ?_
          refine c_w_askOf (d := (d + 1)) s y J R S hs hSl hA9 (by omega) ?_
          intro v8 A8 r8 hA8 hr8; rw [fwUc_uc]
          show fwWP mX12_ask (d + 7) 49 [some (aR 12 0), some (aI (s : Int)), some (aI y), some (aI 0)] [aI v8] (fwUc (fwUc h 42 0 A8) 12 0 r8) Q
          refine w_goto 54 dX12_ask_49 (by decide) ?_
          exact w_iret dX12_ask_54 rfl (k _ _ (scr_12 (scr_uc (scr_rf hsh) rfl (by decide) (by decide) (by decide)) hr8.1 hr8.2.1 hr8.2.2))
      · (exfalso; omega)
    · refine w_aload_n dX12_ask_12 rfl ?_
      refine w_iload_n dX12_ask_13 rfl ?_
      refine w_i2l dX12_ask_14 (by omega) ?_
      refine w_callV (d := d + 6) (S := []) [aJ y] dX12_ask_15 ml_X12_203 ok_X12_isCell vi_X12_isCell rfl rfl (by decide) rfl (Nat.le_of_ble_eq_true rfl) ?_
      refine c_X12_isCell (d := (d + 5)) y J R (by omega) ?_
      show fwWP mX12_ask (d + 7) 18 [some (aR 12 0), some (aI (s : Int)), some (aI y), some (aI 0)] [aI (fwB (0 ≤ y ∧ y ≤ gg 4 0 1 - 1))] (fwUc h 42 0 A9) Q
      refine w_ifB_ne 26 dX12_ask_18 (by decide) (fun c18 => ?_) (fun c18 => ?_)
      · refine w_iload_n dX12_ask_26 rfl ?_
        refine w_if_ge 34 dX12_ask_27 (by decide) (by omega) (fun c27 => ?_) (fun c27 => ?_)
        · refine w_aload_n dX12_ask_34 rfl ?_
          refine w_iload_n dX12_ask_35 rfl ?_
          refine w_i2l dX12_ask_36 (by omega) ?_
          refine w_callV (d := d + 6) (S := []) [aJ y] dX12_ask_37 ml_X12_203 ok_X12_isCell vi_X12_isCell rfl rfl (by decide) rfl (Nat.le_of_ble_eq_true rfl) ?_
          refine c_X12_isCell (d := (d + 5)) y J R (by omega) ?_
          show fwWP mX12_ask (d + 7) 40 [some (aR 12 0), some (aI (s : Int)), some (aI y), some (aI 0)] [aI (fwB (0 ≤ y ∧ y ≤ gg 4 0 1 - 1))] (fwUc h 42 0 A9) Q
          refine w_ifB_eq 52 dX12_ask_40 (by decide) (fun c40 => ?_) (fun c40 => ?_)
          · refine w_bipush dX12_ask_52 rfl ?_
            exact w_iret dX12_ask_54 rfl (k _ _ (scr_uc (scr_rf hsh) rfl (by decide) (by decide) (by decide)))
          · refine w_aload_n dX12_ask_43 rfl ?_
            refine w_iload_n dX12_ask_44 rfl ?_
            refine w_iload_n dX12_ask_45 rfl ?_
            refine w_callV (d := d + 6) (S := []) [aI (s : Int), aI y] dX12_ask_46 ml_X12_377 ok_X12_askOf vi_X12_askOf rfl rfl (by decide) rfl (Nat.le_of_ble_eq_true rfl) ?_
            refine c_w_askOf (d := (d + 1)) s y J R S hs hSl hA9 (by omega) ?_
            intro v12 A12 r12 hA12 hr12; rw [fwUc_uc]
            show fwWP mX12_ask (d + 7) 49 [some (aR 12 0), some (aI (s : Int)), some (aI y), some (aI 0)] [aI v12] (fwUc (fwUc h 42 0 A12) 12 0 r12) Q
            refine w_goto 54 dX12_ask_49 (by decide) ?_
            exact w_iret dX12_ask_54 rfl (k _ _ (scr_12 (scr_uc (scr_rf hsh) rfl (by decide) (by decide) (by decide)) hr12.1 hr12.2.1 hr12.2.2))
        · (exfalso; omega)
      · refine w_bipush dX12_ask_21 rfl ?_
        refine w_goto 54 dX12_ask_23 (by decide) ?_
        exact w_iret dX12_ask_54 rfl (k _ _ (scr_uc (scr_rf hsh) rfl (by decide) (by decide) (by decide)))
set_option maxRecDepth 100000 in
set_option maxHeartbeats 4000000 in
theorem c_w_leaves {d : Nat} {h gg : fwH} {Q : Option fwV → fwH → Prop} (x : Int) (y : Int) (J : cOk gg) (R : jF gg h) (K : jA gg h) (hsh : sc h) (S : jS gg h) (hx : -2147483648 ≤ x ∧ x < 2147483648) (hy : -2147483648 ≤ y ∧ y < 2147483648) (k : ∀ v g, scr h g → Q (some (aI v)) g) : fwCt mX12_leaves (d + 7) [aR 12 0, aI x, aI y] h Q := by
  refine fwCt_of [some (aR 12 0), some (aI x), some (aI y), none] rfl rfl rfl ?_
  obtain ⟨hl, hP, hG, hM0, htd, hut, hlw, hhc, ha, hs, hT, hsc⟩ := id J
  have hb17 : hB (gg 17 0) := fun c hc => by have := hM0 c hc; omega
  obtain ⟨⟨g1, g2⟩, ⟨g3, g4⟩, ⟨g5, g6⟩, g7, -⟩ := id hG
  have h17_99 : ∀ c : Nat, (c : Int) < gg 4 0 1 → gg 17 0 c ≤ 99 := fun c hc => (hM0 c (by omega)).2
  have hpz := hP.1
  have hrs1 := R.2.2.2.2.2.2.2.2.2.2.2
  refine w_aload_n dX12_leaves_0 rfl ?_
  refine w_iload_n dX12_leaves_1 rfl ?_
  refine w_callV (d := d + 6) (S := []) [aI x] dX12_leaves_2 ml_X12_368 ok_X12_asksOld vi_X12_asksOld rfl rfl (by decide) rfl (Nat.le_of_ble_eq_true rfl) ?_
  refine c_X12_asksOld (d := d) x J R K S (by omega) ⟨fun hld => ?_, fun hld => ?_⟩
  · have hrn := mLdR_n gg x
    show fwWP mX12_leaves (d + 7) 5 [some (aR 12 0), some (aI x), some (aI y), none] [aI (mLdR gg x)] h Q
    refine w_istore_n [some (aR 12 0), some (aI x), some (aI y), some (aI (mLdR gg x))] dX12_leaves_5 rfl (by decide) ?_
    refine w_iload_n dX12_leaves_6 rfl ?_
    refine w_if_lt 19 dX12_leaves_7 (by decide) (by omega) (fun c7 => ?_) (fun c7 => ?_)
    · refine w_iload_n dX12_leaves_19 rfl ?_
      refine w_bipush dX12_leaves_20 rfl ?_
      refine w_icmp_ne 39 dX12_leaves_22 (by decide) (by omega) (by omega) (fun c22 => ?_) (fun c22 => ?_)
      · refine w_bipush dX12_leaves_39 rfl ?_
        exact w_iret dX12_leaves_41 rfl (k _ _ (scr_rf hsh))
      · refine w_aload_n dX12_leaves_25 rfl ?_
        refine w_iload_n dX12_leaves_26 rfl ?_
        refine w_i2l dX12_leaves_27 (by omega) ?_
        refine w_callV (d := d + 6) (S := []) [aJ y] dX12_leaves_28 ml_X12_203 ok_X12_isCell vi_X12_isCell rfl rfl (by decide) rfl (Nat.le_of_ble_eq_true rfl) ?_
        refine c_X12_isCell (d := (d + 5)) y J R (by omega) ?_
        show fwWP mX12_leaves (d + 7) 31 [some (aR 12 0), some (aI x), some (aI y), some (aI (mLdR gg x))] [aI (fwB (0 ≤ y ∧ y ≤ gg 4 0 1 - 1))] h Q
        refine w_ifB_eq 39 dX12_leaves_31 (by decide) (fun c31 => ?_) (fun c31 => ?_)
        · refine w_bipush dX12_leaves_39 rfl ?_
          exact w_iret dX12_leaves_41 rfl (k _ _ (scr_rf hsh))
        · refine w_bipush dX12_leaves_34 rfl ?_
          refine w_goto 41 dX12_leaves_36 (by decide) ?_
          exact w_iret dX12_leaves_41 rfl (k _ _ (scr_rf hsh))
    · (exfalso; omega)
  · intro A9 hA9
    show fwWP mX12_leaves (d + 7) 5 [some (aR 12 0), some (aI x), some (aI y), none] [aI 0] (fwUc h 42 0 A9) Q
    obtain ⟨s, rfl⟩ : ∃ s : Nat, x = (s : Int) := ⟨x.toNat, by omega⟩
    have hs35 := (hs s (by omega)).1
    have hz1 : gg 35 0 s ≠ -1 := hld.2.2.1
    have hz2 : gg 35 0 s % 3 = 0 := hld.2.2.2.1
    have hal : mAll (mSiP (gg 33 s) (gg 4 0 1)) (gg 35 0 s / 3).toNat = true := hld.2.2.2.2
    have hSl : oSl gg s := ⟨by omega, by omega, hz2, hal⟩
    refine w_istore_n [some (aR 12 0), some (aI (s : Int)), some (aI y), some (aI 0)] dX12_leaves_5 rfl (by decide) ?_
    refine w_iload_n dX12_leaves_6 rfl ?_
    refine w_if_lt 19 dX12_leaves_7 (by decide) (by omega) (fun c7 => ?_) (fun c7 => ?_)
    · (exfalso; omega)
    · refine w_aload_n dX12_leaves_10 rfl ?_
      refine w_iload_n dX12_leaves_11 rfl ?_
      refine w_i2l dX12_leaves_12 (by omega) ?_
      refine w_callV (d := d + 6) (S := []) [aJ y] dX12_leaves_13 ml_X12_203 ok_X12_isCell vi_X12_isCell rfl rfl (by decide) rfl (Nat.le_of_ble_eq_true rfl) ?_
      refine c_X12_isCell (d := (d + 5)) y J R (by omega) ?_
      show fwWP mX12_leaves (d + 7) 16 [some (aR 12 0), some (aI (s : Int)), some (aI y), some (aI 0)] [aI (fwB (0 ≤ y ∧ y ≤ gg 4 0 1 - 1))] (fwUc h 42 0 A9) Q
      refine w_ifB_ne 42 dX12_leaves_16 (by decide) (fun c16 => ?_) (fun c16 => ?_)
      · refine w_aload_n dX12_leaves_42 rfl ?_
        refine w_iload_n dX12_leaves_43 rfl ?_
        refine w_iload_n dX12_leaves_44 rfl ?_
        refine w_callV (d := d + 6) (S := []) [aI (s : Int), aI y] dX12_leaves_45 ml_X12_377 ok_X12_askOf vi_X12_askOf rfl rfl (by decide) rfl (Nat.le_of_ble_eq_true rfl) ?_
        refine c_w_askOf (d := (d + 1)) s y J R S hs hSl hA9 (by omega) ?_
        intro v6 A6 r6 hA6 hr6; rw [fwUc_uc]
        show fwWP mX12_leaves (d + 7) 48 [some (aR 12 0), some (aI (s : Int)), some (aI y), some (aI 0)] [aI v6] (fwUc (fwUc h 42 0 A6) 12 0 r6) Q
        refine w_pop dX12_leaves_48 rfl ?_
        refine w_aload_n dX12_leaves_49 rfl ?_
        refine w_getiE (v := r6 21) dX12_leaves_50 fl_X12_374 rfl (by decide) rfl ?_
        exact w_iret dX12_leaves_53 rfl (k _ _ (scr_12 (scr_uc (scr_rf hsh) rfl (by decide) (by decide) (by decide)) hr6.1 hr6.2.1 hr6.2.2))
      · refine w_iload_n dX12_leaves_19 rfl ?_
        refine w_bipush dX12_leaves_20 rfl ?_
        refine w_icmp_ne 39 dX12_leaves_22 (by decide) (by omega) (by omega) (fun c22 => ?_) (fun c22 => ?_)
        · refine w_bipush dX12_leaves_39 rfl ?_
          exact w_iret dX12_leaves_41 rfl (k _ _ (scr_uc (scr_rf hsh) rfl (by decide) (by decide) (by decide)))
        · refine w_aload_n dX12_leaves_25 rfl ?_
          refine w_iload_n dX12_leaves_26 rfl ?_
          refine w_i2l dX12_leaves_27 (by omega) ?_
          refine w_callV (d := d + 6) (S := []) [aJ y] dX12_leaves_28 ml_X12_203 ok_X12_isCell vi_X12_isCell rfl rfl (by decide) rfl (Nat.le_of_ble_eq_true rfl) ?_
          refine c_X12_isCell (d := (d + 5)) y J R (by omega) ?_
          show fwWP mX12_leaves (d + 7) 31 [some (aR 12 0), some (aI (s : Int)), some (aI y), some (aI 0)] [aI (fwB (0 ≤ y ∧ y ≤ gg 4 0 1 - 1))] (fwUc h 42 0 A9) Q
          refine w_ifB_eq 39 dX12_leaves_31 (by decide) (fun c31 => ?_) (fun c31 => ?_)
          · refine w_bipush dX12_leaves_39 rfl ?_
            exact w_iret dX12_leaves_41 rfl (k _ _ (scr_uc (scr_rf hsh) rfl (by decide) (by decide) (by decide)))
          · refine w_bipush dX12_leaves_34 rfl ?_
            refine w_goto 41 dX12_leaves_36 (by decide) ?_
            exact w_iret dX12_leaves_41 rfl (k _ _ (scr_uc (scr_rf hsh) rfl (by decide) (by decide) (by decide)))
set_option maxRecDepth 100000 in
set_option maxHeartbeats 4000000 in
theorem c_w_doubts {d : Nat} {h gg : fwH} {Q : Option fwV → fwH → Prop} (x : Int) (J : cOk gg) (R : jF gg h) (K : jA gg h) (hsh : sc h) (S : jS gg h) (hx : -2147483648 ≤ x ∧ x < 2147483648) (k : ∀ v g, scr h g → Q (some (aI v)) g) : fwCt mX12_doubts (d + 7) [aR 12 0, aI x] h Q := by
  refine fwCt_of [some (aR 12 0), some (aI x), none, none, none] rfl rfl rfl ?_
  obtain ⟨hl, hP, hG, hM0, htd, hut, hlw, hhc, ha, hs, hT, hsc⟩ := id J
  have hb17 : hB (gg 17 0) := fun c hc => by have := hM0 c hc; omega
  obtain ⟨⟨g1, g2⟩, ⟨g3, g4⟩, ⟨g5, g6⟩, g7, -⟩ := id hG
  have h17_99 : ∀ c : Nat, (c : Int) < gg 4 0 1 → gg 17 0 c ≤ 99 := fun c hc => (hM0 c (by omega)).2
  have hpz := hP.1
  have hrs1 := R.2.2.2.2.2.2.2.2.2.2.2
  refine w_aload_n dX12_doubts_0 rfl ?_
  refine w_iload_n dX12_doubts_1 rfl ?_
  refine w_callV (d := d + 6) (S := []) [aI x] dX12_doubts_2 ml_X12_368 ok_X12_asksOld vi_X12_asksOld rfl rfl (by decide) rfl (Nat.le_of_ble_eq_true rfl) ?_
  refine c_X12_asksOld (d := d) x J R K S (by omega) ⟨fun hld => ?_, fun hld => ?_⟩
  · have hrn := mLdR_n gg x
    show fwWP mX12_doubts (d + 7) 5 [some (aR 12 0), some (aI x), none, none, none] [aI (mLdR gg x)] h Q
    refine w_istore_n [some (aR 12 0), some (aI x), some (aI (mLdR gg x)), none, none] dX12_doubts_5 rfl (by decide) ?_
    refine w_iload_n dX12_doubts_6 rfl ?_
    refine w_if_ge 12 dX12_doubts_7 (by decide) (by omega) (fun c7 => ?_) (fun c7 => ?_)
    · (exfalso; omega)
    · refine w_iload_n dX12_doubts_10 rfl ?_
      exact w_iret dX12_doubts_11 rfl (k _ _ (scr_rf hsh))
  · intro A9 hA9
    show fwWP mX12_doubts (d + 7) 5 [some (aR 12 0), some (aI x), none, none, none] [aI 0] (fwUc h 42 0 A9) Q
    obtain ⟨s, rfl⟩ : ∃ s : Nat, x = (s : Int) := ⟨x.toNat, by omega⟩
    have hs35 := (hs s (by omega)).1
    have hz1 : gg 35 0 s ≠ -1 := hld.2.2.1
    have hz2 : gg 35 0 s % 3 = 0 := hld.2.2.2.1
    have hal : mAll (mSiP (gg 33 s) (gg 4 0 1)) (gg 35 0 s / 3).toNat = true := hld.2.2.2.2
    have hSl : oSl gg s := ⟨by omega, by omega, hz2, hal⟩
    refine w_istore_n [some (aR 12 0), some (aI (s : Int)), some (aI 0), none, none] dX12_doubts_5 rfl (by decide) ?_
    refine w_iload_n dX12_doubts_6 rfl ?_
    refine w_if_ge 12 dX12_doubts_7 (by decide) (by omega) (fun c7 => ?_) (fun c7 => ?_)
    · refine w_iconst dX12_doubts_12 ?_
      refine w_istore_n [some (aR 12 0), some (aI (s : Int)), some (aI 0), some (aI 0), none] dX12_doubts_13 rfl (by decide) ?_
      refine w_iconst dX12_doubts_14 ?_
      refine w_istore [some (aR 12 0), some (aI (s : Int)), some (aI 0), some (aI 0), some (aI 0)] dX12_doubts_15 rfl (by decide) ?_
      have lp17 : ∀ c : Nat, c ≤ (gg 35 0 s / 3).toNat → ∀ (nd y17 : Int) (A : Nat → Int), y17 = 3 * (c : Int) → hiR (gg 4 0 1) A (gg 17 0) → fwWP mX12_doubts (d + 7) 17 [some (aR 12 0), some (aI (s : Int)), some (aI 0), some (aI nd), some (aI y17)] [] (fwUc h 42 0 A) Q := by
        refine fw_up (fun c hc17 ih17 => ?_)
        intro nd y17 A ey17 hA17
        subst ey17
        show fwWP mX12_doubts (d + 7) 17 [some (aR 12 0), some (aI (s : Int)), some (aI 0), some (aI nd), some (aI (3 * (c : Int)))] [] (fwUc h 42 0 A) Q
        refine w_iload dX12_doubts_17 rfl ?_
        refine w_aload_n dX12_doubts_19 rfl ?_
        refine w_getr 46 0 dX12_doubts_20 fl_X12_47 rfl (by decide) ?_
        refine w_iload_n dX12_doubts_23 rfl ?_
        refine w_ialdE (v := gg 35 0 s) dX12_doubts_24 rfl (by decide) (by omega) (by omega) (S s (by omega)).1 ?_
        refine w_icmp_ge 52 dX12_doubts_25 (by decide) (by omega) (by omega) (fun c25 => ?_) (fun c25 => ?_)
        · refine w_iload_n dX12_doubts_52 rfl ?_
          exact w_iret dX12_doubts_53 rfl (k _ _ (scr_uc (scr_rf hsh) rfl (by decide) (by decide) (by decide)))
        · refine w_iload_n dX12_doubts_28 rfl ?_
          refine w_aload_n dX12_doubts_29 rfl ?_
          refine w_iload_n dX12_doubts_30 rfl ?_
          refine w_iload dX12_doubts_31 rfl ?_
          refine w_callV (d := d + 6) (S := [aI nd]) [aI (s : Int), aI (3 * (c : Int))] dX12_doubts_33 ml_X12_371 ok_X12_oldBy vi_X12_oldBy rfl rfl (by decide) rfl (Nat.le_of_ble_eq_true rfl) ?_
          refine c_w_oldBy (d := (d + 2)) s (3 * (c : Int)) J R S hs hSl hA17 (by omega) ?_
          intro v4 A33_4 hA33_4; rw [fwUc_uc]
          show fwWP mX12_doubts (d + 7) 36 [some (aR 12 0), some (aI (s : Int)), some (aI 0), some (aI nd), some (aI (3 * (c : Int)))] [aI v4, aI nd] (fwUc h 42 0 A33_4) Q
          refine w_ifF_eq 43 dX12_doubts_36 (by decide) ?_ ?_
          · refine w_iconst dX12_doubts_43 ?_
            refine w_iadd dX12_doubts_44 ?_
            refine w_istore_n [some (aR 12 0), some (aI (s : Int)), some (aI 0), some (aI (nd + 0)), some (aI (3 * (c : Int)))] dX12_doubts_45 rfl (by decide) ?_
            refine w_iinc [some (aR 12 0), some (aI (s : Int)), some (aI 0), some (aI (nd + 0)), some (aI ((3 * (c : Int)) + 3))] dX12_doubts_46 rfl rfl (by decide) ?_
            refine w_goto 17 dX12_doubts_49 (by decide) ?_
            exact ih17 (by omega) _ _ _ (by omega) hA33_4
          · refine w_iconst dX12_doubts_39 ?_
            refine w_goto 44 dX12_doubts_40 (by decide) ?_
            refine w_iadd dX12_doubts_44 ?_
            refine w_istore_n [some (aR 12 0), some (aI (s : Int)), some (aI 0), some (aI (nd + 1)), some (aI (3 * (c : Int)))] dX12_doubts_45 rfl (by decide) ?_
            refine w_iinc [some (aR 12 0), some (aI (s : Int)), some (aI 0), some (aI (nd + 1)), some (aI ((3 * (c : Int)) + 3))] dX12_doubts_46 rfl rfl (by decide) ?_
            refine w_goto 17 dX12_doubts_49 (by decide) ?_
            exact ih17 (by omega) _ _ _ (by omega) hA33_4
      exact lp17 0 (by omega) _ _ _ (by omega) hA9
    · (exfalso; omega)
set_option maxRecDepth 100000 in
set_option maxHeartbeats 4000000 in
theorem c_w_asksNames0 {d : Nat} {h gg : fwH} {Q : Option fwV → fwH → Prop} (x : Int) (J : cOk gg) (R : jF gg h) (S : jS gg h) (hx : -2147483648 ≤ x ∧ x < 2147483648) (k : Q (some (aI (-2))) h) : fwCt mX12_asksNames (d + 2) [aR 12 0, aI x, aI 0] h Q := by
  refine fwCt_of [some (aR 12 0), some (aI x), some (aI 0), none] rfl rfl rfl ?_
  obtain ⟨hl, hP, hG, -, -, -, hlw, -, ha, hs, -, hsc⟩ := id J
  obtain ⟨⟨g1, g2⟩, ⟨g3, g4⟩, ⟨g5, g6⟩, g7, -⟩ := id hG
  have hpz := hP.1
  refine w_iload_n dX12_asksNames_0 rfl ?_
  refine w_callS (d := d + 1) (S := []) [aI x] dX12_asksNames_1 ml_X12_357 ok_X12_isSlot st_X12_isSlot rfl (Nat.le_of_ble_eq_true rfl) ?_
  refine c_X12_isSlot (d := d) x (by omega) ?_
  show fwWP mX12_asksNames (d + 2) 4 [some (aR 12 0), some (aI x), some (aI 0), none] [aI (fwB (0 ≤ x ∧ x ≤ 3))] h Q
  refine w_ifB_eq 18 dX12_asksNames_4 (by decide) (fun c4 => ?_) (fun c4 => ?_)
  · refine w_bipush dX12_asksNames_18 rfl ?_
    exact w_iret dX12_asksNames_20 rfl k
  · refine w_aload_n dX12_asksNames_7 rfl ?_
    refine w_callV (d := d + 1) (S := []) [] dX12_asksNames_8 ml_X12_73 ok_X12_isMount vi_X12_isMount rfl rfl (by decide) rfl (Nat.le_of_ble_eq_true rfl) ?_
    refine c_X12_isMount (d := (d + 1)) J R ?_
    show fwWP mX12_asksNames (d + 2) 11 [some (aR 12 0), some (aI x), some (aI 0), none] [aI (fwB (0 < gg 3 0 6))] h Q
    refine w_ifB_eq 18 dX12_asksNames_11 (by decide) (fun c11 => ?_) (fun c11 => ?_)
    · refine w_bipush dX12_asksNames_18 rfl ?_
      exact w_iret dX12_asksNames_20 rfl k
    · refine w_iload_n dX12_asksNames_14 rfl ?_
      refine w_if_ne 21 dX12_asksNames_15 (by decide) (by omega) (fun c15 => ?_) (fun c15 => ?_)
      · (exfalso; omega)
      · refine w_bipush dX12_asksNames_18 rfl ?_
        exact w_iret dX12_asksNames_20 rfl k
theorem c_w_askN {d : Nat} {h gg : fwH} {Q : Option fwV → fwH → Prop} {P : Prop} [Decidable P] (x : Int) (J : cOk gg) (R : jF gg h) (S : jS gg h) (hx : -2147483648 ≤ x ∧ x < 2147483648) (k1 : ∀ v : Int, (v = -6 ∨ v = -2) → Q (some (aI v)) h) (k2 : mRl gg x → P → Q (some (aI 0)) h) : fwCt mX12_asksNames (d + 2) [aR 12 0, aI x, aI (fwB P)] h Q := by
  by_cases p : P
  · rw [fwB_t p]
    exact c_X12_asksNames x J R S hx ⟨fun _ => k1 _ (mRlR_n gg x), fun r => k2 r p⟩
  · rw [fwB_f p]
    exact c_w_asksNames0 x J R S hx (k1 _ (Or.inr rfl))
set_option maxRecDepth 100000 in
set_option maxHeartbeats 4000000 in
theorem c_w_struck {d : Nat} {h gg : fwH} {Q : Option fwV → fwH → Prop} (x : Int) (y : Int) (J : cOk gg) (R : jF gg h) (K : jA gg h) (hsh : sc h) (S : jS gg h) (hx : -2147483648 ≤ x ∧ x < 2147483648) (hy : -2147483648 ≤ y ∧ y < 2147483648) (k : ∀ v g, scr h g → Q (some (aI v)) g) : fwCt mX12_struck (d + 3) [aR 12 0, aI x, aI y] h Q := by
  refine fwCt_of [some (aR 12 0), some (aI x), some (aI y), none, none, none] rfl rfl rfl ?_
  obtain ⟨hl, hP, hG, hM0, htd, hut, hlw, hhc, ha, hs, hT, hsc⟩ := id J
  have hb17 : hB (gg 17 0) := fun c hc => by have := hM0 c hc; omega
  obtain ⟨⟨g1, g2⟩, ⟨g3, g4⟩, ⟨g5, g6⟩, g7, -⟩ := id hG
  have h17_99 : ∀ c : Nat, (c : Int) < gg 4 0 1 → gg 17 0 c ≤ 99 := fun c hc => (hM0 c (by omega)).2
  have hpz := hP.1
  have hrs1 := R.2.2.2.2.2.2.2.2.2.2.2
  refine w_aload_n dX12_struck_0 rfl ?_
  refine w_iload_n dX12_struck_1 rfl ?_
  refine w_iload_n dX12_struck_2 rfl ?_
  refine w_i2l dX12_struck_3 (by omega) ?_
  refine w_lconst (z := 0) dX12_struck_4 rfl ?_
  refine w_lconst (z := 1) dX12_struck_5 rfl ?_
  refine w_callS (d := d + 2) (S := [aI x, aR 12 0]) [aJ y, aJ 0, aJ 1] dX12_struck_6 ml_X12_65 ok_X12_in st_X12_in rfl (Nat.le_of_ble_eq_true rfl) ?_
  refine c_X12_in (d := (d + 2)) y 0 1 (by omega) (by omega) (by omega) ?_
  show fwWP mX12_struck (d + 3) 9 [some (aR 12 0), some (aI x), some (aI y), none, none, none] [aI (fwB (0 ≤ y ∧ y ≤ 1)), aI x, aR 12 0] h Q
  refine w_callV (d := d + 2) (S := []) [aI x, aI (fwB (0 ≤ y ∧ y ≤ 1))] dX12_struck_9 ml_X12_380 ok_X12_asksNames vi_X12_asksNames rfl rfl (by decide) rfl (Nat.le_of_ble_eq_true rfl) ?_
  refine c_w_askN (d := d) x J R S (by omega) ?_ ?_
  · intro vn hvn
    show fwWP mX12_struck (d + 3) 12 [some (aR 12 0), some (aI x), some (aI y), none, none, none] [aI vn] h Q
    refine w_istore_n [some (aR 12 0), some (aI x), some (aI y), some (aI vn), none, none] dX12_struck_12 rfl (by decide) ?_
    refine w_iload_n dX12_struck_13 rfl ?_
    refine w_if_ge 19 dX12_struck_14 (by decide) (by omega) (fun c14 => ?_) (fun c14 => ?_)
    · (exfalso; omega)
    · refine w_iload_n dX12_struck_17 rfl ?_
      exact w_iret dX12_struck_18 rfl (k _ _ (scr_rf hsh))
  · intro hrl hwh
    show fwWP mX12_struck (d + 3) 12 [some (aR 12 0), some (aI x), some (aI y), none, none, none] [aI 0] h Q
    obtain ⟨s, rfl⟩ : ∃ s : Nat, x = (s : Int) := ⟨x.toNat, by omega⟩
    have hs35 := (hs s (by omega)).1
    have hz1 : gg 35 0 s ≠ -1 := hrl.2.2.1
    have hz2 : gg 35 0 s % 2 = 0 := hrl.2.2.2.1
    have hal : mAll (mRollP (gg 33 s) (gg 5 0 3)) (gg 35 0 s / 2).toNat = true := hrl.2.2.2.2
    refine w_istore_n [some (aR 12 0), some (aI (s : Int)), some (aI y), some (aI 0), none, none] dX12_struck_12 rfl (by decide) ?_
    refine w_iload_n dX12_struck_13 rfl ?_
    refine w_if_ge 19 dX12_struck_14 (by decide) (by omega) (fun c14 => ?_) (fun c14 => ?_)
    · refine w_iconst dX12_struck_19 ?_
      refine w_istore [some (aR 12 0), some (aI (s : Int)), some (aI y), some (aI 0), some (aI 0), none] dX12_struck_20 rfl (by decide) ?_
      refine w_iconst dX12_struck_22 ?_
      refine w_istore [some (aR 12 0), some (aI (s : Int)), some (aI y), some (aI 0), some (aI 0), some (aI 0)] dX12_struck_23 rfl (by decide) ?_
      have lp25 : ∀ c : Nat, c ≤ (gg 35 0 s / 2).toNat → ∀ (y25 nv : Int), y25 = 2 * (c : Int) → True → fwWP mX12_struck (d + 3) 25 [some (aR 12 0), some (aI (s : Int)), some (aI y), some (aI 0), some (aI nv), some (aI y25)] [] h Q := by
        refine fw_up (fun c hc25 ih25 => ?_)
        intro y25 nv ey25 e_nv
        subst ey25
        show fwWP mX12_struck (d + 3) 25 [some (aR 12 0), some (aI (s : Int)), some (aI y), some (aI 0), some (aI nv), some (aI (2 * (c : Int)))] [] h Q
        refine w_iload dX12_struck_25 rfl ?_
        refine w_aload_n dX12_struck_27 rfl ?_
        refine w_getr 46 0 dX12_struck_28 fl_X12_47 rfl (by decide) ?_
        refine w_iload_n dX12_struck_31 rfl ?_
        refine w_ialdE (v := gg 35 0 s) dX12_struck_32 rfl (by decide) (by omega) (by omega) (S s (by omega)).1 ?_
        refine w_icmp_ge 95 dX12_struck_33 (by decide) (by omega) (by omega) (fun c33 => ?_) (fun c33 => ?_)
        · refine w_iload dX12_struck_95 rfl ?_
          exact w_iret dX12_struck_97 rfl (k _ _ (scr_rf hsh))
        · have hrp := of_decide_eq_true ((mAll_iff _ _).mp hal c (by omega))
          refine w_iload dX12_struck_36 rfl ?_
          refine w_iload_n dX12_struck_38 rfl ?_
          refine w_iconst dX12_struck_39 ?_
          refine w_icmp_ne 61 dX12_struck_40 (by decide) (by omega) (by omega) (fun c40 => ?_) (fun c40 => ?_)
          · refine w_aload_n dX12_struck_61 rfl ?_
            refine w_iload_n dX12_struck_62 rfl ?_
            refine w_iload dX12_struck_63 rfl ?_
            refine w_callV (d := d + 2) (S := [aI nv]) [aI (s : Int), aI (2 * (c : Int))] dX12_struck_65 ml_X12_384 ok_X12_hasName vi_X12_hasName rfl rfl (by decide) rfl (Nat.le_of_ble_eq_true rfl) ?_
            refine c_X12_hasName (d := (d + 1)) s c J R S (by omega) (by omega) (by omega) ?_
            show fwWP mX12_struck (d + 3) 68 [some (aR 12 0), some (aI (s : Int)), some (aI y), some (aI 0), some (aI nv), some (aI (2 * (c : Int)))] [aI (fwB (gg 33 s (2 * c + 1) < gg 18 0 (7 * (gg 33 s (2 * c)).toNat + 1))), aI nv] h Q
            refine w_ifB_eq 85 dX12_struck_68 (by decide) (fun c68 => ?_) (fun c68 => ?_)
            · refine w_iconst dX12_struck_85 ?_
              refine w_iadd dX12_struck_86 ?_
              refine w_istore [some (aR 12 0), some (aI (s : Int)), some (aI y), some (aI 0), some (aI (nv + 0)), some (aI (2 * (c : Int)))] dX12_struck_87 rfl (by decide) ?_
              refine w_iinc [some (aR 12 0), some (aI (s : Int)), some (aI y), some (aI 0), some (aI (nv + 0)), some (aI ((2 * (c : Int)) + 2))] dX12_struck_89 rfl rfl (by decide) ?_
              refine w_goto 25 dX12_struck_92 (by decide) ?_
              refine ih25 (by omega) _ _ ?_ ?_
              · exact (by omega)
              · exact trivial
            · refine w_aload_n dX12_struck_71 rfl ?_
              refine w_iload_n dX12_struck_72 rfl ?_
              refine w_iload dX12_struck_73 rfl ?_
              refine w_callV (d := d + 2) (S := [aI nv]) [aI (s : Int), aI (2 * (c : Int))] dX12_struck_75 ml_X12_387 ok_X12_isThere vi_X12_isThere rfl rfl (by decide) rfl (Nat.le_of_ble_eq_true rfl) ?_
              refine c_X12_isThere (d := (d + 1)) s c S hs (by omega) (by omega) ?_
              show fwWP mX12_struck (d + 3) 78 [some (aR 12 0), some (aI (s : Int)), some (aI y), some (aI 0), some (aI nv), some (aI (2 * (c : Int)))] [aI (fwB (¬ mAll (mNew (gg 33 s) c) c = true)), aI nv] h Q
              refine w_ifB_eq 85 dX12_struck_78 (by decide) (fun c78 => ?_) (fun c78 => ?_)
              · refine w_iconst dX12_struck_85 ?_
                refine w_iadd dX12_struck_86 ?_
                refine w_istore [some (aR 12 0), some (aI (s : Int)), some (aI y), some (aI 0), some (aI (nv + 0)), some (aI (2 * (c : Int)))] dX12_struck_87 rfl (by decide) ?_
                refine w_iinc [some (aR 12 0), some (aI (s : Int)), some (aI y), some (aI 0), some (aI (nv + 0)), some (aI ((2 * (c : Int)) + 2))] dX12_struck_89 rfl rfl (by decide) ?_
                refine w_goto 25 dX12_struck_92 (by decide) ?_
                refine ih25 (by omega) _ _ ?_ ?_
                · exact (by omega)
                · exact trivial
              · refine w_iconst dX12_struck_81 ?_
                refine w_goto 86 dX12_struck_82 (by decide) ?_
                refine w_iadd dX12_struck_86 ?_
                refine w_istore [some (aR 12 0), some (aI (s : Int)), some (aI y), some (aI 0), some (aI (nv + 1)), some (aI (2 * (c : Int)))] dX12_struck_87 rfl (by decide) ?_
                refine w_iinc [some (aR 12 0), some (aI (s : Int)), some (aI y), some (aI 0), some (aI (nv + 1)), some (aI ((2 * (c : Int)) + 2))] dX12_struck_89 rfl rfl (by decide) ?_
                refine w_goto 25 dX12_struck_92 (by decide) ?_
                refine ih25 (by omega) _ _ ?_ ?_
                · exact (by omega)
                · exact trivial
          · refine w_aload_n dX12_struck_43 rfl ?_
            refine w_iload_n dX12_struck_44 rfl ?_
            refine w_iload dX12_struck_45 rfl ?_
            refine w_callV (d := d + 2) (S := [aI nv]) [aI (s : Int), aI (2 * (c : Int))] dX12_struck_47 ml_X12_384 ok_X12_hasName vi_X12_hasName rfl rfl (by decide) rfl (Nat.le_of_ble_eq_true rfl) ?_
            refine c_X12_hasName (d := (d + 1)) s c J R S (by omega) (by omega) (by omega) ?_
            show fwWP mX12_struck (d + 3) 50 [some (aR 12 0), some (aI (s : Int)), some (aI y), some (aI 0), some (aI nv), some (aI (2 * (c : Int)))] [aI (fwB (gg 33 s (2 * c + 1) < gg 18 0 (7 * (gg 33 s (2 * c)).toNat + 1))), aI nv] h Q
            refine w_ifB_eq 57 dX12_struck_50 (by decide) (fun c50 => ?_) (fun c50 => ?_)
            · refine w_iconst dX12_struck_57 ?_
              refine w_goto 86 dX12_struck_58 (by decide) ?_
              refine w_iadd dX12_struck_86 ?_
              refine w_istore [some (aR 12 0), some (aI (s : Int)), some (aI y), some (aI 0), some (aI (nv + 1)), some (aI (2 * (c : Int)))] dX12_struck_87 rfl (by decide) ?_
              refine w_iinc [some (aR 12 0), some (aI (s : Int)), some (aI y), some (aI 0), some (aI (nv + 1)), some (aI ((2 * (c : Int)) + 2))] dX12_struck_89 rfl rfl (by decide) ?_
              refine w_goto 25 dX12_struck_92 (by decide) ?_
              refine ih25 (by omega) _ _ ?_ ?_
              · exact (by omega)
              · exact trivial
            · refine w_iconst dX12_struck_53 ?_
              refine w_goto 86 dX12_struck_54 (by decide) ?_
              refine w_iadd dX12_struck_86 ?_
              refine w_istore [some (aR 12 0), some (aI (s : Int)), some (aI y), some (aI 0), some (aI (nv + 0)), some (aI (2 * (c : Int)))] dX12_struck_87 rfl (by decide) ?_
              refine w_iinc [some (aR 12 0), some (aI (s : Int)), some (aI y), some (aI 0), some (aI (nv + 0)), some (aI ((2 * (c : Int)) + 2))] dX12_struck_89 rfl rfl (by decide) ?_
              refine w_goto 25 dX12_struck_92 (by decide) ?_
              refine ih25 (by omega) _ _ ?_ ?_
              · exact (by omega)
              · exact trivial
      refine lp25 0 (Nat.zero_le _) _ _ ?_ ?_
      · exact (by omega)
      · exact trivial
    · (exfalso; omega)
end
section
/-- a row some of whose places are taken from others of it -/
def psr (f : Nat → Int) (a b c : Nat) : Nat → Int := fun z => if b ≤ z ∧ z < b + c then f (a + (z - b)) else f z
theorem psr_0 (f : Nat → Int) (a b : Nat) : psr f a b 0 = f := by
  funext z
  exact if_neg (by omega)
theorem psr_s (f : Nat → Int) (a b c : Nat) : fwFu (psr f a b c) (b + c) (f (a + c)) = psr f a b (c + 1) := by
  funext z
  unfold fwFu psr
  by_cases e : z = b + c
  · rw [if_pos e, if_pos (by omega), show z - b = c by omega]
  · rw [if_neg e]
    by_cases e2 : b ≤ z ∧ z < b + c
    · rw [if_pos e2, if_pos (by omega)]
    · rw [if_neg e2, if_neg (by omega)]
set_option maxRecDepth 100000 in
set_option maxHeartbeats 4000000 in
theorem c_X12_paste {d : Nat} {h : fwH} {Q : Option fwV → fwH → Prop} (x y z u m : Int) (hx : -2147483648 ≤ x ∧ x < 2147483648) (hy : -2147483648 ≤ y ∧ y < 2147483648) (hz : -2147483648 ≤ z ∧ z < 2147483648) (hu : -2147483648 ≤ u ∧ u < 2147483648) (hm : -2147483648 ≤ m ∧ m < 2147483648) (hmn : ∀ s : Nat, s < 4 → -1 ≤ h 46 0 s ∧ h 46 0 s ≤ 60) (hwd : ∀ s : Nat, s < 4 → 0 ≤ h 47 0 s ∧ h 47 0 s ≤ 3) (k : (¬ ((0 ≤ x ∧ x < 4) ∧ 0 ≤ z ∧ z < 4) → Q (some (aI (-2))) h) ∧ (((0 ≤ x ∧ x < 4) ∧ 0 ≤ z ∧ z < 4) → ¬ (h 46 0 x.toNat ≠ -1 ∧ h 46 0 z.toNat ≠ -1) → Q (some (aI (-6))) h) ∧ (((0 ≤ x ∧ x < 4) ∧ 0 ≤ z ∧ z < 4) → (h 46 0 x.toNat ≠ -1 ∧ h 46 0 z.toNat ≠ -1) → ¬ (h 47 0 x.toNat = h 47 0 z.toNat) → Q (some (aI (-8))) h) ∧ (((0 ≤ x ∧ x < 4) ∧ 0 ≤ z ∧ z < 4) → (h 46 0 x.toNat ≠ -1 ∧ h 46 0 z.toNat ≠ -1) → (h 47 0 x.toNat = h 47 0 z.toNat) → ¬ (0 ≤ y ∧ 0 ≤ u ∧ 0 ≤ m ∧ y + m ≤ h 46 0 x.toNat ∧ u + m ≤ h 46 0 z.toNat) → Q (some (aI (-7))) h) ∧ (((0 ≤ x ∧ x < 4) ∧ 0 ≤ z ∧ z < 4) → (h 46 0 x.toNat ≠ -1 ∧ h 46 0 z.toNat ≠ -1) → (h 47 0 x.toNat = h 47 0 z.toNat) → (0 ≤ y ∧ 0 ≤ u ∧ 0 ≤ m ∧ y + m ≤ h 46 0 x.toNat ∧ u + m ≤ h 46 0 z.toNat) → ∀ F, Q (some (aI 0)) (fwUc (fwUc h 49 0 F) 48 0 (psr (h 48 0) (60 * x.toNat + y.toNat) (60 * z.toNat + u.toNat) m.toNat)))) : fwCt mX12_paste (d + 2) [aR 12 0, aI x, aI y, aI z, aI u, aI m] h Q := by
  refine fwCt_of [some (aR 12 0), some (aI x), some (aI y), some (aI z), some (aI u), some (aI m), none] rfl rfl rfl ?_
  refine w_iload_n dX12_paste_0 rfl ?_
  refine w_callS (d := d + 1) (S := []) [aI x] dX12_paste_1 ml_X12_357 ok_X12_isSlot st_X12_isSlot rfl (Nat.le_of_ble_eq_true rfl) ?_
  refine c_X12_isSlot (d := d) x (by omega) ?_
  show fwWP mX12_paste (d + 2) 4 [some (aR 12 0), some (aI x), some (aI y), some (aI z), some (aI u), some (aI m), none] [aI (fwB (0 ≤ x ∧ x ≤ 3))] h Q
  refine w_ifB_eq 14 dX12_paste_4 (by decide) (fun c4 => ?_) (fun c4 => ?_)
  · refine w_bipush dX12_paste_14 rfl ?_
    exact w_iretE dX12_paste_16 rfl rfl (k.1 (by omega))
  · refine w_iload_n dX12_paste_7 rfl ?_
    refine w_callS (d := d + 1) (S := []) [aI z] dX12_paste_8 ml_X12_357 ok_X12_isSlot st_X12_isSlot rfl (Nat.le_of_ble_eq_true rfl) ?_
    refine c_X12_isSlot (d := d) z (by omega) ?_
    show fwWP mX12_paste (d + 2) 11 [some (aR 12 0), some (aI x), some (aI y), some (aI z), some (aI u), some (aI m), none] [aI (fwB (0 ≤ z ∧ z ≤ 3))] h Q
    refine w_ifB_ne 17 dX12_paste_11 (by decide) (fun c11 => ?_) (fun c11 => ?_)
    · obtain ⟨s, rfl⟩ : ∃ s : Nat, x = (s : Int) := ⟨x.toNat, by omega⟩
      obtain ⟨q9, rfl⟩ : ∃ q9 : Nat, z = (q9 : Int) := ⟨z.toNat, by omega⟩
      have hm1 := hmn s (by omega)
      have hm2 := hmn q9 (by omega)
      have hw1 := hwd s (by omega)
      have hw2 := hwd q9 (by omega)
      refine w_aload_n dX12_paste_17 rfl ?_
      refine w_getr 46 0 dX12_paste_18 fl_X12_47 rfl (by decide) ?_
      refine w_iload_n dX12_paste_21 rfl ?_
      refine w_ialdE (v := h 46 0 s) dX12_paste_22 rfl (by decide) (by omega) (by omega) rfl ?_
      refine w_iconst dX12_paste_23 ?_
      refine w_icmp_eq 37 dX12_paste_24 (by decide) (by omega) (by omega) (fun c24 => ?_) (fun c24 => ?_)
      · refine w_bipush dX12_paste_37 rfl ?_
        exact w_iretE dX12_paste_39 rfl rfl (k.2.1 (by omega) (show ¬ (h 46 0 s ≠ -1 ∧ h 46 0 q9 ≠ -1) by omega))
      · refine w_aload_n dX12_paste_27 rfl ?_
        refine w_getr 46 0 dX12_paste_28 fl_X12_47 rfl (by decide) ?_
        refine w_iload_n dX12_paste_31 rfl ?_
        refine w_ialdE (v := h 46 0 q9) dX12_paste_32 rfl (by decide) (by omega) (by omega) rfl ?_
        refine w_iconst dX12_paste_33 ?_
        refine w_icmp_ne 40 dX12_paste_34 (by decide) (by omega) (by omega) (fun c34 => ?_) (fun c34 => ?_)
        · refine w_aload_n dX12_paste_40 rfl ?_
          refine w_getr 47 0 dX12_paste_41 fl_X12_50 rfl (by decide) ?_
          refine w_iload_n dX12_paste_44 rfl ?_
          refine w_ialdE (v := h 47 0 s) dX12_paste_45 rfl (by decide) (by omega) (by omega) rfl ?_
          refine w_aload_n dX12_paste_46 rfl ?_
          refine w_getr 47 0 dX12_paste_47 fl_X12_50 rfl (by decide) ?_
          refine w_iload_n dX12_paste_50 rfl ?_
          refine w_ialdE (v := h 47 0 q9) dX12_paste_51 rfl (by decide) (by omega) (by omega) rfl ?_
          refine w_icmp_eq 58 dX12_paste_52 (by decide) (by omega) (by omega) (fun c52 => ?_) (fun c52 => ?_)
          · refine w_iload_n dX12_paste_58 rfl ?_
            refine w_if_lt 107 dX12_paste_59 (by decide) (by omega) (fun c59 => ?_) (fun c59 => ?_)
            · refine w_bipush dX12_paste_107 rfl ?_
              exact w_iretE dX12_paste_109 rfl rfl (k.2.2.2.1 (by omega) (show (h 46 0 s ≠ -1 ∧ h 46 0 q9 ≠ -1) by omega) (show (h 47 0 s = h 47 0 q9) by omega) (show ¬ (0 ≤ y ∧ 0 ≤ u ∧ 0 ≤ m ∧ y + m ≤ h 46 0 s ∧ u + m ≤ h 46 0 q9) by omega))
            · refine w_iload dX12_paste_62 rfl ?_
              refine w_if_lt 107 dX12_paste_64 (by decide) (by omega) (fun c64 => ?_) (fun c64 => ?_)
              · refine w_bipush dX12_paste_107 rfl ?_
                exact w_iretE dX12_paste_109 rfl rfl (k.2.2.2.1 (by omega) (show (h 46 0 s ≠ -1 ∧ h 46 0 q9 ≠ -1) by omega) (show (h 47 0 s = h 47 0 q9) by omega) (show ¬ (0 ≤ y ∧ 0 ≤ u ∧ 0 ≤ m ∧ y + m ≤ h 46 0 s ∧ u + m ≤ h 46 0 q9) by omega))
              · refine w_iload dX12_paste_67 rfl ?_
                refine w_if_lt 107 dX12_paste_69 (by decide) (by omega) (fun c69 => ?_) (fun c69 => ?_)
                · refine w_bipush dX12_paste_107 rfl ?_
                  exact w_iretE dX12_paste_109 rfl rfl (k.2.2.2.1 (by omega) (show (h 46 0 s ≠ -1 ∧ h 46 0 q9 ≠ -1) by omega) (show (h 47 0 s = h 47 0 q9) by omega) (show ¬ (0 ≤ y ∧ 0 ≤ u ∧ 0 ≤ m ∧ y + m ≤ h 46 0 s ∧ u + m ≤ h 46 0 q9) by omega))
                · refine w_iload_n dX12_paste_72 rfl ?_
                  refine w_i2l dX12_paste_73 (by omega) ?_
                  refine w_iload dX12_paste_74 rfl ?_
                  refine w_i2l dX12_paste_76 (by omega) ?_
                  refine w_ladd dX12_paste_77 ?_
                  refine w_aload_n dX12_paste_78 rfl ?_
                  refine w_getr 46 0 dX12_paste_79 fl_X12_47 rfl (by decide) ?_
                  refine w_iload_n dX12_paste_82 rfl ?_
                  refine w_ialdE (v := h 46 0 s) dX12_paste_83 rfl (by decide) (by omega) (by omega) rfl ?_
                  refine w_i2l dX12_paste_84 (by omega) ?_
                  refine w_lc_gt 107 dX12_paste_85 dX12_paste_86 (by decide) (by omega) (by omega) (fun c86 => ?_) (fun c86 => ?_)
                  · refine w_bipush dX12_paste_107 rfl ?_
                    exact w_iretE dX12_paste_109 rfl rfl (k.2.2.2.1 (by omega) (show (h 46 0 s ≠ -1 ∧ h 46 0 q9 ≠ -1) by omega) (show (h 47 0 s = h 47 0 q9) by omega) (show ¬ (0 ≤ y ∧ 0 ≤ u ∧ 0 ≤ m ∧ y + m ≤ h 46 0 s ∧ u + m ≤ h 46 0 q9) by omega))
                  · refine w_iload dX12_paste_89 rfl ?_
                    refine w_i2l dX12_paste_91 (by omega) ?_
                    refine w_iload dX12_paste_92 rfl ?_
                    refine w_i2l dX12_paste_94 (by omega) ?_
                    refine w_ladd dX12_paste_95 ?_
                    refine w_aload_n dX12_paste_96 rfl ?_
                    refine w_getr 46 0 dX12_paste_97 fl_X12_47 rfl (by decide) ?_
                    refine w_iload_n dX12_paste_100 rfl ?_
                    refine w_ialdE (v := h 46 0 q9) dX12_paste_101 rfl (by decide) (by omega) (by omega) rfl ?_
                    refine w_i2l dX12_paste_102 (by omega) ?_
                    refine w_lc_le 110 dX12_paste_103 dX12_paste_104 (by decide) (by omega) (by omega) (fun c104 => ?_) (fun c104 => ?_)
                    · obtain ⟨iy, rfl⟩ : ∃ iy : Nat, y = (iy : Int) := ⟨y.toNat, by omega⟩
                      obtain ⟨ku, rfl⟩ : ∃ ku : Nat, u = (ku : Int) := ⟨u.toNat, by omega⟩
                      obtain ⟨nm, rfl⟩ : ∃ nm : Nat, m = (nm : Int) := ⟨m.toNat, by omega⟩
                      refine w_iconst dX12_paste_110 ?_
                      refine w_istore [some (aR 12 0), some (aI (s : Int)), some (aI (iy : Int)), some (aI (q9 : Int)), some (aI (ku : Int)), some (aI (nm : Int)), some (aI 0)] dX12_paste_111 rfl (by decide) ?_
                      have lp113 : ∀ c : Nat, c ≤ nm → ∀ (y113  : Int) (hh113 : fwH), y113 = (c : Int) → hh113 = (fwUc h 49 0 (fwFl (fun j => h 48 0 (60 * s + iy + j)) (h 49 0) c)) → fwWP mX12_paste (d + 2) 113 [some (aR 12 0), some (aI (s : Int)), some (aI (iy : Int)), some (aI (q9 : Int)), some (aI (ku : Int)), some (aI (nm : Int)), some (aI y113)] [] hh113 Q := by
                        refine fw_up (fun c hc113 ih113 => ?_)
                        intro y113  hh113 ey113 eh113
                        subst ey113
                        subst eh113
                        show fwWP mX12_paste (d + 2) 113 [some (aR 12 0), some (aI (s : Int)), some (aI (iy : Int)), some (aI (q9 : Int)), some (aI (ku : Int)), some (aI (nm : Int)), some (aI (c : Int))] [] (fwUc h 49 0 (fwFl (fun j => h 48 0 (60 * s + iy + j)) (h 49 0) c)) Q
                        refine w_iload dX12_paste_113 rfl ?_
                        refine w_iload dX12_paste_115 rfl ?_
                        refine w_icmp_ge 147 dX12_paste_117 (by decide) (by omega) (by omega) (fun c117 => ?_) (fun c117 => ?_)
                        · have ec113 : nm = c := by omega
                          subst ec113
                          refine w_iconst dX12_paste_147 ?_
                          refine w_istore [some (aR 12 0), some (aI (s : Int)), some (aI (iy : Int)), some (aI (q9 : Int)), some (aI (ku : Int)), some (aI (nm : Int)), some (aI 0)] dX12_paste_148 rfl (by decide) ?_
                          have lp150 : ∀ c2 : Nat, c2 ≤ nm → ∀ (y150  : Int) (hh150 : fwH), y150 = (c2 : Int) → hh150 = (fwUc (fwUc h 49 0 (fwFl (fun j => h 48 0 (60 * s + iy + j)) (h 49 0) nm)) 48 0 (psr (h 48 0) (60 * s + iy) (60 * q9 + ku) c2)) → fwWP mX12_paste (d + 2) 150 [some (aR 12 0), some (aI (s : Int)), some (aI (iy : Int)), some (aI (q9 : Int)), some (aI (ku : Int)), some (aI (nm : Int)), some (aI y150)] [] hh150 Q := by
                            refine fw_up (fun c2 hc150 ih150 => ?_)
                            intro y150  hh150 ey150 eh150
                            subst ey150
                            subst eh150
                            show fwWP mX12_paste (d + 2) 150 [some (aR 12 0), some (aI (s : Int)), some (aI (iy : Int)), some (aI (q9 : Int)), some (aI (ku : Int)), some (aI (nm : Int)), some (aI (c2 : Int))] [] (fwUc (fwUc h 49 0 (fwFl (fun j => h 48 0 (60 * s + iy + j)) (h 49 0) nm)) 48 0 (psr (h 48 0) (60 * s + iy) (60 * q9 + ku) c2)) Q
                            refine w_iload dX12_paste_150 rfl ?_
                            refine w_iload dX12_paste_152 rfl ?_
                            refine w_icmp_ge 185 dX12_paste_154 (by decide) (by omega) (by omega) (fun c154 => ?_) (fun c154 => ?_)
                            · have ec150 : nm = c2 := by omega
                              subst ec150
                              refine w_iconst dX12_paste_185 ?_
                              exact w_iretE dX12_paste_186 rfl rfl (k.2.2.2.2 (by omega) (show (h 46 0 s ≠ -1 ∧ h 46 0 q9 ≠ -1) by omega) (show (h 47 0 s = h 47 0 q9) by omega) (by show (0 : Int) ≤ (iy : Int) ∧ 0 ≤ (ku : Int) ∧ 0 ≤ (nm : Int) ∧ (iy : Int) + (nm : Int) ≤ h 46 0 s ∧ (ku : Int) + (nm : Int) ≤ h 46 0 q9; omega) _)
                            · refine w_aload_n dX12_paste_157 rfl ?_
                              refine w_getr 48 0 dX12_paste_158 fl_X12_53 rfl (by decide) ?_
                              refine w_bipush dX12_paste_161 rfl ?_
                              refine w_iload_n dX12_paste_163 rfl ?_
                              refine w_imul dX12_paste_164 ?_
                              refine w_iload dX12_paste_165 rfl ?_
                              refine w_iadd dX12_paste_167 ?_
                              refine w_iload dX12_paste_168 rfl ?_
                              refine w_iadd dX12_paste_170 ?_
                              refine w_aload_n dX12_paste_171 rfl ?_
                              refine w_getr 49 0 dX12_paste_172 fl_X12_57 rfl (by decide) ?_
                              refine w_iload dX12_paste_175 rfl ?_
                              refine w_laldE (v := h 48 0 (60 * s + iy + c2)) dX12_paste_177 rfl (by decide) (by omega) (by omega) (by rw [show ((c2 : Int) : Int).toNat = c2 by omega]; exact if_pos (show c2 < nm by omega)) ?_
                              refine w_last dX12_paste_178 rfl (by decide) (by omega) (by omega) ?_
                              refine w_iinc [some (aR 12 0), some (aI (s : Int)), some (aI (iy : Int)), some (aI (q9 : Int)), some (aI (ku : Int)), some (aI (nm : Int)), some (aI ((c2 : Int) + 1))] dX12_paste_179 rfl rfl (by decide) ?_
                              refine w_goto 150 dX12_paste_182 (by decide) ?_
                              refine ih150 (by omega) _ _ ?_ ?_
                              · exact (by omega)
                              · exact (by rw [fwUp_uc, show (60 * (q9 : Int) + (ku : Int) + (c2 : Int)).toNat = 60 * q9 + ku + c2 by omega]; exact congrArg _ (psr_s _ _ _ _))
                          refine lp150 0 (Nat.zero_le _) _ _ ?_ ?_
                          · exact (by omega)
                          · exact (by rw [psr_0]; exact (fwUc_self _ 48 0).symm)
                        · refine w_aload_n dX12_paste_120 rfl ?_
                          refine w_getr 49 0 dX12_paste_121 fl_X12_57 rfl (by decide) ?_
                          refine w_iload dX12_paste_124 rfl ?_
                          refine w_aload_n dX12_paste_126 rfl ?_
                          refine w_getr 48 0 dX12_paste_127 fl_X12_53 rfl (by decide) ?_
                          refine w_bipush dX12_paste_130 rfl ?_
                          refine w_iload_n dX12_paste_132 rfl ?_
                          refine w_imul dX12_paste_133 ?_
                          refine w_iload_n dX12_paste_134 rfl ?_
                          refine w_iadd dX12_paste_135 ?_
                          refine w_iload dX12_paste_136 rfl ?_
                          refine w_iadd dX12_paste_138 ?_
                          refine w_laldE (v := h 48 0 (60 * s + iy + c)) dX12_paste_139 rfl (by decide) (by omega) (by omega) (by rw [show (((60 * (s : Int)) + (iy : Int)) + (c : Int) : Int).toNat = 60 * s + iy + c by omega]; rfl) ?_
                          refine w_last dX12_paste_140 rfl (by decide) (by omega) (by omega) ?_
                          refine w_iinc [some (aR 12 0), some (aI (s : Int)), some (aI (iy : Int)), some (aI (q9 : Int)), some (aI (ku : Int)), some (aI (nm : Int)), some (aI ((c : Int) + 1))] dX12_paste_141 rfl rfl (by decide) ?_
                          refine w_goto 113 dX12_paste_144 (by decide) ?_
                          refine ih113 (by omega) _ _ ?_ ?_
                          · exact (by omega)
                          · exact (by rw [fwUp_uc, Int.toNat_natCast, ← fwFl_succ])
                      refine lp113 0 (Nat.zero_le _) _ _ ?_ ?_
                      · exact (by omega)
                      · exact (by rw [fwFl_0]; exact (fwUc_self _ 49 0).symm)
                    · refine w_bipush dX12_paste_107 rfl ?_
                      exact w_iretE dX12_paste_109 rfl rfl (k.2.2.2.1 (by omega) (show (h 46 0 s ≠ -1 ∧ h 46 0 q9 ≠ -1) by omega) (show (h 47 0 s = h 47 0 q9) by omega) (show ¬ (0 ≤ y ∧ 0 ≤ u ∧ 0 ≤ m ∧ y + m ≤ h 46 0 s ∧ u + m ≤ h 46 0 q9) by omega))
          · refine w_bipush dX12_paste_55 rfl ?_
            exact w_iretE dX12_paste_57 rfl rfl (k.2.2.1 (by omega) (show (h 46 0 s ≠ -1 ∧ h 46 0 q9 ≠ -1) by omega) (show ¬ (h 47 0 s = h 47 0 q9) by omega))
        · refine w_bipush dX12_paste_37 rfl ?_
          exact w_iretE dX12_paste_39 rfl rfl (k.2.1 (by omega) (show ¬ (h 46 0 s ≠ -1 ∧ h 46 0 q9 ≠ -1) by omega))
    · refine w_bipush dX12_paste_14 rfl ?_
      exact w_iretE dX12_paste_16 rfl rfl (k.1 (by omega))
end
section
theorem cut_sh (v : Int) (j : Int64) (n : Nat) (hj : (j.toBitVec.smod 64).toNat = n) : ((Int64.ofInt v <<< j) >>> j).toInt = ((((v % 18446744073709551616).toNat * 2 ^ n : Nat) : Int).bmod 18446744073709551616) / ((2 ^ n : Nat) : Int) := by
  rw [← Int64.toInt_toBitVec, Int64.toBitVec_shiftRight, Int64.toBitVec_shiftLeft, BitVec.toInt_sshiftRight', BitVec.shiftLeft_eq', BitVec.toInt_shiftLeft, hj, Int64.toBitVec_ofInt, BitVec.toNat_ofInt, Nat.shiftLeft_eq, Int.shiftRight_eq_div_pow]
  rfl
theorem cut_md (v : Int) (w : Int) (j : Int64) (n : Nat) (hw : (Int32.ofInt (64 - fwShl 8 w)).toInt64 &&& 63 = j) (hj : (j.toBitVec.smod 64).toNat = n) : mdCut v w = ((((v % 18446744073709551616).toNat * 2 ^ n : Nat) : Int).bmod 18446744073709551616) / ((2 ^ n : Nat) : Int) := by
  unfold mdCut fwLshr fwLshl
  rw [hw, Int64.ofInt_toInt]
  exact cut_sh v j n hj
theorem cut_eq {v w : Int} (hv : -9223372036854775808 ≤ v ∧ v < 9223372036854775808) (hw : 0 ≤ w ∧ w ≤ 3) : mdCut v w = mCut v w := by
  rcases (show w = 0 ∨ w = 1 ∨ w = 2 ∨ w = 3 by omega) with rfl | rfl | rfl | rfl
  · rw [cut_md v 0 56 56 (by decide) (by decide), mCut, if_pos rfl, fwB8, Int32.toInt_toInt8, Int32.toInt_ofInt]
    show _ = ((v.bmod 4294967296).bmod 256)
    rw [Int.bmod_def, Int.bmod_def, Int.bmod_def]
    have e : (((v % 18446744073709551616).toNat * 2 ^ 56 : Nat) : Int) = (v % 18446744073709551616) * 72057594037927936 := by
      rw [show (2 : Nat) ^ 56 = 72057594037927936 from rfl]; omega
    rw [e, show ((2 ^ 56 : Nat) : Int) = 72057594037927936 from rfl]
    omega
  · rw [cut_md v 1 48 48 (by decide) (by decide), mCut, if_neg (by decide), if_pos rfl, fwS16, Int32.toInt_toInt16, Int32.toInt_ofInt]
    show _ = ((v.bmod 4294967296).bmod 65536)
    rw [Int.bmod_def, Int.bmod_def, Int.bmod_def]
    have e : (((v % 18446744073709551616).toNat * 2 ^ 48 : Nat) : Int) = (v % 18446744073709551616) * 281474976710656 := by
      rw [show (2 : Nat) ^ 48 = 281474976710656 from rfl]; omega
    rw [e, show ((2 ^ 48 : Nat) : Int) = 281474976710656 from rfl]
    omega
  · rw [cut_md v 2 32 32 (by decide) (by decide), mCut, if_neg (by decide), if_neg (by decide), if_pos rfl, fwI32, Int32.toInt_ofInt]
    show _ = v.bmod 4294967296
    rw [Int.bmod_def, Int.bmod_def]
    have e : (((v % 18446744073709551616).toNat * 2 ^ 32 : Nat) : Int) = (v % 18446744073709551616) * 4294967296 := by
      rw [show (2 : Nat) ^ 32 = 4294967296 from rfl]; omega
    rw [e, show ((2 ^ 32 : Nat) : Int) = 4294967296 from rfl]
    omega
  · rw [cut_md v 3 0 0 (by decide) (by decide), mCut, if_neg (by decide), if_neg (by decide), if_neg (by decide)]
    rw [Int.bmod_def]
    have e : (((v % 18446744073709551616).toNat * 2 ^ 0 : Nat) : Int) = (v % 18446744073709551616) := by
      rw [show (2 : Nat) ^ 0 = 1 from rfl]; omega
    rw [e, show ((2 ^ 0 : Nat) : Int) = 1 from rfl]
    omega
end

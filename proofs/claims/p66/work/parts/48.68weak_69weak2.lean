section
theorem mSteps_w {x a b : Int} (hx : -1000 ≤ x ∧ x ≤ 1000) (ha : -1000 ≤ a ∧ a ≤ 1000) (hb : -1000 ≤ b ∧ b ≤ 1000) : -10000 ≤ mSteps x a b ∧ mSteps x a b ≤ 10000 := by
  unfold mSteps
  omega
set_option maxRecDepth 100000 in
set_option maxHeartbeats 4000000 in
theorem c_w_roundOf {d : Nat} {h gg : fwH} {Q : Option fwV → fwH → Prop} (x : Int) (y : Int) (J : cOk gg) (R : jF gg h) (K : jA gg h) (hsh : sc h) (hc : 0 ≤ x ∧ x ≤ gg 4 0 1 - 1) (hx : -2147483648 ≤ x ∧ x < 2147483648) (hy : -2147483648 ≤ y ∧ y < 2147483648) (k : ∀ v g, (-10000 ≤ v ∧ v ≤ 1000000000) → scr h g → Q (some (aI v)) g) : fwCt mX12_roundOf (d + 7) [aR 12 0, aI x, aI y] h Q := by
  refine fwCt_of [some (aR 12 0), some (aI x), some (aI y), none, none, none, none] rfl rfl rfl ?_
  obtain ⟨hl, hP, hG, hM0, htd, hut, hlw, hhc, ha, hs, hT, hsc⟩ := id J
  have hb17 : hB (gg 17 0) := fun c hc => by have := hM0 c hc; omega
  obtain ⟨⟨g1, g2⟩, ⟨g3, g4⟩, ⟨g5, g6⟩, g7, -⟩ := id hG
  have h17_99 : ∀ c : Nat, (c : Int) < gg 4 0 1 → gg 17 0 c ≤ 99 := fun c hc => (hM0 c (by omega)).2
  have hpz := hP.1
  have hrs1 := R.2.2.2.2.2.2.2.2.2.2.2
  refine w_aload_n dX12_roundOf_0 rfl ?_
  refine w_callV (d := d + 6) (S := []) [] dX12_roundOf_1 ml_X12_240 ok_X12_asItIs vi_X12_asItIs rfl rfl (by decide) rfl (Nat.le_of_ble_eq_true rfl) ?_
  refine c_X12_asItIs (d := (d + 1)) J R K (show 1 ≤ gg 4 0 1 by omega) (show 1 ≤ gg 4 0 3 by omega) ?_
  intro A1_1 hA1_1
  show fwWP mX12_roundOf (d + 7) 4 [some (aR 12 0), some (aI x), some (aI y), none, none, none, none] [] (fwUc h 42 0 A1_1) Q
  refine w_aload_n dX12_roundOf_4 rfl ?_
  refine w_callV (d := d + 6) (S := []) [] dX12_roundOf_5 ml_X12_263 ok_X12_willingSet vi_X12_willingSet rfl rfl (by decide) rfl (Nat.le_of_ble_eq_true rfl) ?_
  refine c_X12_willingSet (d := (d + 1)) (gg 17 0) J R hA1_1 hb17 (show 1 ≤ gg 4 0 1 by omega) ?_
  intro A5_2 hA5_2
  show fwWP mX12_roundOf (d + 7) 8 [some (aR 12 0), some (aI x), some (aI y), none, none, none, none] [aI (mGers (gg 4 0 1) (gg 17 0) (gg 4 0 2) (gg 4 0 4) (gg 18 0) (gg 5 0 3).toNat (-1))] (fwUc (fwUc h 42 0 A1_1) 42 0 A5_2) Q
  rw [show (fwUc (fwUc h 42 0 A1_1) 42 0 A5_2) = (fwUc h 42 0 A5_2) from by funext a b; simp only [fwUc]; (repeat' split); all_goals first | rfl | (exfalso; omega)]
  have hwr2 := mGers_r (gg 4 0 1) (gg 17 0) (gg 4 0 2) (gg 4 0 4) (gg 18 0) (m := (gg 5 0 3).toNat) (-1) (by omega)
  have hw8_3 := mGers_8 (gg 4 0 1) (gg 17 0) (gg 4 0 2) (gg 4 0 4) (gg 18 0) (m := (gg 5 0 3).toNat) (-1) (by omega)
  change fwWP _ _ _ _ (aI (mWil gg 0) :: _) _ _
  have hw8 : 0 ≤ mWil gg 0 ∧ mWil gg 0 < 256 := hw8_3
  refine w_istore_n [some (aR 12 0), some (aI x), some (aI y), some (aI (mWil gg 0)), none, none, none] dX12_roundOf_8 rfl (by decide) ?_
  refine w_ldcw (n := 1000000000) dX12_roundOf_9 cs_X12_294 ?_
  refine w_istore [some (aR 12 0), some (aI x), some (aI y), some (aI (mWil gg 0)), some (aI 1000000000), none, none] dX12_roundOf_12 rfl (by decide) ?_
  refine w_iconst dX12_roundOf_14 ?_
  refine w_istore [some (aR 12 0), some (aI x), some (aI y), some (aI (mWil gg 0)), some (aI 1000000000), some (aI 0), none] dX12_roundOf_15 rfl (by decide) ?_
  have lp17 : ∀ c : Nat, c ≤ (x + 1).toNat → ∀ (y17 lv : Int) (hh17 : fwH), y17 = (c : Int) → (-10000 ≤ lv ∧ lv ≤ 1000000000) → (∃ r : Nat → Int, hh17 = (fwUc (fwUc h 42 0 A5_2) 12 0 r) ∧ r 5 = h 12 0 5 ∧ r 12 = h 12 0 12 ∧ r 13 = h 12 0 13) → fwWP mX12_roundOf (d + 7) 17 [some (aR 12 0), some (aI x), some (aI y), some (aI (mWil gg 0)), some (aI lv), some (aI y17), none] [] hh17 Q := by
    refine fw_up (fun c hc17 ih17 => ?_)
    intro y17 lv hh17 ey17 e_lv eh17
    subst ey17
    obtain ⟨r_17, eh17, hp17⟩ := eh17
    subst eh17
    show fwWP mX12_roundOf (d + 7) 17 [some (aR 12 0), some (aI x), some (aI y), some (aI (mWil gg 0)), some (aI lv), some (aI (c : Int)), none] [] (fwUc (fwUc h 42 0 A5_2) 12 0 r_17) Q
    refine w_iload dX12_roundOf_17 rfl ?_
    refine w_iload_n dX12_roundOf_19 rfl ?_
    refine w_icmp_gt 104 dX12_roundOf_20 (by decide) (by omega) (by omega) (fun c20 => ?_) (fun c20 => ?_)
    · refine w_iload dX12_roundOf_104 rfl ?_
      exact w_iret dX12_roundOf_106 rfl (k _ _ (by omega) (scr_12 (scr_uc (scr_rf hsh) rfl (by decide) (by decide) (by decide)) hp17.1 hp17.2.1 hp17.2.2))
    · refine w_iload_n dX12_roundOf_23 rfl ?_
      refine w_istore [some (aR 12 0), some (aI x), some (aI y), some (aI (mWil gg 0)), some (aI lv), some (aI (c : Int)), some (aI x)] dX12_roundOf_24 rfl (by decide) ?_
      have lp26 : ∀ c2 : Nat, c2 ≤ (gg 4 0 1 - x).toNat → ∀ (y26 lw : Int) (hh26 : fwH), y26 = x + (c2 : Int) → (-10000 ≤ lw ∧ lw ≤ 1000000000) → (∃ r : Nat → Int, hh26 = (fwUc (fwUc h 42 0 A5_2) 12 0 r) ∧ r 5 = h 12 0 5 ∧ r 12 = h 12 0 12 ∧ r 13 = h 12 0 13) → fwWP mX12_roundOf (d + 7) 26 [some (aR 12 0), some (aI x), some (aI y), some (aI (mWil gg 0)), some (aI lw), some (aI (c : Int)), some (aI y26)] [] hh26 Q := by
        refine fw_up (fun c2 hc26 ih26 => ?_)
        intro y26 lw hh26 ey26 e_lw eh26
        subst ey26
        obtain ⟨r_26, eh26, hp26⟩ := eh26
        subst eh26
        show fwWP mX12_roundOf (d + 7) 26 [some (aR 12 0), some (aI x), some (aI y), some (aI (mWil gg 0)), some (aI lw), some (aI (c : Int)), some (aI (x + (c2 : Int)))] [] (fwUc (fwUc h 42 0 A5_2) 12 0 r_26) Q
        refine w_iload dX12_roundOf_26 rfl ?_
        refine w_aload_n dX12_roundOf_28 rfl ?_
        refine w_getr 36 0 dX12_roundOf_29 fl_X12_9 rfl (by decide) ?_
        refine w_iconst dX12_roundOf_32 ?_
        refine w_ialdE (v := gg 4 0 1) dX12_roundOf_33 rfl (by decide) (by omega) (by omega) R.1 ?_
        refine w_icmp_ge 98 dX12_roundOf_34 (by decide) (by omega) (by omega) (fun c34 => ?_) (fun c34 => ?_)
        · refine w_iinc [some (aR 12 0), some (aI x), some (aI y), some (aI (mWil gg 0)), some (aI lw), some (aI ((c : Int) + 1)), some (aI (x + (c2 : Int)))] dX12_roundOf_98 rfl rfl (by decide) ?_
          refine w_goto 17 dX12_roundOf_101 (by decide) ?_
          refine w_drop [6] [some (aR 12 0), some (aI x), some (aI y), some (aI (mWil gg 0)), some (aI lw), some (aI ((c : Int) + 1)), none] rfl ?_
          refine ih17 (by omega) _ _ _ ?_ ?_ ?_
          · exact (by omega)
          · exact (by omega)
          · exact ⟨_, rfl, hp26⟩
        · refine w_iload_n dX12_roundOf_37 rfl ?_
          refine w_iload dX12_roundOf_38 rfl ?_
          refine w_iload dX12_roundOf_40 rfl ?_
          refine w_callS (d := d + 6) (S := []) [aI x, aI (c : Int), aI (x + (c2 : Int))] dX12_roundOf_42 ml_X12_295 ok_X12_steps st_X12_steps rfl (Nat.le_of_ble_eq_true rfl) ?_
          refine c_X12_steps (d := (d + 5)) x (c : Int) (x + (c2 : Int)) (by omega) (by omega) (by omega) ?_
          show fwWP mX12_roundOf (d + 7) 45 [some (aR 12 0), some (aI x), some (aI y), some (aI (mWil gg 0)), some (aI lw), some (aI (c : Int)), some (aI (x + (c2 : Int)))] [aI (mSteps x (c : Int) (x + (c2 : Int)))] (fwUc (fwUc h 42 0 A5_2) 12 0 r_26) Q
          have hst6 := mSteps_w (x := x) (a := (c : Int)) (b := (x + (c2 : Int))) (by omega) (by omega) (by omega)
          refine w_iload dX12_roundOf_45 rfl ?_
          refine w_icmp_ge 92 dX12_roundOf_47 (by decide) (by omega) (by omega) (fun c47 => ?_) (fun c47 => ?_)
          · refine w_iinc [some (aR 12 0), some (aI x), some (aI y), some (aI (mWil gg 0)), some (aI lw), some (aI (c : Int)), some (aI ((x + (c2 : Int)) + 1))] dX12_roundOf_92 rfl rfl (by decide) ?_
            refine w_goto 26 dX12_roundOf_95 (by decide) ?_
            refine ih26 (by omega) _ _ _ ?_ ?_ ?_
            · exact (by omega)
            · exact (by omega)
            · exact ⟨_, rfl, hp26⟩
          · refine w_aload_n dX12_roundOf_50 rfl ?_
            refine w_iload_n dX12_roundOf_51 rfl ?_
            refine w_iload dX12_roundOf_52 rfl ?_
            refine w_iload dX12_roundOf_54 rfl ?_
            refine w_iload dX12_roundOf_56 rfl ?_
            refine w_iload dX12_roundOf_58 rfl ?_
            refine w_callV (d := d + 6) (S := []) [aI (mWil gg 0), aI (c : Int), aI (x + (c2 : Int)), aI (c : Int), aI (x + (c2 : Int))] dX12_roundOf_60 ml_X12_299 ok_X12_namesOn vi_X12_namesOn rfl rfl (by decide) rfl (Nat.le_of_ble_eq_true rfl) ?_
            refine c_X12_namesOn (d := (d + 5)) (mWil gg 0) (c : Int) (x + (c2 : Int)) (c : Int) (x + (c2 : Int)) J R (by omega) (by omega) (by omega) (by omega) ?_
            show fwWP mX12_roundOf (d + 7) 63 [some (aR 12 0), some (aI x), some (aI y), some (aI (mWil gg 0)), some (aI lw), some (aI (c : Int)), some (aI (x + (c2 : Int)))] [aI (nOn (gg 18 0) (mWil gg 0) (c : Int) (x + (c2 : Int)) (c : Int) (x + (c2 : Int)) (gg 5 0 3).toNat)] (fwUc (fwUc h 42 0 A5_2) 12 0 r_26) Q
            have hnn8 := nOn_r (F := gg 18 0) (wl := (mWil gg 0)) (l := (c : Int)) (r := (x + (c2 : Int))) (u := (c : Int)) (v := (x + (c2 : Int))) (gg 5 0 3).toNat (by omega) (fun f hf => (hP.2 f hf).2.1)
            refine w_iload_n dX12_roundOf_63 rfl ?_
            refine w_icmp_ge 70 dX12_roundOf_64 (by decide) (by omega) (by omega) (fun c64 => ?_) (fun c64 => ?_)
            · refine w_iload_n dX12_roundOf_70 rfl ?_
              refine w_iload dX12_roundOf_71 rfl ?_
              refine w_iload dX12_roundOf_73 rfl ?_
              refine w_callS (d := d + 6) (S := []) [aI x, aI (c : Int), aI (x + (c2 : Int))] dX12_roundOf_75 ml_X12_295 ok_X12_steps st_X12_steps rfl (Nat.le_of_ble_eq_true rfl) ?_
              refine c_X12_steps (d := (d + 5)) x (c : Int) (x + (c2 : Int)) (by omega) (by omega) (by omega) ?_
              show fwWP mX12_roundOf (d + 7) 78 [some (aR 12 0), some (aI x), some (aI y), some (aI (mWil gg 0)), some (aI lw), some (aI (c : Int)), some (aI (x + (c2 : Int)))] [aI (mSteps x (c : Int) (x + (c2 : Int)))] (fwUc (fwUc h 42 0 A5_2) 12 0 r_26) Q
              have hst10 := mSteps_w (x := x) (a := (c : Int)) (b := (x + (c2 : Int))) (by omega) (by omega) (by omega)
              refine w_istore [some (aR 12 0), some (aI x), some (aI y), some (aI (mWil gg 0)), some (aI (mSteps x (c : Int) (x + (c2 : Int)))), some (aI (c : Int)), some (aI (x + (c2 : Int)))] dX12_roundOf_78 rfl (by decide) ?_
              refine w_aload_n dX12_roundOf_80 rfl ?_
              refine w_iload dX12_roundOf_81 rfl ?_
              refine w_puti dX12_roundOf_83 fl_X12_303 fp_12_17 rfl (by decide) ?_
              refine w_aload_n dX12_roundOf_86 rfl ?_
              refine w_iload dX12_roundOf_87 rfl ?_
              refine w_puti dX12_roundOf_89 fl_X12_306 fp_12_18 rfl (by decide) ?_
              refine w_iinc [some (aR 12 0), some (aI x), some (aI y), some (aI (mWil gg 0)), some (aI (mSteps x (c : Int) (x + (c2 : Int)))), some (aI (c : Int)), some (aI ((x + (c2 : Int)) + 1))] dX12_roundOf_92 rfl rfl (by decide) ?_
              refine w_goto 26 dX12_roundOf_95 (by decide) ?_
              refine ih26 (by omega) _ _ _ ?_ ?_ ?_
              · exact (by omega)
              · exact (by omega)
              · exact ⟨fwFu (fwFu r_26 17 (c : Int)) 18 (x + (c2 : Int)), by rw [fwUp_uc, fwUp_uc], hp26⟩
            · refine w_goto 92 dX12_roundOf_67 (by decide) ?_
              refine w_iinc [some (aR 12 0), some (aI x), some (aI y), some (aI (mWil gg 0)), some (aI lw), some (aI (c : Int)), some (aI ((x + (c2 : Int)) + 1))] dX12_roundOf_92 rfl rfl (by decide) ?_
              refine w_goto 26 dX12_roundOf_95 (by decide) ?_
              refine ih26 (by omega) _ _ _ ?_ ?_ ?_
              · exact (by omega)
              · exact (by omega)
              · exact ⟨_, rfl, hp26⟩
      refine lp26 0 (Nat.zero_le _) _ _ _ ?_ ?_ ?_
      · exact (by omega)
      · exact (by omega)
      · exact ⟨_, rfl, hp17⟩
  refine lp17 0 (Nat.zero_le _) _ _ _ ?_ ?_ ?_
  · exact (by omega)
  · exact (by omega)
  · exact ⟨h 12 0, (fwUc_self _ 12 0).symm, rfl, rfl, rfl⟩
set_option maxRecDepth 100000 in
set_option maxHeartbeats 4000000 in
theorem c_w_round {d : Nat} {h gg : fwH} {Q : Option fwV → fwH → Prop} (x : Int) (y : Int) (J : cOk gg) (R : jF gg h) (K : jA gg h) (hsh : sc h) (hx : -2147483648 ≤ x ∧ x < 2147483648) (hy : -2147483648 ≤ y ∧ y < 2147483648) (k : ∀ v g, scr h g → Q (some (aI v)) g) : fwCt mX12_round (d + 8) [aR 12 0, aI x, aI y] h Q := by
  refine fwCt_of [some (aR 12 0), some (aI x), some (aI y), none] rfl rfl rfl ?_
  obtain ⟨hl, hP, hG, hM0, htd, hut, hlw, hhc, ha, hs, hT, hsc⟩ := id J
  have hb17 : hB (gg 17 0) := fun c hc => by have := hM0 c hc; omega
  obtain ⟨⟨g1, g2⟩, ⟨g3, g4⟩, ⟨g5, g6⟩, g7, -⟩ := id hG
  have h17_99 : ∀ c : Nat, (c : Int) < gg 4 0 1 → gg 17 0 c ≤ 99 := fun c hc => (hM0 c (by omega)).2
  have hpz := hP.1
  have hrs1 := R.2.2.2.2.2.2.2.2.2.2.2
  refine w_aload_n dX12_round_0 rfl ?_
  refine w_iload_n dX12_round_1 rfl ?_
  refine w_iload_n dX12_round_2 rfl ?_
  refine w_callV (d := d + 7) (S := []) [aI x, aI y] dX12_round_3 ml_X12_311 ok_X12_isRound vi_X12_isRound rfl rfl (by decide) rfl (Nat.le_of_ble_eq_true rfl) ?_
  refine c_X12_isRound (d := (d + 5)) x y J R (by omega) (by omega) ?_
  show fwWP mX12_round (d + 8) 6 [some (aR 12 0), some (aI x), some (aI y), none] [aI (fwB ((0 ≤ x ∧ x ≤ gg 4 0 1 - 1) ∧ 1 ≤ y ∧ y ≤ 800))] h Q
  refine w_ifB_ne 12 dX12_round_6 (by decide) (fun c6 => ?_) (fun c6 => ?_)
  · refine w_aload_n dX12_round_12 rfl ?_
    refine w_iload_n dX12_round_13 rfl ?_
    refine w_iload_n dX12_round_14 rfl ?_
    refine w_callV (d := d + 7) (S := []) [aI x, aI y] dX12_round_15 ml_X12_314 ok_X12_roundOf vi_X12_roundOf rfl rfl (by decide) rfl (Nat.le_of_ble_eq_true rfl) ?_
    refine c_w_roundOf (d := d) x y J R K hsh (by omega) (by omega) (by omega) ?_
    intro v2 g2 hv2 sg2
    show fwWP mX12_round (d + 8) 18 [some (aR 12 0), some (aI x), some (aI y), none] [aI v2] g2 Q
    refine w_istore_n [some (aR 12 0), some (aI x), some (aI y), some (aI v2)] dX12_round_18 rfl (by decide) ?_
    refine w_iload_n dX12_round_19 rfl ?_
    refine w_ldcw (n := 1000000000) dX12_round_20 cs_X12_294 ?_
    refine w_icmp_ne 30 dX12_round_23 (by decide) (by omega) (by omega) (fun c23 => ?_) (fun c23 => ?_)
    · refine w_iload_n dX12_round_30 rfl ?_
      exact w_iret dX12_round_31 rfl (k _ _ (sg2))
    · refine w_iconst dX12_round_26 ?_
      refine w_goto 31 dX12_round_27 (by decide) ?_
      exact w_iret dX12_round_31 rfl (k _ _ (sg2))
  · refine w_bipush dX12_round_9 rfl ?_
    exact w_iret dX12_round_11 rfl (k _ _ (scr_rf hsh))
set_option maxRecDepth 100000 in
set_option maxHeartbeats 4000000 in
theorem c_w_goes {d : Nat} {h gg : fwH} {Q : Option fwV → fwH → Prop} (x : Int) (y : Int) (z : Int) (J : cOk gg) (R : jF gg h) (K : jA gg h) (hsh : sc h) (hx : -2147483648 ≤ x ∧ x < 2147483648) (hy : -2147483648 ≤ y ∧ y < 2147483648) (hz : -2147483648 ≤ z ∧ z < 2147483648) (k : ∀ v g, scr h g → Q (some (aI v)) g) : fwCt mX12_goes (d + 8) [aR 12 0, aI x, aI y, aI z] h Q := by
  refine fwCt_of [some (aR 12 0), some (aI x), some (aI y), some (aI z)] rfl rfl rfl ?_
  obtain ⟨hl, hP, hG, hM0, htd, hut, hlw, hhc, ha, hs, hT, hsc⟩ := id J
  have hb17 : hB (gg 17 0) := fun c hc => by have := hM0 c hc; omega
  obtain ⟨⟨g1, g2⟩, ⟨g3, g4⟩, ⟨g5, g6⟩, g7, -⟩ := id hG
  have h17_99 : ∀ c : Nat, (c : Int) < gg 4 0 1 → gg 17 0 c ≤ 99 := fun c hc => (hM0 c (by omega)).2
  have hpz := hP.1
  have hrs1 := R.2.2.2.2.2.2.2.2.2.2.2
  refine w_aload_n dX12_goes_0 rfl ?_
  refine w_iload_n dX12_goes_1 rfl ?_
  refine w_iload_n dX12_goes_2 rfl ?_
  refine w_callV (d := d + 7) (S := []) [aI x, aI y] dX12_goes_3 ml_X12_311 ok_X12_isRound vi_X12_isRound rfl rfl (by decide) rfl (Nat.le_of_ble_eq_true rfl) ?_
  refine c_X12_isRound (d := (d + 5)) x y J R (by omega) (by omega) ?_
  show fwWP mX12_goes (d + 8) 6 [some (aR 12 0), some (aI x), some (aI y), some (aI z)] [aI (fwB ((0 ≤ x ∧ x ≤ gg 4 0 1 - 1) ∧ 1 ≤ y ∧ y ≤ 800))] h Q
  refine w_ifB_eq 19 dX12_goes_6 (by decide) (fun c6 => ?_) (fun c6 => ?_)
  · refine w_bipush dX12_goes_19 rfl ?_
    exact w_iret dX12_goes_21 rfl (k _ _ (scr_rf hsh))
  · refine w_iload_n dX12_goes_9 rfl ?_
    refine w_i2l dX12_goes_10 (by omega) ?_
    refine w_lconst (z := 0) dX12_goes_11 rfl ?_
    refine w_lconst (z := 1) dX12_goes_12 rfl ?_
    refine w_callS (d := d + 7) (S := []) [aJ z, aJ 0, aJ 1] dX12_goes_13 ml_X12_65 ok_X12_in st_X12_in rfl (Nat.le_of_ble_eq_true rfl) ?_
    refine c_X12_in (d := (d + 7)) z 0 1 (by omega) (by omega) (by omega) ?_
    show fwWP mX12_goes (d + 8) 16 [some (aR 12 0), some (aI x), some (aI y), some (aI z)] [aI (fwB (0 ≤ z ∧ z ≤ 1))] h Q
    refine w_ifB_ne 22 dX12_goes_16 (by decide) (fun c16 => ?_) (fun c16 => ?_)
    · refine w_aload_n dX12_goes_22 rfl ?_
      refine w_iload_n dX12_goes_23 rfl ?_
      refine w_iload_n dX12_goes_24 rfl ?_
      refine w_callV (d := d + 7) (S := []) [aI x, aI y] dX12_goes_25 ml_X12_314 ok_X12_roundOf vi_X12_roundOf rfl rfl (by decide) rfl (Nat.le_of_ble_eq_true rfl) ?_
      refine c_w_roundOf (d := d) x y J R K hsh (by omega) (by omega) (by omega) ?_
      intro v3 g3 hv3 sg3
      show fwWP mX12_goes (d + 8) 28 [some (aR 12 0), some (aI x), some (aI y), some (aI z)] [aI v3] g3 Q
      refine w_ldcw (n := 1000000000) dX12_goes_28 cs_X12_294 ?_
      refine w_icmp_ne 36 dX12_goes_31 (by decide) (by omega) (by omega) (fun c31 => ?_) (fun c31 => ?_)
      · refine w_iload_n dX12_goes_36 rfl ?_
        refine w_if_ne 47 dX12_goes_37 (by decide) (by omega) (fun c37 => ?_) (fun c37 => ?_)
        · refine w_aload_n dX12_goes_47 rfl ?_
          refine w_geti dX12_goes_48 fl_X12_306 rfl (by decide) ?_
          exact w_iret dX12_goes_51 rfl (k _ _ (sg3))
        · refine w_aload_n dX12_goes_40 rfl ?_
          refine w_geti dX12_goes_41 fl_X12_303 rfl (by decide) ?_
          refine w_goto 51 dX12_goes_44 (by decide) ?_
          exact w_iret dX12_goes_51 rfl (k _ _ (sg3))
      · refine w_iconst dX12_goes_34 ?_
        exact w_iret dX12_goes_35 rfl (k _ _ (sg3))
    · refine w_bipush dX12_goes_19 rfl ?_
      exact w_iret dX12_goes_21 rfl (k _ _ (scr_rf hsh))
set_option maxRecDepth 100000 in
set_option maxHeartbeats 4000000 in
theorem c_w_two {d : Nat} {h gg : fwH} {Q : Option fwV → fwH → Prop} (x : Int) (y : Int) (z : Int) (J : cOk gg) (R : jF gg h) (K : jA gg h) (hsh : sc h) (hx : -2147483648 ≤ x ∧ x < 2147483648) (hy : -2147483648 ≤ y ∧ y < 2147483648) (hz : -2147483648 ≤ z ∧ z < 2147483648) (k : ∀ v g, scr h g → Q (some (aI v)) g) : fwCt mX12_two (d + 8) [aR 12 0, aI x, aI y, aI z] h Q := by
  refine fwCt_of [some (aR 12 0), some (aI x), some (aI y), some (aI z), none, none, none, none, none, none] rfl rfl rfl ?_
  obtain ⟨hl, hP, hG, hM0, htd, hut, hlw, hhc, ha, hs, hT, hsc⟩ := id J
  have hb17 : hB (gg 17 0) := fun c hc => by have := hM0 c hc; omega
  obtain ⟨⟨g1, g2⟩, ⟨g3, g4⟩, ⟨g5, g6⟩, g7, -⟩ := id hG
  have h17_99 : ∀ c : Nat, (c : Int) < gg 4 0 1 → gg 17 0 c ≤ 99 := fun c hc => (hM0 c (by omega)).2
  have hpz := hP.1
  have hrs1 := R.2.2.2.2.2.2.2.2.2.2.2
  refine w_aload_n dX12_two_0 rfl ?_
  refine w_iload_n dX12_two_1 rfl ?_
  refine w_iload_n dX12_two_2 rfl ?_
  refine w_callV (d := d + 7) (S := []) [aI x, aI z] dX12_two_3 ml_X12_311 ok_X12_isRound vi_X12_isRound rfl rfl (by decide) rfl (Nat.le_of_ble_eq_true rfl) ?_
  refine c_X12_isRound (d := (d + 5)) x z J R (by omega) (by omega) ?_
  show fwWP mX12_two (d + 8) 6 [some (aR 12 0), some (aI x), some (aI y), some (aI z), none, none, none, none, none, none] [aI (fwB ((0 ≤ x ∧ x ≤ gg 4 0 1 - 1) ∧ 1 ≤ z ∧ z ≤ 800))] h Q
  refine w_ifB_eq 18 dX12_two_6 (by decide) (fun c6 => ?_) (fun c6 => ?_)
  · refine w_bipush dX12_two_18 rfl ?_
    exact w_iret dX12_two_20 rfl (k _ _ (scr_rf hsh))
  · refine w_aload_n dX12_two_9 rfl ?_
    refine w_iload_n dX12_two_10 rfl ?_
    refine w_i2l dX12_two_11 (by omega) ?_
    refine w_callV (d := d + 7) (S := []) [aJ y] dX12_two_12 ml_X12_203 ok_X12_isCell vi_X12_isCell rfl rfl (by decide) rfl (Nat.le_of_ble_eq_true rfl) ?_
    refine c_X12_isCell (d := (d + 6)) y J R (by omega) ?_
    show fwWP mX12_two (d + 8) 15 [some (aR 12 0), some (aI x), some (aI y), some (aI z), none, none, none, none, none, none] [aI (fwB (0 ≤ y ∧ y ≤ gg 4 0 1 - 1))] h Q
    refine w_ifB_ne 21 dX12_two_15 (by decide) (fun c15 => ?_) (fun c15 => ?_)
    · refine w_aload_n dX12_two_21 rfl ?_
      refine w_callV (d := d + 7) (S := []) [] dX12_two_22 ml_X12_240 ok_X12_asItIs vi_X12_asItIs rfl rfl (by decide) rfl (Nat.le_of_ble_eq_true rfl) ?_
      refine c_X12_asItIs (d := (d + 2)) J R K (show 1 ≤ gg 4 0 1 by omega) (show 1 ≤ gg 4 0 3 by omega) ?_
      intro A22_3 hA22_3
      show fwWP mX12_two (d + 8) 25 [some (aR 12 0), some (aI x), some (aI y), some (aI z), none, none, none, none, none, none] [] (fwUc h 42 0 A22_3) Q
      refine w_aload_n dX12_two_25 rfl ?_
      refine w_callV (d := d + 7) (S := []) [] dX12_two_26 ml_X12_263 ok_X12_willingSet vi_X12_willingSet rfl rfl (by decide) rfl (Nat.le_of_ble_eq_true rfl) ?_
      refine c_X12_willingSet (d := (d + 2)) (gg 17 0) J R hA22_3 hb17 (show 1 ≤ gg 4 0 1 by omega) ?_
      intro A26_4 hA26_4
      show fwWP mX12_two (d + 8) 29 [some (aR 12 0), some (aI x), some (aI y), some (aI z), none, none, none, none, none, none] [aI (mGers (gg 4 0 1) (gg 17 0) (gg 4 0 2) (gg 4 0 4) (gg 18 0) (gg 5 0 3).toNat (-1))] (fwUc (fwUc h 42 0 A22_3) 42 0 A26_4) Q
      rw [show (fwUc (fwUc h 42 0 A22_3) 42 0 A26_4) = (fwUc h 42 0 A26_4) from by funext a b; simp only [fwUc]; (repeat' split); all_goals first | rfl | (exfalso; omega)]
      have hwr4 := mGers_r (gg 4 0 1) (gg 17 0) (gg 4 0 2) (gg 4 0 4) (gg 18 0) (m := (gg 5 0 3).toNat) (-1) (by omega)
      have hw8_5 := mGers_8 (gg 4 0 1) (gg 17 0) (gg 4 0 2) (gg 4 0 4) (gg 18 0) (m := (gg 5 0 3).toNat) (-1) (by omega)
      change fwWP _ _ _ _ (aI (mWil gg 0) :: _) _ _
      have hw8 : 0 ≤ mWil gg 0 ∧ mWil gg 0 < 256 := hw8_5
      refine w_istore [some (aR 12 0), some (aI x), some (aI y), some (aI z), some (aI (mWil gg 0)), none, none, none, none, none] dX12_two_29 rfl (by decide) ?_
      refine w_ldcw (n := 1000000000) dX12_two_31 cs_X12_294 ?_
      refine w_istore [some (aR 12 0), some (aI x), some (aI y), some (aI z), some (aI (mWil gg 0)), some (aI 1000000000), none, none, none, none] dX12_two_34 rfl (by decide) ?_
      refine w_iconst dX12_two_36 ?_
      refine w_istore [some (aR 12 0), some (aI x), some (aI y), some (aI z), some (aI (mWil gg 0)), some (aI 1000000000), some (aI 0), none, none, none] dX12_two_37 rfl (by decide) ?_
      have lp39 : ∀ c : Nat, c ≤ (x + 1).toNat → ∀ (y39 lv : Int), y39 = (c : Int) → (-10000 ≤ lv ∧ lv ≤ 1000000000) → fwWP mX12_two (d + 8) 39 [some (aR 12 0), some (aI x), some (aI y), some (aI z), some (aI (mWil gg 0)), some (aI lv), some (aI y39), none, none, none] [] (fwUc h 42 0 A26_4) Q := by
        refine fw_up (fun c hc39 ih39 => ?_)
        intro y39 lv ey39 e_lv
        subst ey39
        show fwWP mX12_two (d + 8) 39 [some (aR 12 0), some (aI x), some (aI y), some (aI z), some (aI (mWil gg 0)), some (aI lv), some (aI (c : Int)), none, none, none] [] (fwUc h 42 0 A26_4) Q
        refine w_iload dX12_two_39 rfl ?_
        refine w_iload_n dX12_two_41 rfl ?_
        refine w_icmp_gt 166 dX12_two_42 (by decide) (by omega) (by omega) (fun c42 => ?_) (fun c42 => ?_)
        · refine w_iload dX12_two_166 rfl ?_
          refine w_ldcw (n := 1000000000) dX12_two_168 cs_X12_294 ?_
          refine w_icmp_ne 178 dX12_two_171 (by decide) (by omega) (by omega) (fun c171 => ?_) (fun c171 => ?_)
          · refine w_iload dX12_two_178 rfl ?_
            exact w_iret dX12_two_180 rfl (k _ _ (scr_uc (scr_rf hsh) rfl (by decide) (by decide) (by decide)))
          · refine w_iconst dX12_two_174 ?_
            refine w_goto 180 dX12_two_175 (by decide) ?_
            exact w_iret dX12_two_180 rfl (k _ _ (scr_uc (scr_rf hsh) rfl (by decide) (by decide) (by decide)))
        · refine w_iload_n dX12_two_45 rfl ?_
          refine w_istore [some (aR 12 0), some (aI x), some (aI y), some (aI z), some (aI (mWil gg 0)), some (aI lv), some (aI (c : Int)), some (aI x), none, none] dX12_two_46 rfl (by decide) ?_
          have lp48 : ∀ c2 : Nat, c2 ≤ (gg 4 0 1 - x).toNat → ∀ (y48 lw : Int), y48 = x + (c2 : Int) → (-10000 ≤ lw ∧ lw ≤ 1000000000) → fwWP mX12_two (d + 8) 48 [some (aR 12 0), some (aI x), some (aI y), some (aI z), some (aI (mWil gg 0)), some (aI lw), some (aI (c : Int)), some (aI y48), none, none] [] (fwUc h 42 0 A26_4) Q := by
            refine fw_up (fun c2 hc48 ih48 => ?_)
            intro y48 lw ey48 e_lw
            subst ey48
            show fwWP mX12_two (d + 8) 48 [some (aR 12 0), some (aI x), some (aI y), some (aI z), some (aI (mWil gg 0)), some (aI lw), some (aI (c : Int)), some (aI (x + (c2 : Int))), none, none] [] (fwUc h 42 0 A26_4) Q
            refine w_iload dX12_two_48 rfl ?_
            refine w_aload_n dX12_two_50 rfl ?_
            refine w_getr 36 0 dX12_two_51 fl_X12_9 rfl (by decide) ?_
            refine w_iconst dX12_two_54 ?_
            refine w_ialdE (v := gg 4 0 1) dX12_two_55 rfl (by decide) (by omega) (by omega) R.1 ?_
            refine w_icmp_ge 160 dX12_two_56 (by decide) (by omega) (by omega) (fun c56 => ?_) (fun c56 => ?_)
            · refine w_iinc [some (aR 12 0), some (aI x), some (aI y), some (aI z), some (aI (mWil gg 0)), some (aI lw), some (aI ((c : Int) + 1)), some (aI (x + (c2 : Int))), none, none] dX12_two_160 rfl rfl (by decide) ?_
              refine w_goto 39 dX12_two_163 (by decide) ?_
              refine w_drop [7] [some (aR 12 0), some (aI x), some (aI y), some (aI z), some (aI (mWil gg 0)), some (aI lw), some (aI ((c : Int) + 1)), none, none, none] rfl ?_
              refine ih39 (by omega) _ _ ?_ ?_
              · exact (by omega)
              · exact (by omega)
            · refine w_iload_n dX12_two_59 rfl ?_
              refine w_iload dX12_two_60 rfl ?_
              refine w_iload dX12_two_62 rfl ?_
              refine w_callS (d := d + 7) (S := []) [aI x, aI (c : Int), aI (x + (c2 : Int))] dX12_two_64 ml_X12_295 ok_X12_steps st_X12_steps rfl (Nat.le_of_ble_eq_true rfl) ?_
              refine c_X12_steps (d := (d + 6)) x (c : Int) (x + (c2 : Int)) (by omega) (by omega) (by omega) ?_
              show fwWP mX12_two (d + 8) 67 [some (aR 12 0), some (aI x), some (aI y), some (aI z), some (aI (mWil gg 0)), some (aI lw), some (aI (c : Int)), some (aI (x + (c2 : Int))), none, none] [aI (mSteps x (c : Int) (x + (c2 : Int)))] (fwUc h 42 0 A26_4) Q
              have hst9 := mSteps_w (x := x) (a := (c : Int)) (b := (x + (c2 : Int))) (by omega) (by omega) (by omega)
              refine w_iload dX12_two_67 rfl ?_
              refine w_icmp_lt 75 dX12_two_69 (by decide) (by omega) (by omega) (fun c69 => ?_) (fun c69 => ?_)
              · refine w_iconst dX12_two_75 ?_
                refine w_istore [some (aR 12 0), some (aI x), some (aI y), some (aI z), some (aI (mWil gg 0)), some (aI lw), some (aI (c : Int)), some (aI (x + (c2 : Int))), some (aI 0), none] dX12_two_76 rfl (by decide) ?_
                have lp78 : ∀ c3 : Nat, c3 ≤ (y + 1).toNat → ∀ (y78 lx : Int), y78 = (c3 : Int) → (-10000 ≤ lx ∧ lx ≤ 1000000000) → fwWP mX12_two (d + 8) 78 [some (aR 12 0), some (aI x), some (aI y), some (aI z), some (aI (mWil gg 0)), some (aI lx), some (aI (c : Int)), some (aI (x + (c2 : Int))), some (aI y78), none] [] (fwUc h 42 0 A26_4) Q := by
                  refine fw_up (fun c3 hc78 ih78 => ?_)
                  intro y78 lx ey78 e_lx
                  subst ey78
                  show fwWP mX12_two (d + 8) 78 [some (aR 12 0), some (aI x), some (aI y), some (aI z), some (aI (mWil gg 0)), some (aI lx), some (aI (c : Int)), some (aI (x + (c2 : Int))), some (aI (c3 : Int)), none] [] (fwUc h 42 0 A26_4) Q
                  refine w_iload dX12_two_78 rfl ?_
                  refine w_iload_n dX12_two_80 rfl ?_
                  refine w_icmp_gt 154 dX12_two_81 (by decide) (by omega) (by omega) (fun c81 => ?_) (fun c81 => ?_)
                  · refine w_iinc [some (aR 12 0), some (aI x), some (aI y), some (aI z), some (aI (mWil gg 0)), some (aI lx), some (aI (c : Int)), some (aI ((x + (c2 : Int)) + 1)), some (aI (c3 : Int)), none] dX12_two_154 rfl rfl (by decide) ?_
                    refine w_goto 48 dX12_two_157 (by decide) ?_
                    refine w_drop [8] [some (aR 12 0), some (aI x), some (aI y), some (aI z), some (aI (mWil gg 0)), some (aI lx), some (aI (c : Int)), some (aI ((x + (c2 : Int)) + 1)), none, none] rfl ?_
                    refine ih48 (by omega) _ _ ?_ ?_
                    · exact (by omega)
                    · exact (by omega)
                  · refine w_iload_n dX12_two_84 rfl ?_
                    refine w_istore [some (aR 12 0), some (aI x), some (aI y), some (aI z), some (aI (mWil gg 0)), some (aI lx), some (aI (c : Int)), some (aI (x + (c2 : Int))), some (aI (c3 : Int)), some (aI y)] dX12_two_85 rfl (by decide) ?_
                    have lp87 : ∀ c4 : Nat, c4 ≤ (gg 4 0 1 - y).toNat → ∀ (y87 ly : Int), y87 = y + (c4 : Int) → (-10000 ≤ ly ∧ ly ≤ 1000000000) → fwWP mX12_two (d + 8) 87 [some (aR 12 0), some (aI x), some (aI y), some (aI z), some (aI (mWil gg 0)), some (aI ly), some (aI (c : Int)), some (aI (x + (c2 : Int))), some (aI (c3 : Int)), some (aI y87)] [] (fwUc h 42 0 A26_4) Q := by
                      refine fw_up (fun c4 hc87 ih87 => ?_)
                      intro y87 ly ey87 e_ly
                      subst ey87
                      show fwWP mX12_two (d + 8) 87 [some (aR 12 0), some (aI x), some (aI y), some (aI z), some (aI (mWil gg 0)), some (aI ly), some (aI (c : Int)), some (aI (x + (c2 : Int))), some (aI (c3 : Int)), some (aI (y + (c4 : Int)))] [] (fwUc h 42 0 A26_4) Q
                      refine w_iload dX12_two_87 rfl ?_
                      refine w_aload_n dX12_two_89 rfl ?_
                      refine w_getr 36 0 dX12_two_90 fl_X12_9 rfl (by decide) ?_
                      refine w_iconst dX12_two_93 ?_
                      refine w_ialdE (v := gg 4 0 1) dX12_two_94 rfl (by decide) (by omega) (by omega) R.1 ?_
                      refine w_icmp_ge 148 dX12_two_95 (by decide) (by omega) (by omega) (fun c95 => ?_) (fun c95 => ?_)
                      · refine w_iinc [some (aR 12 0), some (aI x), some (aI y), some (aI z), some (aI (mWil gg 0)), some (aI ly), some (aI (c : Int)), some (aI (x + (c2 : Int))), some (aI ((c3 : Int) + 1)), some (aI (y + (c4 : Int)))] dX12_two_148 rfl rfl (by decide) ?_
                        refine w_goto 78 dX12_two_151 (by decide) ?_
                        refine w_drop [9] [some (aR 12 0), some (aI x), some (aI y), some (aI z), some (aI (mWil gg 0)), some (aI ly), some (aI (c : Int)), some (aI (x + (c2 : Int))), some (aI ((c3 : Int) + 1)), none] rfl ?_
                        refine ih78 (by omega) _ _ ?_ ?_
                        · exact (by omega)
                        · exact (by omega)
                      · refine w_aload_n dX12_two_98 rfl ?_
                        refine w_iload dX12_two_99 rfl ?_
                        refine w_iload dX12_two_101 rfl ?_
                        refine w_iload dX12_two_103 rfl ?_
                        refine w_iload dX12_two_105 rfl ?_
                        refine w_iload dX12_two_107 rfl ?_
                        refine w_callV (d := d + 7) (S := []) [aI (mWil gg 0), aI (c : Int), aI (x + (c2 : Int)), aI (c3 : Int), aI (y + (c4 : Int))] dX12_two_109 ml_X12_299 ok_X12_namesOn vi_X12_namesOn rfl rfl (by decide) rfl (Nat.le_of_ble_eq_true rfl) ?_
                        refine c_X12_namesOn (d := (d + 6)) (mWil gg 0) (c : Int) (x + (c2 : Int)) (c3 : Int) (y + (c4 : Int)) J R (by omega) (by omega) (by omega) (by omega) ?_
                        show fwWP mX12_two (d + 8) 112 [some (aR 12 0), some (aI x), some (aI y), some (aI z), some (aI (mWil gg 0)), some (aI ly), some (aI (c : Int)), some (aI (x + (c2 : Int))), some (aI (c3 : Int)), some (aI (y + (c4 : Int)))] [aI (nOn (gg 18 0) (mWil gg 0) (c : Int) (x + (c2 : Int)) (c3 : Int) (y + (c4 : Int)) (gg 5 0 3).toNat)] (fwUc h 42 0 A26_4) Q
                        have hnn13 := nOn_r (F := gg 18 0) (wl := (mWil gg 0)) (l := (c : Int)) (r := (x + (c2 : Int))) (u := (c3 : Int)) (v := (y + (c4 : Int))) (gg 5 0 3).toNat (by omega) (fun f hf => (hP.2 f hf).2.1)
                        refine w_iload_n dX12_two_112 rfl ?_
                        refine w_icmp_lt 142 dX12_two_113 (by decide) (by omega) (by omega) (fun c113 => ?_) (fun c113 => ?_)
                        · refine w_iinc [some (aR 12 0), some (aI x), some (aI y), some (aI z), some (aI (mWil gg 0)), some (aI ly), some (aI (c : Int)), some (aI (x + (c2 : Int))), some (aI (c3 : Int)), some (aI ((y + (c4 : Int)) + 1))] dX12_two_142 rfl rfl (by decide) ?_
                          refine w_goto 87 dX12_two_145 (by decide) ?_
                          refine ih87 (by omega) _ _ ?_ ?_
                          · exact (by omega)
                          · exact (by omega)
                        · refine w_iload dX12_two_116 rfl ?_
                          refine w_iload_n dX12_two_118 rfl ?_
                          refine w_iload dX12_two_119 rfl ?_
                          refine w_iload dX12_two_121 rfl ?_
                          refine w_callS (d := d + 7) (S := [aI ly]) [aI x, aI (c : Int), aI (x + (c2 : Int))] dX12_two_123 ml_X12_295 ok_X12_steps st_X12_steps rfl (Nat.le_of_ble_eq_true rfl) ?_
                          refine c_X12_steps (d := (d + 6)) x (c : Int) (x + (c2 : Int)) (by omega) (by omega) (by omega) ?_
                          show fwWP mX12_two (d + 8) 126 [some (aR 12 0), some (aI x), some (aI y), some (aI z), some (aI (mWil gg 0)), some (aI ly), some (aI (c : Int)), some (aI (x + (c2 : Int))), some (aI (c3 : Int)), some (aI (y + (c4 : Int)))] [aI (mSteps x (c : Int) (x + (c2 : Int))), aI ly] (fwUc h 42 0 A26_4) Q
                          have hst15 := mSteps_w (x := x) (a := (c : Int)) (b := (x + (c2 : Int))) (by omega) (by omega) (by omega)
                          refine w_iload_n dX12_two_126 rfl ?_
                          refine w_iload dX12_two_127 rfl ?_
                          refine w_iload dX12_two_129 rfl ?_
                          refine w_callS (d := d + 7) (S := [aI (mSteps x (c : Int) (x + (c2 : Int))), aI ly]) [aI y, aI (c3 : Int), aI (y + (c4 : Int))] dX12_two_131 ml_X12_295 ok_X12_steps st_X12_steps rfl (Nat.le_of_ble_eq_true rfl) ?_
                          refine c_X12_steps (d := (d + 6)) y (c3 : Int) (y + (c4 : Int)) (by omega) (by omega) (by omega) ?_
                          show fwWP mX12_two (d + 8) 134 [some (aR 12 0), some (aI x), some (aI y), some (aI z), some (aI (mWil gg 0)), some (aI ly), some (aI (c : Int)), some (aI (x + (c2 : Int))), some (aI (c3 : Int)), some (aI (y + (c4 : Int)))] [aI (mSteps y (c3 : Int) (y + (c4 : Int))), aI (mSteps x (c : Int) (x + (c2 : Int))), aI ly] (fwUc h 42 0 A26_4) Q
                          have hst16 := mSteps_w (x := y) (a := (c3 : Int)) (b := (y + (c4 : Int))) (by omega) (by omega) (by omega)
                          refine w_max (d := d + 7) (S := [aI ly]) dX12_two_134 ml_X12_317 (by omega) (by omega) (Nat.le_of_ble_eq_true rfl) ?_
                          refine w_min (d := d + 7) (S := []) dX12_two_137 ml_X12_112 (by omega) (by omega) (Nat.le_of_ble_eq_true rfl) ?_
                          refine w_istore [some (aR 12 0), some (aI x), some (aI y), some (aI z), some (aI (mWil gg 0)), some (aI (min ly (max (mSteps x (c : Int) (x + (c2 : Int))) (mSteps y (c3 : Int) (y + (c4 : Int)))))), some (aI (c : Int)), some (aI (x + (c2 : Int))), some (aI (c3 : Int)), some (aI (y + (c4 : Int)))] dX12_two_140 rfl (by decide) ?_
                          refine w_iinc [some (aR 12 0), some (aI x), some (aI y), some (aI z), some (aI (mWil gg 0)), some (aI (min ly (max (mSteps x (c : Int) (x + (c2 : Int))) (mSteps y (c3 : Int) (y + (c4 : Int)))))), some (aI (c : Int)), some (aI (x + (c2 : Int))), some (aI (c3 : Int)), some (aI ((y + (c4 : Int)) + 1))] dX12_two_142 rfl rfl (by decide) ?_
                          refine w_goto 87 dX12_two_145 (by decide) ?_
                          refine ih87 (by omega) _ _ ?_ ?_
                          · exact (by omega)
                          · exact (by omega)
                    refine lp87 0 (Nat.zero_le _) _ _ ?_ ?_
                    · exact (by omega)
                    · exact (by omega)
                refine lp78 0 (Nat.zero_le _) _ _ ?_ ?_
                · exact (by omega)
                · exact (by omega)
              · refine w_goto 154 dX12_two_72 (by decide) ?_
                refine w_iinc [some (aR 12 0), some (aI x), some (aI y), some (aI z), some (aI (mWil gg 0)), some (aI lw), some (aI (c : Int)), some (aI ((x + (c2 : Int)) + 1)), none, none] dX12_two_154 rfl rfl (by decide) ?_
                refine w_goto 48 dX12_two_157 (by decide) ?_
                refine ih48 (by omega) _ _ ?_ ?_
                · exact (by omega)
                · exact (by omega)
          refine lp48 0 (Nat.zero_le _) _ _ ?_ ?_
          · exact (by omega)
          · exact (by omega)
      refine lp39 0 (Nat.zero_le _) _ _ ?_ ?_
      · exact (by omega)
      · exact (by omega)
    · refine w_bipush dX12_two_18 rfl ?_
      exact w_iret dX12_two_20 rfl (k _ _ (scr_rf hsh))
end
section
set_option maxRecDepth 100000 in
set_option maxHeartbeats 4000000 in
theorem c_w_elected {d : Nat} {h gg : fwH} {Q : Option fwV → fwH → Prop}  (J : cOk gg) (R : jF gg h) (K : jA gg h) (hsh : sc h)  (k : ∀ v g, scr h g → Q (some (aI v)) g) : fwCt mX12_elected (d + 6) [aR 12 0] h Q := by
  refine fwCt_of [some (aR 12 0), none, none, none] rfl rfl rfl ?_
  obtain ⟨hl, hP, hG, hM0, htd, hut, hlw, hhc, ha, hs, hT, hsc⟩ := id J
  have hb17 : hB (gg 17 0) := fun c hc => by have := hM0 c hc; omega
  obtain ⟨⟨g1, g2⟩, ⟨g3, g4⟩, ⟨g5, g6⟩, g7, -⟩ := id hG
  have h17_99 : ∀ c : Nat, (c : Int) < gg 4 0 1 → gg 17 0 c ≤ 99 := fun c hc => (hM0 c (by omega)).2
  have hpz := hP.1
  have hrs1 := R.2.2.2.2.2.2.2.2.2.2.2
  refine w_aload_n dX12_elected_0 rfl ?_
  refine w_callV (d := d + 5) (S := []) [] dX12_elected_1 ml_X12_73 ok_X12_isMount vi_X12_isMount rfl rfl (by decide) rfl (Nat.le_of_ble_eq_true rfl) ?_
  refine c_X12_isMount (d := (d + 5)) J R ?_
  show fwWP mX12_elected (d + 6) 4 [some (aR 12 0), none, none, none] [aI (fwB (0 < gg 3 0 6))] h Q
  refine w_ifB_ne 10 dX12_elected_4 (by decide) (fun c4 => ?_) (fun c4 => ?_)
  · refine w_aload_n dX12_elected_10 rfl ?_
    refine w_callV (d := d + 5) (S := []) [] dX12_elected_11 ml_X12_240 ok_X12_asItIs vi_X12_asItIs rfl rfl (by decide) rfl (Nat.le_of_ble_eq_true rfl) ?_
    refine c_X12_asItIs (d := d) J R K (show 1 ≤ gg 4 0 1 by omega) (show 1 ≤ gg 4 0 3 by omega) ?_
    intro A11_2 hA11_2
    show fwWP mX12_elected (d + 6) 14 [some (aR 12 0), none, none, none] [] (fwUc h 42 0 A11_2) Q
    refine w_iconst dX12_elected_14 ?_
    refine w_istore_n [some (aR 12 0), some (aI 0), none, none] dX12_elected_15 rfl (by decide) ?_
    have lp16 : ∀ c : Nat, c ≤ (gg 4 0 1).toNat → ∀ (y16 : Int) (A16 : Nat → Int), y16 = (c : Int) → hiR (gg 4 0 1) A16 (gg 17 0) → fwWP mX12_elected (d + 6) 16 [some (aR 12 0), some (aI y16), none, none] [] (fwUc h 42 0 A16) Q := by
      refine fw_up (fun c hc16 ih16 => ?_)
      intro y16 A16 ey16 hA16
      subst ey16
      show fwWP mX12_elected (d + 6) 16 [some (aR 12 0), some (aI (c : Int)), none, none] [] (fwUc h 42 0 A16) Q
      refine w_iload_n dX12_elected_16 rfl ?_
      refine w_aload_n dX12_elected_17 rfl ?_
      refine w_getr 36 0 dX12_elected_18 fl_X12_9 rfl (by decide) ?_
      refine w_iconst dX12_elected_21 ?_
      refine w_ialdE (v := gg 4 0 1) dX12_elected_22 rfl (by decide) (by omega) (by omega) R.1 ?_
      refine w_icmp_ge 113 dX12_elected_23 (by decide) (by omega) (by omega) (fun c23 => ?_) (fun c23 => ?_)
      · refine w_iconst dX12_elected_113 ?_
        exact w_iret dX12_elected_114 rfl (k _ _ (scr_uc (scr_rf hsh) rfl (by decide) (by decide) (by decide)))
      · have hb1 := hM0 c (by omega)
        refine w_aload_n dX12_elected_26 rfl ?_
        refine w_getr 42 0 dX12_elected_27 fl_X12_34 rfl (by decide) ?_
        refine w_iload_n dX12_elected_30 rfl ?_
        refine w_ialdE (v := (gg 17 0) c) dX12_elected_31 rfl (by decide) (by omega) (by omega) (hA16 _ (by omega)) ?_
        refine w_if_le 39 dX12_elected_32 (by decide) (by omega) (fun c32 => ?_) (fun c32 => ?_)
        · refine w_iconst dX12_elected_39 ?_
          refine w_istore_n [some (aR 12 0), some (aI (c : Int)), some (aI 0), none] dX12_elected_40 rfl (by decide) ?_
          refine w_iconst dX12_elected_41 ?_
          refine w_istore_n [some (aR 12 0), some (aI (c : Int)), some (aI 0), some (aI 0)] dX12_elected_42 rfl (by decide) ?_
          have lp43 : ∀ j : Nat, j ≤ (gg 4 0 1).toNat → ∀ (y43 v43 : Int) (A43 : Nat → Int), y43 = (j : Int) → (0 ≤ v43 ∧ v43 ≤ 1) → (v43 = 0 ∨ 0 < gg 17 0 c) → hiR (gg 4 0 1) A43 (gg 17 0) → fwWP mX12_elected (d + 6) 43 [some (aR 12 0), some (aI (c : Int)), some (aI v43), some (aI y43)] [] (fwUc h 42 0 A43) Q := by
            refine fw_up (fun j hc43 ih43 => ?_)
            intro y43 v43 A43 ey43 ev43 ew43 hA43
            subst ey43
            show fwWP mX12_elected (d + 6) 43 [some (aR 12 0), some (aI (c : Int)), some (aI v43), some (aI (j : Int))] [] (fwUc h 42 0 A43) Q
            refine w_iload_n dX12_elected_43 rfl ?_
            refine w_aload_n dX12_elected_44 rfl ?_
            refine w_getr 36 0 dX12_elected_45 fl_X12_9 rfl (by decide) ?_
            refine w_iconst dX12_elected_48 ?_
            refine w_ialdE (v := gg 4 0 1) dX12_elected_49 rfl (by decide) (by omega) (by omega) R.1 ?_
            refine w_icmp_ge 101 dX12_elected_50 (by decide) (by omega) (by omega) (fun c50 => ?_) (fun c50 => ?_)
            · refine w_iload_n dX12_elected_101 rfl ?_
              refine w_if_eq 107 dX12_elected_102 (by decide) (by omega) (fun c102 => ?_) (fun c102 => ?_)
              · refine w_iinc [some (aR 12 0), some (aI ((c : Int) + 1)), some (aI v43), some (aI (j : Int))] dX12_elected_107 rfl rfl (by decide) ?_
                refine w_goto 16 dX12_elected_110 (by decide) ?_
                refine w_drop [2, 3] [some (aR 12 0), some (aI ((c : Int) + 1)), none, none] rfl ?_
                refine ih16 (by omega) _ _ ?_ ?_
                · exact (by omega)
                · exact hA43
              · refine w_iload_n dX12_elected_105 rfl ?_
                exact w_iret dX12_elected_106 rfl (k _ _ (scr_uc (scr_rf hsh) rfl (by decide) (by decide) (by decide)))
            · refine w_iload_n dX12_elected_53 rfl ?_
              refine w_if_eq 101 dX12_elected_54 (by decide) (by omega) (fun c54 => ?_) (fun c54 => ?_)
              · refine w_iload_n dX12_elected_101 rfl ?_
                refine w_if_eq 107 dX12_elected_102 (by decide) (by omega) (fun c102 => ?_) (fun c102 => ?_)
                · refine w_iinc [some (aR 12 0), some (aI ((c : Int) + 1)), some (aI v43), some (aI (j : Int))] dX12_elected_107 rfl rfl (by decide) ?_
                  refine w_goto 16 dX12_elected_110 (by decide) ?_
                  refine w_drop [2, 3] [some (aR 12 0), some (aI ((c : Int) + 1)), none, none] rfl ?_
                  refine ih16 (by omega) _ _ ?_ ?_
                  · exact (by omega)
                  · exact hA43
                · refine w_iload_n dX12_elected_105 rfl ?_
                  exact w_iret dX12_elected_106 rfl (k _ _ (scr_uc (scr_rf hsh) rfl (by decide) (by decide) (by decide)))
              · have hbj := hM0 j (by omega)
                refine w_aload_n dX12_elected_57 rfl ?_
                refine w_getr 42 0 dX12_elected_58 fl_X12_34 rfl (by decide) ?_
                refine w_iload_n dX12_elected_61 rfl ?_
                refine w_ialdE (v := (gg 17 0) j) dX12_elected_62 rfl (by decide) (by omega) (by omega) (hA43 _ (by omega)) ?_
                refine w_if_eq 89 dX12_elected_63 (by decide) (by omega) (fun c63 => ?_) (fun c63 => ?_)
                · refine w_iconst dX12_elected_89 ?_
                  refine w_goto 94 dX12_elected_90 (by decide) ?_
                  refine w_istore_n [some (aR 12 0), some (aI (c : Int)), some (aI 1), some (aI (j : Int))] dX12_elected_94 rfl (by decide) ?_
                  refine w_iinc [some (aR 12 0), some (aI (c : Int)), some (aI 1), some (aI ((j : Int) + 1))] dX12_elected_95 rfl rfl (by decide) ?_
                  refine w_goto 43 dX12_elected_98 (by decide) ?_
                  exact ih43 (by omega) _ _ _ (by omega) (by omega) (by omega) hA43
                · refine w_aload_n dX12_elected_66 rfl ?_
                  refine w_aload_n dX12_elected_67 rfl ?_
                  refine w_iload_n dX12_elected_68 rfl ?_
                  refine w_iload_n dX12_elected_69 rfl ?_
                  refine w_callV (d := d + 5) (S := [aR 12 0]) [aI (c : Int), aI (j : Int)] dX12_elected_70 ml_X12_332 ok_X12_votesFor vi_X12_votesFor rfl rfl (by decide) rfl (Nat.le_of_ble_eq_true rfl) ?_
                  refine c_X12_votesFor (d := d) c j J R hA43 (show (c : Int) < gg 4 0 1 by omega) (show (j : Int) < gg 4 0 1 by omega) (show 0 < gg 17 0 c by omega) (show 0 < gg 17 0 j by omega) ?_
                  intro A70_10 hA70_10
                  show fwWP mX12_elected (d + 6) 73 [some (aR 12 0), some (aI (c : Int)), some (aI v43), some (aI (j : Int))] [aI (mVo gg c j), aR 12 0] (fwUc (fwUc h 42 0 A43) 42 0 A70_10) Q
                  rw [show (fwUc (fwUc h 42 0 A43) 42 0 A70_10) = (fwUc h 42 0 A70_10) from by funext a b; simp only [fwUc]; (repeat' split); all_goals first | rfl | (exfalso; omega)]
                  refine w_callV (d := d + 5) (S := []) [aI (mVo gg c j)] dX12_elected_73 ml_X12_260 ok_X12_namesOf vi_X12_namesOf rfl rfl (by decide) rfl (Nat.le_of_ble_eq_true rfl) ?_
                  refine c_X12_namesOf (d := (d + 4)) (mVo gg c j) J R ?_
                  show fwWP mX12_elected (d + 6) 76 [some (aR 12 0), some (aI (c : Int)), some (aI v43), some (aI (j : Int))] [aI (mNames (gg 18 0) (mVo gg c j) (gg 5 0 3).toNat)] (fwUc h 42 0 A70_10) Q
                  have hnr11 := mNames_r2 hP (mVo gg c j)
                  refine w_aload_n dX12_elected_76 rfl ?_
                  refine w_aload_n dX12_elected_77 rfl ?_
                  refine w_iload_n dX12_elected_78 rfl ?_
                  refine w_iload_n dX12_elected_79 rfl ?_
                  refine w_callV (d := d + 5) (S := [aR 12 0, aI (mNames (gg 18 0) (mVo gg c j) (gg 5 0 3).toNat)]) [aI (j : Int), aI (c : Int)] dX12_elected_80 ml_X12_332 ok_X12_votesFor vi_X12_votesFor rfl rfl (by decide) rfl (Nat.le_of_ble_eq_true rfl) ?_
                  refine c_X12_votesFor (d := d) j c J R hA70_10 (show (j : Int) < gg 4 0 1 by omega) (show (c : Int) < gg 4 0 1 by omega) (show 0 < gg 17 0 j by omega) (show 0 < gg 17 0 c by omega) ?_
                  intro A80_12 hA80_12
                  show fwWP mX12_elected (d + 6) 83 [some (aR 12 0), some (aI (c : Int)), some (aI v43), some (aI (j : Int))] [aI (mVo gg j c), aR 12 0, aI (mNames (gg 18 0) (mVo gg c j) (gg 5 0 3).toNat)] (fwUc (fwUc h 42 0 A70_10) 42 0 A80_12) Q
                  rw [show (fwUc (fwUc h 42 0 A70_10) 42 0 A80_12) = (fwUc h 42 0 A80_12) from by funext a b; simp only [fwUc]; (repeat' split); all_goals first | rfl | (exfalso; omega)]
                  refine w_callV (d := d + 5) (S := [aI (mNames (gg 18 0) (mVo gg c j) (gg 5 0 3).toNat)]) [aI (mVo gg j c)] dX12_elected_83 ml_X12_260 ok_X12_namesOf vi_X12_namesOf rfl rfl (by decide) rfl (Nat.le_of_ble_eq_true rfl) ?_
                  refine c_X12_namesOf (d := (d + 4)) (mVo gg j c) J R ?_
                  show fwWP mX12_elected (d + 6) 86 [some (aR 12 0), some (aI (c : Int)), some (aI v43), some (aI (j : Int))] [aI (mNames (gg 18 0) (mVo gg j c) (gg 5 0 3).toNat), aI (mNames (gg 18 0) (mVo gg c j) (gg 5 0 3).toNat)] (fwUc h 42 0 A80_12) Q
                  have hnr13 := mNames_r2 hP (mVo gg j c)
                  refine w_icmp_lt 93 dX12_elected_86 (by decide) (by omega) (by omega) (fun c86 => ?_) (fun c86 => ?_)
                  · refine w_iconst dX12_elected_93 ?_
                    refine w_istore_n [some (aR 12 0), some (aI (c : Int)), some (aI 0), some (aI (j : Int))] dX12_elected_94 rfl (by decide) ?_
                    refine w_iinc [some (aR 12 0), some (aI (c : Int)), some (aI 0), some (aI ((j : Int) + 1))] dX12_elected_95 rfl rfl (by decide) ?_
                    refine w_goto 43 dX12_elected_98 (by decide) ?_
                    exact ih43 (by omega) _ _ _ (by omega) (by omega) (by omega) hA80_12
                  · refine w_iconst dX12_elected_89 ?_
                    refine w_goto 94 dX12_elected_90 (by decide) ?_
                    refine w_istore_n [some (aR 12 0), some (aI (c : Int)), some (aI 1), some (aI (j : Int))] dX12_elected_94 rfl (by decide) ?_
                    refine w_iinc [some (aR 12 0), some (aI (c : Int)), some (aI 1), some (aI ((j : Int) + 1))] dX12_elected_95 rfl rfl (by decide) ?_
                    refine w_goto 43 dX12_elected_98 (by decide) ?_
                    exact ih43 (by omega) _ _ _ (by omega) (by omega) (by omega) hA80_12
          exact lp43 0 (Nat.zero_le _) _ _ _ rfl (by omega) (by omega) hA16
        · refine w_iconst dX12_elected_35 ?_
          refine w_goto 40 dX12_elected_36 (by decide) ?_
          refine w_istore_n [some (aR 12 0), some (aI (c : Int)), some (aI 1), none] dX12_elected_40 rfl (by decide) ?_
          refine w_iconst dX12_elected_41 ?_
          refine w_istore_n [some (aR 12 0), some (aI (c : Int)), some (aI 1), some (aI 0)] dX12_elected_42 rfl (by decide) ?_
          have lp43 : ∀ j : Nat, j ≤ (gg 4 0 1).toNat → ∀ (y43 v43 : Int) (A43 : Nat → Int), y43 = (j : Int) → (0 ≤ v43 ∧ v43 ≤ 1) → (v43 = 0 ∨ 0 < gg 17 0 c) → hiR (gg 4 0 1) A43 (gg 17 0) → fwWP mX12_elected (d + 6) 43 [some (aR 12 0), some (aI (c : Int)), some (aI v43), some (aI y43)] [] (fwUc h 42 0 A43) Q := by
            refine fw_up (fun j hc43 ih43 => ?_)
            intro y43 v43 A43 ey43 ev43 ew43 hA43
            subst ey43
            show fwWP mX12_elected (d + 6) 43 [some (aR 12 0), some (aI (c : Int)), some (aI v43), some (aI (j : Int))] [] (fwUc h 42 0 A43) Q
            refine w_iload_n dX12_elected_43 rfl ?_
            refine w_aload_n dX12_elected_44 rfl ?_
            refine w_getr 36 0 dX12_elected_45 fl_X12_9 rfl (by decide) ?_
            refine w_iconst dX12_elected_48 ?_
            refine w_ialdE (v := gg 4 0 1) dX12_elected_49 rfl (by decide) (by omega) (by omega) R.1 ?_
            refine w_icmp_ge 101 dX12_elected_50 (by decide) (by omega) (by omega) (fun c50 => ?_) (fun c50 => ?_)
            · refine w_iload_n dX12_elected_101 rfl ?_
              refine w_if_eq 107 dX12_elected_102 (by decide) (by omega) (fun c102 => ?_) (fun c102 => ?_)
              · refine w_iinc [some (aR 12 0), some (aI ((c : Int) + 1)), some (aI v43), some (aI (j : Int))] dX12_elected_107 rfl rfl (by decide) ?_
                refine w_goto 16 dX12_elected_110 (by decide) ?_
                refine w_drop [2, 3] [some (aR 12 0), some (aI ((c : Int) + 1)), none, none] rfl ?_
                refine ih16 (by omega) _ _ ?_ ?_
                · exact (by omega)
                · exact hA43
              · refine w_iload_n dX12_elected_105 rfl ?_
                exact w_iret dX12_elected_106 rfl (k _ _ (scr_uc (scr_rf hsh) rfl (by decide) (by decide) (by decide)))
            · refine w_iload_n dX12_elected_53 rfl ?_
              refine w_if_eq 101 dX12_elected_54 (by decide) (by omega) (fun c54 => ?_) (fun c54 => ?_)
              · refine w_iload_n dX12_elected_101 rfl ?_
                refine w_if_eq 107 dX12_elected_102 (by decide) (by omega) (fun c102 => ?_) (fun c102 => ?_)
                · refine w_iinc [some (aR 12 0), some (aI ((c : Int) + 1)), some (aI v43), some (aI (j : Int))] dX12_elected_107 rfl rfl (by decide) ?_
                  refine w_goto 16 dX12_elected_110 (by decide) ?_
                  refine w_drop [2, 3] [some (aR 12 0), some (aI ((c : Int) + 1)), none, none] rfl ?_
                  refine ih16 (by omega) _ _ ?_ ?_
                  · exact (by omega)
                  · exact hA43
                · refine w_iload_n dX12_elected_105 rfl ?_
                  exact w_iret dX12_elected_106 rfl (k _ _ (scr_uc (scr_rf hsh) rfl (by decide) (by decide) (by decide)))
              · have hbj := hM0 j (by omega)
                refine w_aload_n dX12_elected_57 rfl ?_
                refine w_getr 42 0 dX12_elected_58 fl_X12_34 rfl (by decide) ?_
                refine w_iload_n dX12_elected_61 rfl ?_
                refine w_ialdE (v := (gg 17 0) j) dX12_elected_62 rfl (by decide) (by omega) (by omega) (hA43 _ (by omega)) ?_
                refine w_if_eq 89 dX12_elected_63 (by decide) (by omega) (fun c63 => ?_) (fun c63 => ?_)
                · refine w_iconst dX12_elected_89 ?_
                  refine w_goto 94 dX12_elected_90 (by decide) ?_
                  refine w_istore_n [some (aR 12 0), some (aI (c : Int)), some (aI 1), some (aI (j : Int))] dX12_elected_94 rfl (by decide) ?_
                  refine w_iinc [some (aR 12 0), some (aI (c : Int)), some (aI 1), some (aI ((j : Int) + 1))] dX12_elected_95 rfl rfl (by decide) ?_
                  refine w_goto 43 dX12_elected_98 (by decide) ?_
                  exact ih43 (by omega) _ _ _ (by omega) (by omega) (by omega) hA43
                · refine w_aload_n dX12_elected_66 rfl ?_
                  refine w_aload_n dX12_elected_67 rfl ?_
                  refine w_iload_n dX12_elected_68 rfl ?_
                  refine w_iload_n dX12_elected_69 rfl ?_
                  refine w_callV (d := d + 5) (S := [aR 12 0]) [aI (c : Int), aI (j : Int)] dX12_elected_70 ml_X12_332 ok_X12_votesFor vi_X12_votesFor rfl rfl (by decide) rfl (Nat.le_of_ble_eq_true rfl) ?_
                  refine c_X12_votesFor (d := d) c j J R hA43 (show (c : Int) < gg 4 0 1 by omega) (show (j : Int) < gg 4 0 1 by omega) (show 0 < gg 17 0 c by omega) (show 0 < gg 17 0 j by omega) ?_
                  intro A70_20 hA70_20
                  show fwWP mX12_elected (d + 6) 73 [some (aR 12 0), some (aI (c : Int)), some (aI v43), some (aI (j : Int))] [aI (mVo gg c j), aR 12 0] (fwUc (fwUc h 42 0 A43) 42 0 A70_20) Q
                  rw [show (fwUc (fwUc h 42 0 A43) 42 0 A70_20) = (fwUc h 42 0 A70_20) from by funext a b; simp only [fwUc]; (repeat' split); all_goals first | rfl | (exfalso; omega)]
                  refine w_callV (d := d + 5) (S := []) [aI (mVo gg c j)] dX12_elected_73 ml_X12_260 ok_X12_namesOf vi_X12_namesOf rfl rfl (by decide) rfl (Nat.le_of_ble_eq_true rfl) ?_
                  refine c_X12_namesOf (d := (d + 4)) (mVo gg c j) J R ?_
                  show fwWP mX12_elected (d + 6) 76 [some (aR 12 0), some (aI (c : Int)), some (aI v43), some (aI (j : Int))] [aI (mNames (gg 18 0) (mVo gg c j) (gg 5 0 3).toNat)] (fwUc h 42 0 A70_20) Q
                  have hnr21 := mNames_r2 hP (mVo gg c j)
                  refine w_aload_n dX12_elected_76 rfl ?_
                  refine w_aload_n dX12_elected_77 rfl ?_
                  refine w_iload_n dX12_elected_78 rfl ?_
                  refine w_iload_n dX12_elected_79 rfl ?_
                  refine w_callV (d := d + 5) (S := [aR 12 0, aI (mNames (gg 18 0) (mVo gg c j) (gg 5 0 3).toNat)]) [aI (j : Int), aI (c : Int)] dX12_elected_80 ml_X12_332 ok_X12_votesFor vi_X12_votesFor rfl rfl (by decide) rfl (Nat.le_of_ble_eq_true rfl) ?_
                  refine c_X12_votesFor (d := d) j c J R hA70_20 (show (j : Int) < gg 4 0 1 by omega) (show (c : Int) < gg 4 0 1 by omega) (show 0 < gg 17 0 j by omega) (show 0 < gg 17 0 c by omega) ?_
                  intro A80_22 hA80_22
                  show fwWP mX12_elected (d + 6) 83 [some (aR 12 0), some (aI (c : Int)), some (aI v43), some (aI (j : Int))] [aI (mVo gg j c), aR 12 0, aI (mNames (gg 18 0) (mVo gg c j) (gg 5 0 3).toNat)] (fwUc (fwUc h 42 0 A70_20) 42 0 A80_22) Q
                  rw [show (fwUc (fwUc h 42 0 A70_20) 42 0 A80_22) = (fwUc h 42 0 A80_22) from by funext a b; simp only [fwUc]; (repeat' split); all_goals first | rfl | (exfalso; omega)]
                  refine w_callV (d := d + 5) (S := [aI (mNames (gg 18 0) (mVo gg c j) (gg 5 0 3).toNat)]) [aI (mVo gg j c)] dX12_elected_83 ml_X12_260 ok_X12_namesOf vi_X12_namesOf rfl rfl (by decide) rfl (Nat.le_of_ble_eq_true rfl) ?_
                  refine c_X12_namesOf (d := (d + 4)) (mVo gg j c) J R ?_
                  show fwWP mX12_elected (d + 6) 86 [some (aR 12 0), some (aI (c : Int)), some (aI v43), some (aI (j : Int))] [aI (mNames (gg 18 0) (mVo gg j c) (gg 5 0 3).toNat), aI (mNames (gg 18 0) (mVo gg c j) (gg 5 0 3).toNat)] (fwUc h 42 0 A80_22) Q
                  have hnr23 := mNames_r2 hP (mVo gg j c)
                  refine w_icmp_lt 93 dX12_elected_86 (by decide) (by omega) (by omega) (fun c86 => ?_) (fun c86 => ?_)
                  · refine w_iconst dX12_elected_93 ?_
                    refine w_istore_n [some (aR 12 0), some (aI (c : Int)), some (aI 0), some (aI (j : Int))] dX12_elected_94 rfl (by decide) ?_
                    refine w_iinc [some (aR 12 0), some (aI (c : Int)), some (aI 0), some (aI ((j : Int) + 1))] dX12_elected_95 rfl rfl (by decide) ?_
                    refine w_goto 43 dX12_elected_98 (by decide) ?_
                    exact ih43 (by omega) _ _ _ (by omega) (by omega) (by omega) hA80_22
                  · refine w_iconst dX12_elected_89 ?_
                    refine w_goto 94 dX12_elected_90 (by decide) ?_
                    refine w_istore_n [some (aR 12 0), some (aI (c : Int)), some (aI 1), some (aI (j : Int))] dX12_elected_94 rfl (by decide) ?_
                    refine w_iinc [some (aR 12 0), some (aI (c : Int)), some (aI 1), some (aI ((j : Int) + 1))] dX12_elected_95 rfl rfl (by decide) ?_
                    refine w_goto 43 dX12_elected_98 (by decide) ?_
                    exact ih43 (by omega) _ _ _ (by omega) (by omega) (by omega) hA80_22
          exact lp43 0 (Nat.zero_le _) _ _ _ rfl (by omega) (by omega) hA16
    have z16 := lp16 0 (Nat.zero_le _) _ A11_2 (by exact (show 0 = ((0 : Nat) : Int) by omega))  hA11_2
    exact z16
  · refine w_bipush dX12_elected_7 rfl ?_
    exact w_iret dX12_elected_9 rfl (k _ _ (scr_rf hsh))
end

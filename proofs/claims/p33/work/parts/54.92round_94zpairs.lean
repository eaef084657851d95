section
/-- the model's least and its two ends, by the class's way so far -/
def rdR (S : Int × Int × Int) (lv : Int) (r : Nat → Int) : Prop := (S.1 = -1 ∧ lv = 1000000000) ∨ ((0 ≤ S.1 ∧ S.1 ≤ 1000) ∧ lv = S.1 ∧ r 17 = S.2.1 ∧ r 18 = S.2.2)
theorem rdR_b {S : Int × Int × Int} {lv : Int} {r : Nat → Int} (a : rdR S lv r) : 0 ≤ lv ∧ lv ≤ 1000000000 := by
  rcases a with a | a <;> omega
theorem rdR_n {N : Nat → Int} {x : Nat} {n : Int} {a j : Nat} {s0 : Int × Int × Int} {lv : Int} {r : Nat → Int} (h : rdR (mW1i N x n a s0 j) lv r) (hs : mSteps x a (x + j) ≤ 1000) (c : lv ≤ mSteps x a (x + j) ∨ mWi N a (x + j) < n) : rdR (mW1i N x n a s0 (j + 1)) lv r := by
  rw [mW1i, if_neg]
  · exact h
  · intro q
    rcases h with z | z <;> omega
theorem rdR_y {N : Nat → Int} {x : Nat} {n : Int} {a j : Nat} {s0 : Int × Int × Int} {lv : Int} {r r2 : Nat → Int} (h : rdR (mW1i N x n a s0 j) lv r) (hs : 0 ≤ mSteps x a (x + j) ∧ mSteps x a (x + j) ≤ 1000) (c1 : mSteps x a (x + j) < lv) (c2 : n ≤ mWi N a (x + j)) (e1 : r2 17 = (a : Int)) (e2 : r2 18 = (x : Int) + j) : rdR (mW1i N x n a s0 (j + 1)) (mSteps x a (x + j)) r2 := by
  rw [mW1i, if_pos]
  · exact Or.inr ⟨hs, rfl, e1, e2⟩
  · refine ⟨?_, c2⟩
    rcases h with z | z <;> omega
theorem mSteps_s {x a b : Int} (h : 0 ≤ a ∧ a ≤ x ∧ x ≤ b ∧ b < 10) : 0 ≤ mSteps x a b ∧ mSteps x a b ≤ 1000 := by
  unfold mSteps
  omega
set_option maxRecDepth 100000 in
set_option maxHeartbeats 4000000 in
theorem c_s_roundOf {d : Nat} {h gg : fwH} {Q : Option fwV → fwH → Prop} (x : Nat) (y : Int) (J : cOk gg) (R : jF gg h) (K : jA gg h) (hsh : sc h) (hc : (x : Int) ≤ gg 4 0 1 - 1) (hy : -2147483648 ≤ y ∧ y < 2147483648) (k : ∀ v g, rdR (mRnd gg x y) v (g 12 0) → scr h g → Q (some (aI v)) g) : fwCt mX12_roundOf (d + 7) [aR 12 0, aI (x : Int), aI y] h Q := by
  refine fwCt_of [some (aR 12 0), some (aI (x : Int)), some (aI y), none, none, none, none] rfl rfl rfl ?_
  obtain ⟨hl, hP, hG, hM0, htd, hut, hlw, hhc, ha, hs, hT, hsc⟩ := id J
  have hb17 : hB (gg 17 0) := fun c hc => by have := hM0 c hc; omega
  obtain ⟨⟨g1, g2⟩, ⟨g3, g4⟩, ⟨g5, g6⟩, g7, -⟩ := id hG
  have h17_99 : ∀ c : Nat, (c : Int) < gg 4 0 1 → gg 17 0 c ≤ 99 := fun c hc => (hM0 c (by omega)).2
  have hpz := hP.1
  have hrs1 := R.2.2.2.2.2.2.2.2.2.2.2
  refine w_aload_n dX12_roundOf_0 rfl ?_
  refine w_callV (d := d + 6) (S := []) [] dX12_roundOf_1 ml_X12_240 ok_X12_asItIs vi_X12_asItIs rfl rfl (by decide) rfl (Nat.le_of_ble_eq_true rfl) ?_
  refine c_X12_asItIs (d := (d + 1)) J R K (show 1 ≤ gg 4 0 1 by omega) (show 1 ≤ gg 4 0 3 by omega) ?_
  intro A1_1 hA1_1
  show fwWP mX12_roundOf (d + 7) 4 [some (aR 12 0), some (aI (x : Int)), some (aI y), none, none, none, none] [] (fwUc h 42 0 A1_1) Q
  refine w_aload_n dX12_roundOf_4 rfl ?_
  refine w_callV (d := d + 6) (S := []) [] dX12_roundOf_5 ml_X12_263 ok_X12_willingSet vi_X12_willingSet rfl rfl (by decide) rfl (Nat.le_of_ble_eq_true rfl) ?_
  refine c_X12_willingSet (d := (d + 1)) (gg 17 0) J R hA1_1 hb17 (show 1 ≤ gg 4 0 1 by omega) ?_
  intro A5_2 hA5_2
  show fwWP mX12_roundOf (d + 7) 8 [some (aR 12 0), some (aI (x : Int)), some (aI y), none, none, none, none] [aI (mGers (gg 4 0 1) (gg 17 0) (gg 4 0 2) (gg 4 0 4) (gg 18 0) (gg 5 0 3).toNat (-1))] (fwUc (fwUc h 42 0 A1_1) 42 0 A5_2) Q
  rw [show (fwUc (fwUc h 42 0 A1_1) 42 0 A5_2) = (fwUc h 42 0 A5_2) from by funext a b; simp only [fwUc]; (repeat' split); all_goals first | rfl | (exfalso; omega)]
  have hwr2 := mGers_r (gg 4 0 1) (gg 17 0) (gg 4 0 2) (gg 4 0 4) (gg 18 0) (m := (gg 5 0 3).toNat) (-1) (by omega)
  have hw8_3 := mGers_8 (gg 4 0 1) (gg 17 0) (gg 4 0 2) (gg 4 0 4) (gg 18 0) (m := (gg 5 0 3).toNat) (-1) (by omega)
  change fwWP _ _ _ _ (aI (mWil gg 0) :: _) _ _
  have hw8 : 0 ≤ mWil gg 0 ∧ mWil gg 0 < 256 := hw8_3
  refine w_istore_n [some (aR 12 0), some (aI (x : Int)), some (aI y), some (aI (mWil gg 0)), none, none, none] dX12_roundOf_8 rfl (by decide) ?_
  refine w_ldcw (n := 1000000000) dX12_roundOf_9 cs_X12_294 ?_
  refine w_istore [some (aR 12 0), some (aI (x : Int)), some (aI y), some (aI (mWil gg 0)), some (aI 1000000000), none, none] dX12_roundOf_12 rfl (by decide) ?_
  refine w_iconst dX12_roundOf_14 ?_
  refine w_istore [some (aR 12 0), some (aI (x : Int)), some (aI y), some (aI (mWil gg 0)), some (aI 1000000000), some (aI 0), none] dX12_roundOf_15 rfl (by decide) ?_
  have lp17 : ∀ c : Nat, c ≤ (x + 1) → ∀ (y17 lv : Int) (hh17 : fwH), y17 = (c : Int) → (0 ≤ lv ∧ lv ≤ 1000000000) → (∃ r : Nat → Int, hh17 = (fwUc (fwUc h 42 0 A5_2) 12 0 r) ∧ (r 5 = h 12 0 5 ∧ r 12 = h 12 0 12 ∧ r 13 = h 12 0 13) ∧ rdR (mW1o (mAh (gg 18 0) (mWil gg 0) (gg 5 0 3).toNat) x y ((gg 4 0 1).toNat - x) (-1, 0, 0) c) lv r) → fwWP mX12_roundOf (d + 7) 17 [some (aR 12 0), some (aI (x : Int)), some (aI y), some (aI (mWil gg 0)), some (aI lv), some (aI y17), none] [] hh17 Q := by
    refine fw_up (fun c hc17 ih17 => ?_)
    intro y17 lv hh17 ey17 e_lv eh17
    subst ey17
    obtain ⟨r_17, eh17, hp17⟩ := eh17
    subst eh17
    show fwWP mX12_roundOf (d + 7) 17 [some (aR 12 0), some (aI (x : Int)), some (aI y), some (aI (mWil gg 0)), some (aI lv), some (aI (c : Int)), none] [] (fwUc (fwUc h 42 0 A5_2) 12 0 r_17) Q
    refine w_iload dX12_roundOf_17 rfl ?_
    refine w_iload_n dX12_roundOf_19 rfl ?_
    refine w_icmp_gt 104 dX12_roundOf_20 (by decide) (by omega) (by omega) (fun c20 => ?_) (fun c20 => ?_)
    · have ec17 : (x + 1) = c := by omega
      subst ec17
      refine w_iload dX12_roundOf_104 rfl ?_
      exact w_iret dX12_roundOf_106 rfl (k _ _ hp17.2 (scr_12 (scr_uc (scr_rf hsh) rfl (by decide) (by decide) (by decide)) hp17.1.1 hp17.1.2.1 hp17.1.2.2))
    · refine w_iload_n dX12_roundOf_23 rfl ?_
      refine w_istore [some (aR 12 0), some (aI (x : Int)), some (aI y), some (aI (mWil gg 0)), some (aI lv), some (aI (c : Int)), some (aI (x : Int))] dX12_roundOf_24 rfl (by decide) ?_
      have lp26 : ∀ c2 : Nat, c2 ≤ ((gg 4 0 1).toNat - x) → ∀ (y26 lw : Int) (hh26 : fwH), y26 = (x : Int) + (c2 : Int) → (0 ≤ lw ∧ lw ≤ 1000000000) → (∃ r : Nat → Int, hh26 = (fwUc (fwUc h 42 0 A5_2) 12 0 r) ∧ (r 5 = h 12 0 5 ∧ r 12 = h 12 0 12 ∧ r 13 = h 12 0 13) ∧ rdR (mW1i (mAh (gg 18 0) (mWil gg 0) (gg 5 0 3).toNat) x y c (mW1o (mAh (gg 18 0) (mWil gg 0) (gg 5 0 3).toNat) x y ((gg 4 0 1).toNat - x) (-1, 0, 0) c) c2) lw r) → fwWP mX12_roundOf (d + 7) 26 [some (aR 12 0), some (aI (x : Int)), some (aI y), some (aI (mWil gg 0)), some (aI lw), some (aI (c : Int)), some (aI y26)] [] hh26 Q := by
        refine fw_up (fun c2 hc26 ih26 => ?_)
        intro y26 lw hh26 ey26 e_lw eh26
        subst ey26
        obtain ⟨r_26, eh26, hp26⟩ := eh26
        subst eh26
        show fwWP mX12_roundOf (d + 7) 26 [some (aR 12 0), some (aI (x : Int)), some (aI y), some (aI (mWil gg 0)), some (aI lw), some (aI (c : Int)), some (aI ((x : Int) + (c2 : Int)))] [] (fwUc (fwUc h 42 0 A5_2) 12 0 r_26) Q
        refine w_iload dX12_roundOf_26 rfl ?_
        refine w_aload_n dX12_roundOf_28 rfl ?_
        refine w_getr 36 0 dX12_roundOf_29 fl_X12_9 rfl (by decide) ?_
        refine w_iconst dX12_roundOf_32 ?_
        refine w_ialdE (v := gg 4 0 1) dX12_roundOf_33 rfl (by decide) (by omega) (by omega) R.1 ?_
        refine w_icmp_ge 98 dX12_roundOf_34 (by decide) (by omega) (by omega) (fun c34 => ?_) (fun c34 => ?_)
        · refine w_iinc [some (aR 12 0), some (aI (x : Int)), some (aI y), some (aI (mWil gg 0)), some (aI lw), some (aI ((c : Int) + 1)), some (aI ((x : Int) + (c2 : Int)))] dX12_roundOf_98 rfl rfl (by decide) ?_
          refine w_goto 17 dX12_roundOf_101 (by decide) ?_
          refine w_drop [6] [some (aR 12 0), some (aI (x : Int)), some (aI y), some (aI (mWil gg 0)), some (aI lw), some (aI ((c : Int) + 1)), none] rfl ?_
          refine ih17 (by omega) _ _ _ ?_ ?_ ?_
          · exact (by omega)
          · exact (by omega)
          · exact ⟨_, rfl, hp26.1, by rw [show c2 = ((gg 4 0 1).toNat - x) by omega] at hp26; exact hp26.2⟩
        · have hstS := mSteps_s (x := (x : Int)) (a := (c : Int)) (b := (x : Int) + (c2 : Int)) (by omega)
          refine w_iload_n dX12_roundOf_37 rfl ?_
          refine w_iload dX12_roundOf_38 rfl ?_
          refine w_iload dX12_roundOf_40 rfl ?_
          refine w_callS (d := d + 6) (S := []) [aI (x : Int), aI (c : Int), aI ((x : Int) + (c2 : Int))] dX12_roundOf_42 ml_X12_295 ok_X12_steps st_X12_steps rfl (Nat.le_of_ble_eq_true rfl) ?_
          refine c_X12_steps (d := (d + 5)) (x : Int) (c : Int) ((x : Int) + (c2 : Int)) (by omega) (by omega) (by omega) ?_
          show fwWP mX12_roundOf (d + 7) 45 [some (aR 12 0), some (aI (x : Int)), some (aI y), some (aI (mWil gg 0)), some (aI lw), some (aI (c : Int)), some (aI ((x : Int) + (c2 : Int)))] [aI (mSteps (x : Int) (c : Int) ((x : Int) + (c2 : Int)))] (fwUc (fwUc h 42 0 A5_2) 12 0 r_26) Q
          have hst6 := mSteps_w (x := (x : Int)) (a := (c : Int)) (b := ((x : Int) + (c2 : Int))) (by omega) (by omega) (by omega)
          refine w_iload dX12_roundOf_45 rfl ?_
          refine w_icmp_ge 92 dX12_roundOf_47 (by decide) (by omega) (by omega) (fun c47 => ?_) (fun c47 => ?_)
          · refine w_iinc [some (aR 12 0), some (aI (x : Int)), some (aI y), some (aI (mWil gg 0)), some (aI lw), some (aI (c : Int)), some (aI (((x : Int) + (c2 : Int)) + 1))] dX12_roundOf_92 rfl rfl (by decide) ?_
            refine w_goto 26 dX12_roundOf_95 (by decide) ?_
            refine ih26 (by omega) _ _ _ ?_ ?_ ?_
            · exact (by omega)
            · exact (by omega)
            · exact ⟨_, rfl, hp26.1, rdR_n hp26.2 hstS.2 (Or.inl (by omega))⟩
          · refine w_aload_n dX12_roundOf_50 rfl ?_
            refine w_iload_n dX12_roundOf_51 rfl ?_
            refine w_iload dX12_roundOf_52 rfl ?_
            refine w_iload dX12_roundOf_54 rfl ?_
            refine w_iload dX12_roundOf_56 rfl ?_
            refine w_iload dX12_roundOf_58 rfl ?_
            refine w_callV (d := d + 6) (S := []) [aI (mWil gg 0), aI (c : Int), aI ((x : Int) + (c2 : Int)), aI (c : Int), aI ((x : Int) + (c2 : Int))] dX12_roundOf_60 ml_X12_299 ok_X12_namesOn vi_X12_namesOn rfl rfl (by decide) rfl (Nat.le_of_ble_eq_true rfl) ?_
            refine c_X12_namesOn (d := (d + 5)) (mWil gg 0) (c : Int) ((x : Int) + (c2 : Int)) (c : Int) ((x : Int) + (c2 : Int)) J R (by omega) (by omega) (by omega) (by omega) ?_
            show fwWP mX12_roundOf (d + 7) 63 [some (aR 12 0), some (aI (x : Int)), some (aI y), some (aI (mWil gg 0)), some (aI lw), some (aI (c : Int)), some (aI ((x : Int) + (c2 : Int)))] [aI (nOn (gg 18 0) (mWil gg 0) (c : Int) ((x : Int) + (c2 : Int)) (c : Int) ((x : Int) + (c2 : Int)) (gg 5 0 3).toNat)] (fwUc (fwUc h 42 0 A5_2) 12 0 r_26) Q
            have hnn8 := nOn_r (F := gg 18 0) (wl := (mWil gg 0)) (l := (c : Int)) (r := ((x : Int) + (c2 : Int))) (u := (c : Int)) (v := ((x : Int) + (c2 : Int))) (gg 5 0 3).toNat (by omega) (fun f hf => (hP.2 f hf).2.1)
            have hno := nOn_one (F := gg 18 0) (wl := mWil gg 0) (l := (c : Int)) (r := (x : Int) + (c2 : Int)) (by omega) (n := (gg 5 0 3).toNat) (by omega) (fun f hf => (hP.2 f hf).1.1)
            refine w_iload_n dX12_roundOf_63 rfl ?_
            refine w_icmp_ge 70 dX12_roundOf_64 (by decide) (by omega) (by omega) (fun c64 => ?_) (fun c64 => ?_)
            · refine w_iload_n dX12_roundOf_70 rfl ?_
              refine w_iload dX12_roundOf_71 rfl ?_
              refine w_iload dX12_roundOf_73 rfl ?_
              refine w_callS (d := d + 6) (S := []) [aI (x : Int), aI (c : Int), aI ((x : Int) + (c2 : Int))] dX12_roundOf_75 ml_X12_295 ok_X12_steps st_X12_steps rfl (Nat.le_of_ble_eq_true rfl) ?_
              refine c_X12_steps (d := (d + 5)) (x : Int) (c : Int) ((x : Int) + (c2 : Int)) (by omega) (by omega) (by omega) ?_
              show fwWP mX12_roundOf (d + 7) 78 [some (aR 12 0), some (aI (x : Int)), some (aI y), some (aI (mWil gg 0)), some (aI lw), some (aI (c : Int)), some (aI ((x : Int) + (c2 : Int)))] [aI (mSteps (x : Int) (c : Int) ((x : Int) + (c2 : Int)))] (fwUc (fwUc h 42 0 A5_2) 12 0 r_26) Q
              have hst10 := mSteps_w (x := (x : Int)) (a := (c : Int)) (b := ((x : Int) + (c2 : Int))) (by omega) (by omega) (by omega)
              refine w_istore [some (aR 12 0), some (aI (x : Int)), some (aI y), some (aI (mWil gg 0)), some (aI (mSteps (x : Int) (c : Int) ((x : Int) + (c2 : Int)))), some (aI (c : Int)), some (aI ((x : Int) + (c2 : Int)))] dX12_roundOf_78 rfl (by decide) ?_
              refine w_aload_n dX12_roundOf_80 rfl ?_
              refine w_iload dX12_roundOf_81 rfl ?_
              refine w_puti dX12_roundOf_83 fl_X12_303 fp_12_17 rfl (by decide) ?_
              refine w_aload_n dX12_roundOf_86 rfl ?_
              refine w_iload dX12_roundOf_87 rfl ?_
              refine w_puti dX12_roundOf_89 fl_X12_306 fp_12_18 rfl (by decide) ?_
              refine w_iinc [some (aR 12 0), some (aI (x : Int)), some (aI y), some (aI (mWil gg 0)), some (aI (mSteps (x : Int) (c : Int) ((x : Int) + (c2 : Int)))), some (aI (c : Int)), some (aI (((x : Int) + (c2 : Int)) + 1))] dX12_roundOf_92 rfl rfl (by decide) ?_
              refine w_goto 26 dX12_roundOf_95 (by decide) ?_
              refine ih26 (by omega) _ _ _ ?_ ?_ ?_
              · exact (by omega)
              · exact (by omega)
              · exact ⟨fwFu (fwFu r_26 17 (c : Int)) 18 ((x : Int) + (c2 : Int)), by rw [fwUp_uc, fwUp_uc], hp26.1, rdR_y hp26.2 hstS (by omega) (by omega) rfl rfl⟩
            · refine w_goto 92 dX12_roundOf_67 (by decide) ?_
              refine w_iinc [some (aR 12 0), some (aI (x : Int)), some (aI y), some (aI (mWil gg 0)), some (aI lw), some (aI (c : Int)), some (aI (((x : Int) + (c2 : Int)) + 1))] dX12_roundOf_92 rfl rfl (by decide) ?_
              refine w_goto 26 dX12_roundOf_95 (by decide) ?_
              refine ih26 (by omega) _ _ _ ?_ ?_ ?_
              · exact (by omega)
              · exact (by omega)
              · exact ⟨_, rfl, hp26.1, rdR_n hp26.2 hstS.2 (Or.inr (by omega))⟩
      refine lp26 0 (Nat.zero_le _) _ _ _ ?_ ?_ ?_
      · exact (by omega)
      · exact (by omega)
      · exact ⟨_, rfl, hp17⟩
  refine lp17 0 (Nat.zero_le _) _ _ _ ?_ ?_ ?_
  · exact (by omega)
  · exact (by omega)
  · exact ⟨h 12 0, (fwUc_self _ 12 0).symm, ⟨rfl, rfl, rfl⟩, Or.inl ⟨rfl, rfl⟩⟩
set_option maxRecDepth 100000 in
set_option maxHeartbeats 4000000 in
theorem c_X12_round {d : Nat} {h gg : fwH} {Q : Option fwV → fwH → Prop} (x : Int) (y : Int) (J : cOk gg) (R : jF gg h) (K : jA gg h) (hsh : sc h) (hx : -2147483648 ≤ x ∧ x < 2147483648) (hy : -2147483648 ≤ y ∧ y < 2147483648) (k : ∀ g, scr h g → Q (some (aI (an_round gg x y))) g) : fwCt mX12_round (d + 8) [aR 12 0, aI x, aI y] h Q := by
  refine fwCt_of [some (aR 12 0), some (aI x), some (aI y), none] rfl rfl rfl ?_
  obtain ⟨hl, hP, hG, hM0, htd, hut, hlw, hhc, ha, hs, hT, hsc⟩ := id J
  have hb17 : hB (gg 17 0) := fun c hc => by have := hM0 c hc; omega
  obtain ⟨⟨g1, g2⟩, ⟨g3, g4⟩, ⟨g5, g6⟩, g7, -⟩ := id hG
  have h17_99 : ∀ c : Nat, (c : Int) < gg 4 0 1 → gg 17 0 c ≤ 99 := fun c hc => (hM0 c (by omega)).2
  have hpz := hP.1
  have hrs1 := R.2.2.2.2.2.2.2.2.2.2.2
  refine w_aload_n dX12_round_0 rfl ?_
  refine w_iload_n dX12_round_1 rfl ?_
  refine w_iload_n dX12_round_2 rfl ?_
  refine w_callV (d := d + 7) (S := []) [aI x, aI y] dX12_round_3 ml_X12_311 ok_X12_isRound vi_X12_isRound rfl rfl (by decide) rfl (Nat.le_of_ble_eq_true rfl) ?_
  refine c_X12_isRound (d := (d + 5)) x y J R (by omega) (by omega) ?_
  show fwWP mX12_round (d + 8) 6 [some (aR 12 0), some (aI x), some (aI y), none] [aI (fwB ((0 ≤ x ∧ x ≤ gg 4 0 1 - 1) ∧ 1 ≤ y ∧ y ≤ 800))] h Q
  refine w_ifB_ne 12 dX12_round_6 (by decide) (fun c6 => ?_) (fun c6 => ?_)
  · obtain ⟨f, rfl⟩ : ∃ f : Nat, x = (f : Int) := ⟨x.toNat, by omega⟩
    refine w_aload_n dX12_round_12 rfl ?_
    refine w_iload_n dX12_round_13 rfl ?_
    refine w_iload_n dX12_round_14 rfl ?_
    refine w_callV (d := d + 7) (S := []) [aI (f : Int), aI y] dX12_round_15 ml_X12_314 ok_X12_roundOf vi_X12_roundOf rfl rfl (by decide) rfl (Nat.le_of_ble_eq_true rfl) ?_
    refine c_s_roundOf (d := d) f y J R K hsh (by omega) (by omega) ?_
    intro v2 g2 rg2 sg2
    show fwWP mX12_round (d + 8) 18 [some (aR 12 0), some (aI (f : Int)), some (aI y), none] [aI v2] g2 Q
    have rb2 := rdR_b rg2
    refine w_istore_n [some (aR 12 0), some (aI (f : Int)), some (aI y), some (aI v2)] dX12_round_18 rfl (by decide) ?_
    refine w_iload_n dX12_round_19 rfl ?_
    refine w_ldcw (n := 1000000000) dX12_round_20 cs_X12_294 ?_
    refine w_icmp_ne 30 dX12_round_23 (by decide) (by omega) (by omega) (fun c23 => ?_) (fun c23 => ?_)
    · refine w_iload_n dX12_round_30 rfl ?_
      exact w_iretE dX12_round_31 rfl (by unfold an_round; rw [if_pos (by omega), Int.toNat_natCast]; rcases rg2 with z | z <;> omega) (k _ sg2)
    · refine w_iconst dX12_round_26 ?_
      refine w_goto 31 dX12_round_27 (by decide) ?_
      exact w_iretE dX12_round_31 rfl (by unfold an_round; rw [if_pos (by omega), Int.toNat_natCast]; rcases rg2 with z | z <;> omega) (k _ sg2)
  · refine w_bipush dX12_round_9 rfl ?_
    exact w_iretE dX12_round_11 rfl (by unfold an_round; rw [if_neg (by omega)]) (k _ (scr_rf hsh))
set_option maxRecDepth 100000 in
set_option maxHeartbeats 4000000 in
theorem c_X12_goes {d : Nat} {h gg : fwH} {Q : Option fwV → fwH → Prop} (x : Int) (y : Int) (z : Int) (J : cOk gg) (R : jF gg h) (K : jA gg h) (hsh : sc h) (hx : -2147483648 ≤ x ∧ x < 2147483648) (hy : -2147483648 ≤ y ∧ y < 2147483648) (hz : -2147483648 ≤ z ∧ z < 2147483648) (k : ∀ g, scr h g → Q (some (aI (an_goes gg x y z))) g) : fwCt mX12_goes (d + 8) [aR 12 0, aI x, aI y, aI z] h Q := by
  refine fwCt_of [some (aR 12 0), some (aI x), some (aI y), some (aI z)] rfl rfl rfl ?_
  obtain ⟨hl, hP, hG, hM0, htd, hut, hlw, hhc, ha, hs, hT, hsc⟩ := id J
  have hb17 : hB (gg 17 0) := fun c hc => by have := hM0 c hc; omega
  obtain ⟨⟨g1, g2⟩, ⟨g3, g4⟩, ⟨g5, g6⟩, g7, -⟩ := id hG
  have h17_99 : ∀ c : Nat, (c : Int) < gg 4 0 1 → gg 17 0 c ≤ 99 := fun c hc => (hM0 c (by omega)).2
  have hpz := hP.1
  have hrs1 := R.2.2.2.2.2.2.2.2.2.2.2
  refine w_aload_n dX12_goes_0 rfl ?_
  refine w_iload_n dX12_goes_1 rfl ?_
  refine w_iload_n dX12_goes_2 rfl ?_
  refine w_callV (d := d + 7) (S := []) [aI x, aI y] dX12_goes_3 ml_X12_311 ok_X12_isRound vi_X12_isRound rfl rfl (by decide) rfl (Nat.le_of_ble_eq_true rfl) ?_
  refine c_X12_isRound (d := (d + 5)) x y J R (by omega) (by omega) ?_
  show fwWP mX12_goes (d + 8) 6 [some (aR 12 0), some (aI x), some (aI y), some (aI z)] [aI (fwB ((0 ≤ x ∧ x ≤ gg 4 0 1 - 1) ∧ 1 ≤ y ∧ y ≤ 800))] h Q
  refine w_ifB_eq 19 dX12_goes_6 (by decide) (fun c6 => ?_) (fun c6 => ?_)
  · refine w_bipush dX12_goes_19 rfl ?_
    exact w_iretE dX12_goes_21 rfl (by unfold an_goes; rw [if_neg (by omega)]) (k _ (scr_rf hsh))
  · refine w_iload_n dX12_goes_9 rfl ?_
    refine w_i2l dX12_goes_10 (by omega) ?_
    refine w_lconst (z := 0) dX12_goes_11 rfl ?_
    refine w_lconst (z := 1) dX12_goes_12 rfl ?_
    refine w_callS (d := d + 7) (S := []) [aJ z, aJ 0, aJ 1] dX12_goes_13 ml_X12_65 ok_X12_in st_X12_in rfl (Nat.le_of_ble_eq_true rfl) ?_
    refine c_X12_in (d := (d + 7)) z 0 1 (by omega) (by omega) (by omega) ?_
    show fwWP mX12_goes (d + 8) 16 [some (aR 12 0), some (aI x), some (aI y), some (aI z)] [aI (fwB (0 ≤ z ∧ z ≤ 1))] h Q
    refine w_ifB_ne 22 dX12_goes_16 (by decide) (fun c16 => ?_) (fun c16 => ?_)
    · obtain ⟨f, rfl⟩ : ∃ f : Nat, x = (f : Int) := ⟨x.toNat, by omega⟩
      refine w_aload_n dX12_goes_22 rfl ?_
      refine w_iload_n dX12_goes_23 rfl ?_
      refine w_iload_n dX12_goes_24 rfl ?_
      refine w_callV (d := d + 7) (S := []) [aI (f : Int), aI y] dX12_goes_25 ml_X12_314 ok_X12_roundOf vi_X12_roundOf rfl rfl (by decide) rfl (Nat.le_of_ble_eq_true rfl) ?_
      refine c_s_roundOf (d := d) f y J R K hsh (by omega) (by omega) ?_
      intro v3 g3 rg3 sg3
      show fwWP mX12_goes (d + 8) 28 [some (aR 12 0), some (aI (f : Int)), some (aI y), some (aI z)] [aI v3] g3 Q
      have rb3 := rdR_b rg3
      refine w_ldcw (n := 1000000000) dX12_goes_28 cs_X12_294 ?_
      refine w_icmp_ne 36 dX12_goes_31 (by decide) (by omega) (by omega) (fun c31 => ?_) (fun c31 => ?_)
      · refine w_iload_n dX12_goes_36 rfl ?_
        refine w_if_ne 47 dX12_goes_37 (by decide) (by omega) (fun c37 => ?_) (fun c37 => ?_)
        · refine w_aload_n dX12_goes_47 rfl ?_
          refine w_geti dX12_goes_48 fl_X12_306 rfl (by decide) ?_
          exact w_iretE dX12_goes_51 rfl (by unfold an_goes; rw [if_pos (by omega), Int.toNat_natCast, if_neg (by rcases rg3 with z | z <;> omega)]; first | (rw [if_pos (by omega)]; rcases rg3 with z | z; (exfalso; omega); exact z.2.2.1) | (rw [if_neg (by omega)]; rcases rg3 with z | z; (exfalso; omega); exact z.2.2.2)) (k _ sg3)
        · refine w_aload_n dX12_goes_40 rfl ?_
          refine w_geti dX12_goes_41 fl_X12_303 rfl (by decide) ?_
          refine w_goto 51 dX12_goes_44 (by decide) ?_
          exact w_iretE dX12_goes_51 rfl (by unfold an_goes; rw [if_pos (by omega), Int.toNat_natCast, if_neg (by rcases rg3 with z | z <;> omega)]; first | (rw [if_pos (by omega)]; rcases rg3 with z | z; (exfalso; omega); exact z.2.2.1) | (rw [if_neg (by omega)]; rcases rg3 with z | z; (exfalso; omega); exact z.2.2.2)) (k _ sg3)
      · refine w_iconst dX12_goes_34 ?_
        exact w_iretE dX12_goes_35 rfl (by unfold an_goes; rw [if_pos (by omega), Int.toNat_natCast, if_pos (by rcases rg3 with z | z <;> omega)]) (k _ sg3)
    · refine w_bipush dX12_goes_19 rfl ?_
      exact w_iretE dX12_goes_21 rfl (by unfold an_goes; rw [if_neg (by omega)]) (k _ (scr_rf hsh))
end
section
def t2S (s L : Int) : Prop := (s = -1 ∧ L = 1000000000) ∨ ((0 ≤ s ∧ s ≤ 1000) ∧ L = s)
def t2R (L0 st B L : Int) : Prop := (B = -1 ∧ L = L0) ∨ ((0 ≤ B ∧ B ≤ 1000) ∧ L = min L0 (max st B))
theorem t2S_b {s L : Int} (a : t2S s L) : 0 ≤ L ∧ L ≤ 1000000000 := by
  rcases a with a | a <;> omega
theorem t2R_b {L0 st B L : Int} (h0 : 0 ≤ L0 ∧ L0 ≤ 1000000000) (a : t2R L0 st B L) : 0 ≤ L ∧ L ≤ 1000000000 := by
  rcases a with a | a <;> omega
theorem t2R_n {N : Nat → Int} {y : Nat} {n a b : Int} {u j : Nat} {s0 L0 st L : Int} (h : t2R L0 st (mBei N y n a b u s0 j) L) (c : mBoth N a b u (y + j) < n) : t2R L0 st (mBei N y n a b u s0 (j + 1)) L := by
  rw [mBei, if_neg (by omega)]
  exact h
theorem t2R_y {N : Nat → Int} {y : Nat} {n a b : Int} {u j : Nat} {s0 L0 st L : Int} (h : t2R L0 st (mBei N y n a b u s0 j) L) (hs : 0 ≤ mSteps y u (y + j) ∧ mSteps y u (y + j) ≤ 1000) (c : n ≤ mBoth N a b u (y + j)) : t2R L0 st (mBei N y n a b u s0 (j + 1)) (min L (max st (mSteps y u (y + j)))) := by
  rw [mBei]
  by_cases q : (mBei N y n a b u s0 j = -1 ∨ mSteps y u (y + j) < mBei N y n a b u s0 j) ∧ n ≤ mBoth N a b u (y + j)
  · rw [if_pos q]
    refine Or.inr ⟨hs, ?_⟩
    rcases h with z | z
    · rw [z.2]
    · have q1 : mSteps y u (y + j) < mBei N y n a b u s0 j := by rcases q.1 with p | p <;> omega
      rw [z.2]
      omega
  · rw [if_neg q]
    rcases h with z | z
    · exact absurd ⟨Or.inl z.1, c⟩ q
    · have q1 : ¬ mSteps y u (y + j) < mBei N y n a b u s0 j := fun p => q ⟨Or.inr p, c⟩
      refine Or.inr ⟨z.1, ?_⟩
      rw [z.2]
      omega
theorem t2S_skip {N : Nat → Int} {x y : Nat} {n : Int} {my a j : Nat} {s0 L : Int} (h : t2S (mT2i N x y n my a s0 j) L) (hs : mSteps x a (x + j) ≤ 1000) (c : L ≤ mSteps x a (x + j)) : t2S (mT2i N x y n my a s0 (j + 1)) L := by
  rw [mT2i]
  rcases h with z | z
  · omega
  · split
    · exact Or.inr z
    · rw [if_neg (by omega)]
      refine Or.inr ⟨?_, ?_⟩ <;> omega
theorem t2S_go {N : Nat → Int} {x y : Nat} {n : Int} {my a j : Nat} {s0 L L2 : Int} (h : t2S (mT2i N x y n my a s0 j) L) (hs : 0 ≤ mSteps x a (x + j) ∧ mSteps x a (x + j) ≤ 1000) (r : t2R L (mSteps x a (x + j)) (mBeo N y n a (x + j) my (y + 1)) L2) : t2S (mT2i N x y n my a s0 (j + 1)) L2 := by
  rw [mT2i]
  rcases r with r | r
  · rw [if_pos r.1, r.2]
    exact h
  · rw [if_neg (by omega)]
    rcases h with z | z
    · rw [if_pos z.1]
      refine Or.inr ⟨?_, ?_⟩ <;> omega
    · rw [if_neg (by omega)]
      refine Or.inr ⟨?_, ?_⟩ <;> omega
set_option maxRecDepth 100000 in
set_option maxHeartbeats 4000000 in
theorem c_X12_two {d : Nat} {h gg : fwH} {Q : Option fwV → fwH → Prop} (x : Int) (y : Int) (z : Int) (J : cOk gg) (R : jF gg h) (K : jA gg h) (hsh : sc h) (hx : -2147483648 ≤ x ∧ x < 2147483648) (hy : -2147483648 ≤ y ∧ y < 2147483648) (hz : -2147483648 ≤ z ∧ z < 2147483648) (k : ∀ g, scr h g → Q (some (aI (an_two gg x y z))) g) : fwCt mX12_two (d + 8) [aR 12 0, aI x, aI y, aI z] h Q := by
  refine fwCt_of [some (aR 12 0), some (aI x), some (aI y), some (aI z), none, none, none, none, none, none] rfl rfl rfl ?_
  obtain ⟨hl, hP, hG, hM0, htd, hut, hlw, hhc, ha, hs, hT, hsc⟩ := id J
  have hb17 : hB (gg 17 0) := fun c hc => by have := hM0 c hc; omega
  obtain ⟨⟨g1, g2⟩, ⟨g3, g4⟩, ⟨g5, g6⟩, g7, -⟩ := id hG
  have h17_99 : ∀ c : Nat, (c : Int) < gg 4 0 1 → gg 17 0 c ≤ 99 := fun c hc => (hM0 c (by omega)).2
  have hpz := hP.1
  have hrs1 := R.2.2.2.2.2.2.2.2.2.2.2
  refine w_aload_n dX12_two_0 rfl ?_
  refine w_iload_n dX12_two_1 rfl ?_
  refine w_iload_n dX12_two_2 rfl ?_
  refine w_callV (d := d + 7) (S := []) [aI x, aI z] dX12_two_3 ml_X12_311 ok_X12_isRound vi_X12_isRound rfl rfl (by decide) rfl (Nat.le_of_ble_eq_true rfl) ?_
  refine c_X12_isRound (d := (d + 5)) x z J R (by omega) (by omega) ?_
  show fwWP mX12_two (d + 8) 6 [some (aR 12 0), some (aI x), some (aI y), some (aI z), none, none, none, none, none, none] [aI (fwB ((0 ≤ x ∧ x ≤ gg 4 0 1 - 1) ∧ 1 ≤ z ∧ z ≤ 800))] h Q
  refine w_ifB_eq 18 dX12_two_6 (by decide) (fun c6 => ?_) (fun c6 => ?_)
  · refine w_bipush dX12_two_18 rfl ?_
    exact w_iretE dX12_two_20 rfl (by unfold an_two; rw [if_neg (by omega)]) (k _ (scr_rf hsh))
  · refine w_aload_n dX12_two_9 rfl ?_
    refine w_iload_n dX12_two_10 rfl ?_
    refine w_i2l dX12_two_11 (by omega) ?_
    refine w_callV (d := d + 7) (S := []) [aJ y] dX12_two_12 ml_X12_203 ok_X12_isCell vi_X12_isCell rfl rfl (by decide) rfl (Nat.le_of_ble_eq_true rfl) ?_
    refine c_X12_isCell (d := (d + 6)) y J R (by omega) ?_
    show fwWP mX12_two (d + 8) 15 [some (aR 12 0), some (aI x), some (aI y), some (aI z), none, none, none, none, none, none] [aI (fwB (0 ≤ y ∧ y ≤ gg 4 0 1 - 1))] h Q
    refine w_ifB_ne 21 dX12_two_15 (by decide) (fun c15 => ?_) (fun c15 => ?_)
    · obtain ⟨f, rfl⟩ : ∃ f : Nat, x = (f : Int) := ⟨x.toNat, by omega⟩
      obtain ⟨t, rfl⟩ : ∃ t : Nat, y = (t : Int) := ⟨y.toNat, by omega⟩
      refine w_aload_n dX12_two_21 rfl ?_
      refine w_callV (d := d + 7) (S := []) [] dX12_two_22 ml_X12_240 ok_X12_asItIs vi_X12_asItIs rfl rfl (by decide) rfl (Nat.le_of_ble_eq_true rfl) ?_
      refine c_X12_asItIs (d := (d + 2)) J R K (show 1 ≤ gg 4 0 1 by omega) (show 1 ≤ gg 4 0 3 by omega) ?_
      intro A22_3 hA22_3
      show fwWP mX12_two (d + 8) 25 [some (aR 12 0), some (aI (f : Int)), some (aI (t : Int)), some (aI z), none, none, none, none, none, none] [] (fwUc h 42 0 A22_3) Q
      refine w_aload_n dX12_two_25 rfl ?_
      refine w_callV (d := d + 7) (S := []) [] dX12_two_26 ml_X12_263 ok_X12_willingSet vi_X12_willingSet rfl rfl (by decide) rfl (Nat.le_of_ble_eq_true rfl) ?_
      refine c_X12_willingSet (d := (d + 2)) (gg 17 0) J R hA22_3 hb17 (show 1 ≤ gg 4 0 1 by omega) ?_
      intro A26_4 hA26_4
      show fwWP mX12_two (d + 8) 29 [some (aR 12 0), some (aI (f : Int)), some (aI (t : Int)), some (aI z), none, none, none, none, none, none] [aI (mGers (gg 4 0 1) (gg 17 0) (gg 4 0 2) (gg 4 0 4) (gg 18 0) (gg 5 0 3).toNat (-1))] (fwUc (fwUc h 42 0 A22_3) 42 0 A26_4) Q
      rw [show (fwUc (fwUc h 42 0 A22_3) 42 0 A26_4) = (fwUc h 42 0 A26_4) from by funext a b; simp only [fwUc]; (repeat' split); all_goals first | rfl | (exfalso; omega)]
      have hwr4 := mGers_r (gg 4 0 1) (gg 17 0) (gg 4 0 2) (gg 4 0 4) (gg 18 0) (m := (gg 5 0 3).toNat) (-1) (by omega)
      have hw8_5 := mGers_8 (gg 4 0 1) (gg 17 0) (gg 4 0 2) (gg 4 0 4) (gg 18 0) (m := (gg 5 0 3).toNat) (-1) (by omega)
      change fwWP _ _ _ _ (aI (mWil gg 0) :: _) _ _
      have hw8 : 0 ≤ mWil gg 0 ∧ mWil gg 0 < 256 := hw8_5
      refine w_istore [some (aR 12 0), some (aI (f : Int)), some (aI (t : Int)), some (aI z), some (aI (mWil gg 0)), none, none, none, none, none] dX12_two_29 rfl (by decide) ?_
      refine w_ldcw (n := 1000000000) dX12_two_31 cs_X12_294 ?_
      refine w_istore [some (aR 12 0), some (aI (f : Int)), some (aI (t : Int)), some (aI z), some (aI (mWil gg 0)), some (aI 1000000000), none, none, none, none] dX12_two_34 rfl (by decide) ?_
      refine w_iconst dX12_two_36 ?_
      refine w_istore [some (aR 12 0), some (aI (f : Int)), some (aI (t : Int)), some (aI z), some (aI (mWil gg 0)), some (aI 1000000000), some (aI 0), none, none, none] dX12_two_37 rfl (by decide) ?_
      have lp39 : ∀ c : Nat, c ≤ (f + 1) → ∀ (y39 lv : Int), y39 = (c : Int) → (t2S (mT2o (mAh (gg 18 0) (mWil gg 0) (gg 5 0 3).toNat) f t z ((gg 4 0 1).toNat - f) ((gg 4 0 1).toNat - t) c) lv) → fwWP mX12_two (d + 8) 39 [some (aR 12 0), some (aI (f : Int)), some (aI (t : Int)), some (aI z), some (aI (mWil gg 0)), some (aI lv), some (aI y39), none, none, none] [] (fwUc h 42 0 A26_4) Q := by
        refine fw_up (fun c hc39 ih39 => ?_)
        intro y39 lv ey39 e_lv
        subst ey39
        have bv := t2S_b e_lv
        show fwWP mX12_two (d + 8) 39 [some (aR 12 0), some (aI (f : Int)), some (aI (t : Int)), some (aI z), some (aI (mWil gg 0)), some (aI lv), some (aI (c : Int)), none, none, none] [] (fwUc h 42 0 A26_4) Q
        refine w_iload dX12_two_39 rfl ?_
        refine w_iload_n dX12_two_41 rfl ?_
        refine w_icmp_gt 166 dX12_two_42 (by decide) (by omega) (by omega) (fun c42 => ?_) (fun c42 => ?_)
        · have ec39 : (f + 1) = c := by omega
          subst ec39
          refine w_iload dX12_two_166 rfl ?_
          refine w_ldcw (n := 1000000000) dX12_two_168 cs_X12_294 ?_
          refine w_icmp_ne 178 dX12_two_171 (by decide) (by omega) (by omega) (fun c171 => ?_) (fun c171 => ?_)
          · refine w_iload dX12_two_178 rfl ?_
            exact w_iretE dX12_two_180 rfl (by unfold an_two; rw [if_pos (by omega), Int.toNat_natCast, Int.toNat_natCast]; rcases e_lv with q | q <;> omega) (k _ (scr_uc (scr_rf hsh) rfl (by decide) (by decide) (by decide)))
          · refine w_iconst dX12_two_174 ?_
            refine w_goto 180 dX12_two_175 (by decide) ?_
            exact w_iretE dX12_two_180 rfl (by unfold an_two; rw [if_pos (by omega), Int.toNat_natCast, Int.toNat_natCast]; rcases e_lv with q | q <;> omega) (k _ (scr_uc (scr_rf hsh) rfl (by decide) (by decide) (by decide)))
        · refine w_iload_n dX12_two_45 rfl ?_
          refine w_istore [some (aR 12 0), some (aI (f : Int)), some (aI (t : Int)), some (aI z), some (aI (mWil gg 0)), some (aI lv), some (aI (c : Int)), some (aI (f : Int)), none, none] dX12_two_46 rfl (by decide) ?_
          have lp48 : ∀ c2 : Nat, c2 ≤ ((gg 4 0 1).toNat - f) → ∀ (y48 lw : Int), y48 = (f : Int) + (c2 : Int) → (t2S (mT2i (mAh (gg 18 0) (mWil gg 0) (gg 5 0 3).toNat) f t z ((gg 4 0 1).toNat - t) c (mT2o (mAh (gg 18 0) (mWil gg 0) (gg 5 0 3).toNat) f t z ((gg 4 0 1).toNat - f) ((gg 4 0 1).toNat - t) c) c2) lw) → fwWP mX12_two (d + 8) 48 [some (aR 12 0), some (aI (f : Int)), some (aI (t : Int)), some (aI z), some (aI (mWil gg 0)), some (aI lw), some (aI (c : Int)), some (aI y48), none, none] [] (fwUc h 42 0 A26_4) Q := by
            refine fw_up (fun c2 hc48 ih48 => ?_)
            intro y48 lw ey48 e_lw
            subst ey48
            have bw := t2S_b e_lw
            show fwWP mX12_two (d + 8) 48 [some (aR 12 0), some (aI (f : Int)), some (aI (t : Int)), some (aI z), some (aI (mWil gg 0)), some (aI lw), some (aI (c : Int)), some (aI ((f : Int) + (c2 : Int))), none, none] [] (fwUc h 42 0 A26_4) Q
            refine w_iload dX12_two_48 rfl ?_
            refine w_aload_n dX12_two_50 rfl ?_
            refine w_getr 36 0 dX12_two_51 fl_X12_9 rfl (by decide) ?_
            refine w_iconst dX12_two_54 ?_
            refine w_ialdE (v := gg 4 0 1) dX12_two_55 rfl (by decide) (by omega) (by omega) R.1 ?_
            refine w_icmp_ge 160 dX12_two_56 (by decide) (by omega) (by omega) (fun c56 => ?_) (fun c56 => ?_)
            · refine w_iinc [some (aR 12 0), some (aI (f : Int)), some (aI (t : Int)), some (aI z), some (aI (mWil gg 0)), some (aI lw), some (aI ((c : Int) + 1)), some (aI ((f : Int) + (c2 : Int))), none, none] dX12_two_160 rfl rfl (by decide) ?_
              refine w_goto 39 dX12_two_163 (by decide) ?_
              refine w_drop [7] [some (aR 12 0), some (aI (f : Int)), some (aI (t : Int)), some (aI z), some (aI (mWil gg 0)), some (aI lw), some (aI ((c : Int) + 1)), none, none, none] rfl ?_
              refine ih39 (by omega) _ _ ?_ ?_
              · exact (by omega)
              · exact (by rw [show c2 = ((gg 4 0 1).toNat - f) by omega] at e_lw; exact e_lw)
            · have hsA := mSteps_s (x := (f : Int)) (a := (c : Int)) (b := (f : Int) + (c2 : Int)) (by omega)
              refine w_iload_n dX12_two_59 rfl ?_
              refine w_iload dX12_two_60 rfl ?_
              refine w_iload dX12_two_62 rfl ?_
              refine w_callS (d := d + 7) (S := []) [aI (f : Int), aI (c : Int), aI ((f : Int) + (c2 : Int))] dX12_two_64 ml_X12_295 ok_X12_steps st_X12_steps rfl (Nat.le_of_ble_eq_true rfl) ?_
              refine c_X12_steps (d := (d + 6)) (f : Int) (c : Int) ((f : Int) + (c2 : Int)) (by omega) (by omega) (by omega) ?_
              show fwWP mX12_two (d + 8) 67 [some (aR 12 0), some (aI (f : Int)), some (aI (t : Int)), some (aI z), some (aI (mWil gg 0)), some (aI lw), some (aI (c : Int)), some (aI ((f : Int) + (c2 : Int))), none, none] [aI (mSteps (f : Int) (c : Int) ((f : Int) + (c2 : Int)))] (fwUc h 42 0 A26_4) Q
              have hst9 := mSteps_w (x := (f : Int)) (a := (c : Int)) (b := ((f : Int) + (c2 : Int))) (by omega) (by omega) (by omega)
              refine w_iload dX12_two_67 rfl ?_
              refine w_icmp_lt 75 dX12_two_69 (by decide) (by omega) (by omega) (fun c69 => ?_) (fun c69 => ?_)
              · refine w_iconst dX12_two_75 ?_
                refine w_istore [some (aR 12 0), some (aI (f : Int)), some (aI (t : Int)), some (aI z), some (aI (mWil gg 0)), some (aI lw), some (aI (c : Int)), some (aI ((f : Int) + (c2 : Int))), some (aI 0), none] dX12_two_76 rfl (by decide) ?_
                have lp78 : ∀ c3 : Nat, c3 ≤ (t + 1) → ∀ (y78 lx : Int), y78 = (c3 : Int) → (t2R lw (mSteps (f : Int) (c : Int) ((f : Int) + (c2 : Int))) (mBeo (mAh (gg 18 0) (mWil gg 0) (gg 5 0 3).toNat) t z (c : Int) ((f : Int) + (c2 : Int)) ((gg 4 0 1).toNat - t) c3) lx) → fwWP mX12_two (d + 8) 78 [some (aR 12 0), some (aI (f : Int)), some (aI (t : Int)), some (aI z), some (aI (mWil gg 0)), some (aI lx), some (aI (c : Int)), some (aI ((f : Int) + (c2 : Int))), some (aI y78), none] [] (fwUc h 42 0 A26_4) Q := by
                  refine fw_up (fun c3 hc78 ih78 => ?_)
                  intro y78 lx ey78 e_lx
                  subst ey78
                  have bx := t2R_b bw e_lx
                  show fwWP mX12_two (d + 8) 78 [some (aR 12 0), some (aI (f : Int)), some (aI (t : Int)), some (aI z), some (aI (mWil gg 0)), some (aI lx), some (aI (c : Int)), some (aI ((f : Int) + (c2 : Int))), some (aI (c3 : Int)), none] [] (fwUc h 42 0 A26_4) Q
                  refine w_iload dX12_two_78 rfl ?_
                  refine w_iload_n dX12_two_80 rfl ?_
                  refine w_icmp_gt 154 dX12_two_81 (by decide) (by omega) (by omega) (fun c81 => ?_) (fun c81 => ?_)
                  · refine w_iinc [some (aR 12 0), some (aI (f : Int)), some (aI (t : Int)), some (aI z), some (aI (mWil gg 0)), some (aI lx), some (aI (c : Int)), some (aI (((f : Int) + (c2 : Int)) + 1)), some (aI (c3 : Int)), none] dX12_two_154 rfl rfl (by decide) ?_
                    refine w_goto 48 dX12_two_157 (by decide) ?_
                    refine w_drop [8] [some (aR 12 0), some (aI (f : Int)), some (aI (t : Int)), some (aI z), some (aI (mWil gg 0)), some (aI lx), some (aI (c : Int)), some (aI (((f : Int) + (c2 : Int)) + 1)), none, none] rfl ?_
                    refine ih48 (by omega) _ _ ?_ ?_
                    · exact (by omega)
                    · exact (t2S_go e_lw hsA (by rw [show c3 = t + 1 by omega] at e_lx; exact e_lx))
                  · refine w_iload_n dX12_two_84 rfl ?_
                    refine w_istore [some (aR 12 0), some (aI (f : Int)), some (aI (t : Int)), some (aI z), some (aI (mWil gg 0)), some (aI lx), some (aI (c : Int)), some (aI ((f : Int) + (c2 : Int))), some (aI (c3 : Int)), some (aI (t : Int))] dX12_two_85 rfl (by decide) ?_
                    have lp87 : ∀ c4 : Nat, c4 ≤ ((gg 4 0 1).toNat - t) → ∀ (y87 ly : Int), y87 = (t : Int) + (c4 : Int) → (t2R lw (mSteps (f : Int) (c : Int) ((f : Int) + (c2 : Int))) (mBei (mAh (gg 18 0) (mWil gg 0) (gg 5 0 3).toNat) t z (c : Int) ((f : Int) + (c2 : Int)) c3 (mBeo (mAh (gg 18 0) (mWil gg 0) (gg 5 0 3).toNat) t z (c : Int) ((f : Int) + (c2 : Int)) ((gg 4 0 1).toNat - t) c3) c4) ly) → fwWP mX12_two (d + 8) 87 [some (aR 12 0), some (aI (f : Int)), some (aI (t : Int)), some (aI z), some (aI (mWil gg 0)), some (aI ly), some (aI (c : Int)), some (aI ((f : Int) + (c2 : Int))), some (aI (c3 : Int)), some (aI y87)] [] (fwUc h 42 0 A26_4) Q := by
                      refine fw_up (fun c4 hc87 ih87 => ?_)
                      intro y87 ly ey87 e_ly
                      subst ey87
                      have by_ := t2R_b bw e_ly
                      show fwWP mX12_two (d + 8) 87 [some (aR 12 0), some (aI (f : Int)), some (aI (t : Int)), some (aI z), some (aI (mWil gg 0)), some (aI ly), some (aI (c : Int)), some (aI ((f : Int) + (c2 : Int))), some (aI (c3 : Int)), some (aI ((t : Int) + (c4 : Int)))] [] (fwUc h 42 0 A26_4) Q
                      refine w_iload dX12_two_87 rfl ?_
                      refine w_aload_n dX12_two_89 rfl ?_
                      refine w_getr 36 0 dX12_two_90 fl_X12_9 rfl (by decide) ?_
                      refine w_iconst dX12_two_93 ?_
                      refine w_ialdE (v := gg 4 0 1) dX12_two_94 rfl (by decide) (by omega) (by omega) R.1 ?_
                      refine w_icmp_ge 148 dX12_two_95 (by decide) (by omega) (by omega) (fun c95 => ?_) (fun c95 => ?_)
                      · refine w_iinc [some (aR 12 0), some (aI (f : Int)), some (aI (t : Int)), some (aI z), some (aI (mWil gg 0)), some (aI ly), some (aI (c : Int)), some (aI ((f : Int) + (c2 : Int))), some (aI ((c3 : Int) + 1)), some (aI ((t : Int) + (c4 : Int)))] dX12_two_148 rfl rfl (by decide) ?_
                        refine w_goto 78 dX12_two_151 (by decide) ?_
                        refine w_drop [9] [some (aR 12 0), some (aI (f : Int)), some (aI (t : Int)), some (aI z), some (aI (mWil gg 0)), some (aI ly), some (aI (c : Int)), some (aI ((f : Int) + (c2 : Int))), some (aI ((c3 : Int) + 1)), none] rfl ?_
                        refine ih78 (by omega) _ _ ?_ ?_
                        · exact (by omega)
                        · exact (by rw [show c4 = ((gg 4 0 1).toNat - t) by omega] at e_ly; exact e_ly)
                      · have hsB := mSteps_s (x := (t : Int)) (a := (c3 : Int)) (b := (t : Int) + (c4 : Int)) (by omega)
                        have hno := nOn_both (F := gg 18 0) (wl := mWil gg 0) (l := (c : Int)) (r := (f : Int) + (c2 : Int)) (u := (c3 : Int)) (v := (t : Int) + (c4 : Int)) (by omega) (by omega) (gg 5 0 3).toNat (by omega) (fun q hq => (hP.2 q hq).1.1)
                        refine w_aload_n dX12_two_98 rfl ?_
                        refine w_iload dX12_two_99 rfl ?_
                        refine w_iload dX12_two_101 rfl ?_
                        refine w_iload dX12_two_103 rfl ?_
                        refine w_iload dX12_two_105 rfl ?_
                        refine w_iload dX12_two_107 rfl ?_
                        refine w_callV (d := d + 7) (S := []) [aI (mWil gg 0), aI (c : Int), aI ((f : Int) + (c2 : Int)), aI (c3 : Int), aI ((t : Int) + (c4 : Int))] dX12_two_109 ml_X12_299 ok_X12_namesOn vi_X12_namesOn rfl rfl (by decide) rfl (Nat.le_of_ble_eq_true rfl) ?_
                        refine c_X12_namesOn (d := (d + 6)) (mWil gg 0) (c : Int) ((f : Int) + (c2 : Int)) (c3 : Int) ((t : Int) + (c4 : Int)) J R (by omega) (by omega) (by omega) (by omega) ?_
                        show fwWP mX12_two (d + 8) 112 [some (aR 12 0), some (aI (f : Int)), some (aI (t : Int)), some (aI z), some (aI (mWil gg 0)), some (aI ly), some (aI (c : Int)), some (aI ((f : Int) + (c2 : Int))), some (aI (c3 : Int)), some (aI ((t : Int) + (c4 : Int)))] [aI (nOn (gg 18 0) (mWil gg 0) (c : Int) ((f : Int) + (c2 : Int)) (c3 : Int) ((t : Int) + (c4 : Int)) (gg 5 0 3).toNat)] (fwUc h 42 0 A26_4) Q
                        have hnn13 := nOn_r (F := gg 18 0) (wl := (mWil gg 0)) (l := (c : Int)) (r := ((f : Int) + (c2 : Int))) (u := (c3 : Int)) (v := ((t : Int) + (c4 : Int))) (gg 5 0 3).toNat (by omega) (fun f hf => (hP.2 f hf).2.1)
                        refine w_iload_n dX12_two_112 rfl ?_
                        refine w_icmp_lt 142 dX12_two_113 (by decide) (by omega) (by omega) (fun c113 => ?_) (fun c113 => ?_)
                        · refine w_iinc [some (aR 12 0), some (aI (f : Int)), some (aI (t : Int)), some (aI z), some (aI (mWil gg 0)), some (aI ly), some (aI (c : Int)), some (aI ((f : Int) + (c2 : Int))), some (aI (c3 : Int)), some (aI (((t : Int) + (c4 : Int)) + 1))] dX12_two_142 rfl rfl (by decide) ?_
                          refine w_goto 87 dX12_two_145 (by decide) ?_
                          refine ih87 (by omega) _ _ ?_ ?_
                          · exact (by omega)
                          · exact (t2R_n e_ly (by omega))
                        · refine w_iload dX12_two_116 rfl ?_
                          refine w_iload_n dX12_two_118 rfl ?_
                          refine w_iload dX12_two_119 rfl ?_
                          refine w_iload dX12_two_121 rfl ?_
                          refine w_callS (d := d + 7) (S := [aI ly]) [aI (f : Int), aI (c : Int), aI ((f : Int) + (c2 : Int))] dX12_two_123 ml_X12_295 ok_X12_steps st_X12_steps rfl (Nat.le_of_ble_eq_true rfl) ?_
                          refine c_X12_steps (d := (d + 6)) (f : Int) (c : Int) ((f : Int) + (c2 : Int)) (by omega) (by omega) (by omega) ?_
                          show fwWP mX12_two (d + 8) 126 [some (aR 12 0), some (aI (f : Int)), some (aI (t : Int)), some (aI z), some (aI (mWil gg 0)), some (aI ly), some (aI (c : Int)), some (aI ((f : Int) + (c2 : Int))), some (aI (c3 : Int)), some (aI ((t : Int) + (c4 : Int)))] [aI (mSteps (f : Int) (c : Int) ((f : Int) + (c2 : Int))), aI ly] (fwUc h 42 0 A26_4) Q
                          have hst15 := mSteps_w (x := (f : Int)) (a := (c : Int)) (b := ((f : Int) + (c2 : Int))) (by omega) (by omega) (by omega)
                          refine w_iload_n dX12_two_126 rfl ?_
                          refine w_iload dX12_two_127 rfl ?_
                          refine w_iload dX12_two_129 rfl ?_
                          refine w_callS (d := d + 7) (S := [aI (mSteps (f : Int) (c : Int) ((f : Int) + (c2 : Int))), aI ly]) [aI (t : Int), aI (c3 : Int), aI ((t : Int) + (c4 : Int))] dX12_two_131 ml_X12_295 ok_X12_steps st_X12_steps rfl (Nat.le_of_ble_eq_true rfl) ?_
                          refine c_X12_steps (d := (d + 6)) (t : Int) (c3 : Int) ((t : Int) + (c4 : Int)) (by omega) (by omega) (by omega) ?_
                          show fwWP mX12_two (d + 8) 134 [some (aR 12 0), some (aI (f : Int)), some (aI (t : Int)), some (aI z), some (aI (mWil gg 0)), some (aI ly), some (aI (c : Int)), some (aI ((f : Int) + (c2 : Int))), some (aI (c3 : Int)), some (aI ((t : Int) + (c4 : Int)))] [aI (mSteps (t : Int) (c3 : Int) ((t : Int) + (c4 : Int))), aI (mSteps (f : Int) (c : Int) ((f : Int) + (c2 : Int))), aI ly] (fwUc h 42 0 A26_4) Q
                          have hst16 := mSteps_w (x := (t : Int)) (a := (c3 : Int)) (b := ((t : Int) + (c4 : Int))) (by omega) (by omega) (by omega)
                          refine w_max (d := d + 7) (S := [aI ly]) dX12_two_134 ml_X12_317 (by omega) (by omega) (Nat.le_of_ble_eq_true rfl) ?_
                          refine w_min (d := d + 7) (S := []) dX12_two_137 ml_X12_112 (by omega) (by omega) (Nat.le_of_ble_eq_true rfl) ?_
                          refine w_istore [some (aR 12 0), some (aI (f : Int)), some (aI (t : Int)), some (aI z), some (aI (mWil gg 0)), some (aI (min ly (max (mSteps (f : Int) (c : Int) ((f : Int) + (c2 : Int))) (mSteps (t : Int) (c3 : Int) ((t : Int) + (c4 : Int)))))), some (aI (c : Int)), some (aI ((f : Int) + (c2 : Int))), some (aI (c3 : Int)), some (aI ((t : Int) + (c4 : Int)))] dX12_two_140 rfl (by decide) ?_
                          refine w_iinc [some (aR 12 0), some (aI (f : Int)), some (aI (t : Int)), some (aI z), some (aI (mWil gg 0)), some (aI (min ly (max (mSteps (f : Int) (c : Int) ((f : Int) + (c2 : Int))) (mSteps (t : Int) (c3 : Int) ((t : Int) + (c4 : Int)))))), some (aI (c : Int)), some (aI ((f : Int) + (c2 : Int))), some (aI (c3 : Int)), some (aI (((t : Int) + (c4 : Int)) + 1))] dX12_two_142 rfl rfl (by decide) ?_
                          refine w_goto 87 dX12_two_145 (by decide) ?_
                          refine ih87 (by omega) _ _ ?_ ?_
                          · exact (by omega)
                          · exact (t2R_y e_ly hsB (by omega))
                    refine lp87 0 (Nat.zero_le _) _ _ ?_ ?_
                    · exact (by omega)
                    · exact e_lx
                refine lp78 0 (Nat.zero_le _) _ _ ?_ ?_
                · exact (by omega)
                · exact (Or.inl ⟨rfl, rfl⟩)
              · refine w_goto 154 dX12_two_72 (by decide) ?_
                refine w_iinc [some (aR 12 0), some (aI (f : Int)), some (aI (t : Int)), some (aI z), some (aI (mWil gg 0)), some (aI lw), some (aI (c : Int)), some (aI (((f : Int) + (c2 : Int)) + 1)), none, none] dX12_two_154 rfl rfl (by decide) ?_
                refine w_goto 48 dX12_two_157 (by decide) ?_
                refine ih48 (by omega) _ _ ?_ ?_
                · exact (by omega)
                · exact (t2S_skip e_lw hsA.2 (by omega))
          refine lp48 0 (Nat.zero_le _) _ _ ?_ ?_
          · exact (by omega)
          · exact e_lv
      refine lp39 0 (Nat.zero_le _) _ _ ?_ ?_
      · exact (by omega)
      · exact (Or.inl ⟨rfl, rfl⟩)
    · refine w_bipush dX12_two_18 rfl ?_
      exact w_iretE dX12_two_20 rfl (by unfold an_two; rw [if_neg (by omega)]) (k _ (scr_rf hsh))
end
section
section PAIRSS
variable {d d2 : Nat} {e : fwH} {Q : Option fwV → fwH → Prop}
theorem prs_round (I : jI e) (x : Int) (y : Int) (hx : -2147483648 ≤ x ∧ x < 2147483648) (hy : -2147483648 ≤ y ∧ y < 2147483648) (k : ∀ v g1, prM mX12_round (d2 + 8) [aI x, aI y] v g1 → Q (some (aI v)) g1) : fwCt mX11_round (d + 6) [aR 0 0, aI x, aI y] e Q :=
  c_X11_round x y I.1 hx hy (fun g hg => k _ _ (fun Q2 k2 => c_X12_round (gg := e) x y I.1 (jF_g I hg) (jA_g I hg) hg.2.2 hx hy (fun g2 hg2 => k2 _ (jI_scr I (scr_tr hg hg2)))))
theorem prs_goes (I : jI e) (x : Int) (y : Int) (z : Int) (hx : -2147483648 ≤ x ∧ x < 2147483648) (hy : -2147483648 ≤ y ∧ y < 2147483648) (hz : -2147483648 ≤ z ∧ z < 2147483648) (k : ∀ v g1, prM mX12_goes (d2 + 8) [aI x, aI y, aI z] v g1 → Q (some (aI v)) g1) : fwCt mX11_goes (d + 6) [aR 0 0, aI x, aI y, aI z] e Q :=
  c_X11_goes x y z I.1 hx hy hz (fun g hg => k _ _ (fun Q2 k2 => c_X12_goes (gg := e) x y z I.1 (jF_g I hg) (jA_g I hg) hg.2.2 hx hy hz (fun g2 hg2 => k2 _ (jI_scr I (scr_tr hg hg2)))))
theorem prs_two (I : jI e) (x : Int) (y : Int) (z : Int) (hx : -2147483648 ≤ x ∧ x < 2147483648) (hy : -2147483648 ≤ y ∧ y < 2147483648) (hz : -2147483648 ≤ z ∧ z < 2147483648) (k : ∀ v g1, prM mX12_two (d2 + 8) [aI x, aI y, aI z] v g1 → Q (some (aI v)) g1) : fwCt mX11_two (d + 6) [aR 0 0, aI x, aI y, aI z] e Q :=
  c_X11_two x y z I.1 hx hy hz (fun g hg => k _ _ (fun Q2 k2 => c_X12_two (gg := e) x y z I.1 (jF_g I hg) (jA_g I hg) hg.2.2 hx hy hz (fun g2 hg2 => k2 _ (jI_scr I (scr_tr hg hg2)))))
end PAIRSS
end

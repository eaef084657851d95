section
def elO (h : fwH) (c j : Nat) : Prop := 0 < h 17 0 c ∧ mAll (mUnB h c) j = true
theorem elO_s {h : fwH} {c j : Nat} (a : elO h c j) (b : 0 < h 17 0 j → mVoN h j c ≤ mVoN h c j) : elO h c (j + 1) := ⟨a.1, by rw [mAll, a.2, Bool.true_and]; exact decide_eq_true b⟩
theorem elO_n {h : fwH} {c j N : Nat} (hj : j < N) (b1 : 0 < h 17 0 j) (b2 : mVoN h c j < mVoN h j c) : ¬ elO h c N := fun q => by
  have z := (mAll_iff _ _).mp q.2 j hj
  have y := of_decide_eq_true z b1
  omega
theorem mEl_c {h : fwH} {c : Nat} (hc : (c : Int) < h 4 0 1) (iv : mFst (mElB h) c = c) (a : elO h c (h 4 0 1).toNat) : mEl h = (c : Int) := by
  have e : mFst (mElB h) (h 4 0 1).toNat = c := by
    have z := mFst_stop iv (fun q => of_decide_eq_true q a) ((h 4 0 1).toNat - c)
    rwa [show c + ((h 4 0 1).toNat - c) = (h 4 0 1).toNat by omega] at z
  unfold mEl
  rw [e, if_neg (by omega)]
theorem mEl_n {h : fwH} {c : Nat} (hc : c = (h 4 0 1).toNat) (iv : mFst (mElB h) c = c) : mEl h = -1 := by
  subst hc
  unfold mEl
  rw [if_pos iv]
set_option maxRecDepth 100000 in
set_option maxHeartbeats 4000000 in
theorem c_X12_elected {d : Nat} {h gg : fwH} {Q : Option fwV → fwH → Prop}  (J : cOk gg) (R : jF gg h) (K : jA gg h) (hsh : sc h)  (k : ∀ g, scr h g → Q (some (aI (an_elected gg ))) g) : fwCt mX12_elected (d + 6) [aR 12 0] h Q := by
  refine fwCt_of [some (aR 12 0), none, none, none] rfl rfl rfl ?_
  obtain ⟨hl, hP, hG, hM0, htd, hut, hlw, hhc, ha, hs, hT, hsc⟩ := id J
  have hb17 : hB (gg 17 0) := fun c hc => by have := hM0 c hc; omega
  obtain ⟨⟨g1, g2⟩, ⟨g3, g4⟩, ⟨g5, g6⟩, g7, -⟩ := id hG
  have h17_99 : ∀ c : Nat, (c : Int) < gg 4 0 1 → gg 17 0 c ≤ 99 := fun c hc => (hM0 c (by omega)).2
  have hpz := hP.1
  have hrs1 := R.2.2.2.2.2.2.2.2.2.2.2
  refine w_aload_n dX12_elected_0 rfl ?_
  refine w_callV (d := d + 5) (S := []) [] dX12_elected_1 ml_X12_73 ok_X12_isMount vi_X12_isMount rfl rfl (by decide) rfl (Nat.le_of_ble_eq_true rfl) ?_
  refine c_X12_isMount (d := (d + 5)) J R ?_
  show fwWP mX12_elected (d + 6) 4 [some (aR 12 0), none, none, none] [aI (fwB (0 < gg 3 0 6))] h Q
  refine w_ifB_ne 10 dX12_elected_4 (by decide) (fun c4 => ?_) (fun c4 => ?_)
  · refine w_aload_n dX12_elected_10 rfl ?_
    refine w_callV (d := d + 5) (S := []) [] dX12_elected_11 ml_X12_240 ok_X12_asItIs vi_X12_asItIs rfl rfl (by decide) rfl (Nat.le_of_ble_eq_true rfl) ?_
    refine c_X12_asItIs (d := d) J R K (show 1 ≤ gg 4 0 1 by omega) (show 1 ≤ gg 4 0 3 by omega) ?_
    intro A11_2 hA11_2
    show fwWP mX12_elected (d + 6) 14 [some (aR 12 0), none, none, none] [] (fwUc h 42 0 A11_2) Q
    refine w_iconst dX12_elected_14 ?_
    refine w_istore_n [some (aR 12 0), some (aI 0), none, none] dX12_elected_15 rfl (by decide) ?_
    have lp16 : ∀ c : Nat, c ≤ (gg 4 0 1).toNat → ∀ (y16 : Int) (A16 : Nat → Int), y16 = (c : Int) → hiR (gg 4 0 1) A16 (gg 17 0) → (mFst (mElB gg) c = c) → fwWP mX12_elected (d + 6) 16 [some (aR 12 0), some (aI y16), none, none] [] (fwUc h 42 0 A16) Q := by
      refine fw_up (fun c hc16 ih16 => ?_)
      intro y16 A16 ey16 hA16 iv16_0
      subst ey16
      show fwWP mX12_elected (d + 6) 16 [some (aR 12 0), some (aI (c : Int)), none, none] [] (fwUc h 42 0 A16) Q
      refine w_iload_n dX12_elected_16 rfl ?_
      refine w_aload_n dX12_elected_17 rfl ?_
      refine w_getr 36 0 dX12_elected_18 fl_X12_9 rfl (by decide) ?_
      refine w_iconst dX12_elected_21 ?_
      refine w_ialdE (v := gg 4 0 1) dX12_elected_22 rfl (by decide) (by omega) (by omega) R.1 ?_
      refine w_icmp_ge 113 dX12_elected_23 (by decide) (by omega) (by omega) (fun c23 => ?_) (fun c23 => ?_)
      · refine w_iconst dX12_elected_113 ?_
        exact w_iretE dX12_elected_114 rfl (by unfold an_elected; rw [if_pos (by omega)]; exact (mEl_n (by omega) iv16_0).symm) (k _ (scr_uc (scr_rf hsh) rfl (by decide) (by decide) (by decide)))
      · have hb1 := hM0 c (by omega)
        refine w_aload_n dX12_elected_26 rfl ?_
        refine w_getr 42 0 dX12_elected_27 fl_X12_34 rfl (by decide) ?_
        refine w_iload_n dX12_elected_30 rfl ?_
        refine w_ialdE (v := (gg 17 0) c) dX12_elected_31 rfl (by decide) (by omega) (by omega) (hA16 _ (by omega)) ?_
        refine w_if_le 39 dX12_elected_32 (by decide) (by omega) (fun c32 => ?_) (fun c32 => ?_)
        · refine w_iconst dX12_elected_39 ?_
          refine w_istore_n [some (aR 12 0), some (aI (c : Int)), some (aI 0), none] dX12_elected_40 rfl (by decide) ?_
          refine w_iconst dX12_elected_41 ?_
          refine w_istore_n [some (aR 12 0), some (aI (c : Int)), some (aI 0), some (aI 0)] dX12_elected_42 rfl (by decide) ?_
          have lp43 : ∀ j : Nat, j ≤ (gg 4 0 1).toNat → ∀ (y43 v43 : Int) (A43 : Nat → Int), y43 = (j : Int) → ((v43 = 1 ∧ elO gg c j) ∨ (v43 = 0 ∧ ¬ elO gg c (gg 4 0 1).toNat)) → hiR (gg 4 0 1) A43 (gg 17 0) → fwWP mX12_elected (d + 6) 43 [some (aR 12 0), some (aI (c : Int)), some (aI v43), some (aI y43)] [] (fwUc h 42 0 A43) Q := by
            refine fw_up (fun j hc43 ih43 => ?_)
            intro y43 v43 A43 ey43 ev43 hA43
            subst ey43
            have hv01 : 0 ≤ v43 ∧ v43 ≤ 1 := by rcases ev43 with z | z <;> omega
            show fwWP mX12_elected (d + 6) 43 [some (aR 12 0), some (aI (c : Int)), some (aI v43), some (aI (j : Int))] [] (fwUc h 42 0 A43) Q
            refine w_iload_n dX12_elected_43 rfl ?_
            refine w_aload_n dX12_elected_44 rfl ?_
            refine w_getr 36 0 dX12_elected_45 fl_X12_9 rfl (by decide) ?_
            refine w_iconst dX12_elected_48 ?_
            refine w_ialdE (v := gg 4 0 1) dX12_elected_49 rfl (by decide) (by omega) (by omega) R.1 ?_
            refine w_icmp_ge 101 dX12_elected_50 (by decide) (by omega) (by omega) (fun c50 => ?_) (fun c50 => ?_)
            · refine w_iload_n dX12_elected_101 rfl ?_
              refine w_if_eq 107 dX12_elected_102 (by decide) (by omega) (fun c102 => ?_) (fun c102 => ?_)
              · have hno : ¬ (0 < gg 17 0 c ∧ mUnb gg c) := by rcases ev43 with z | z; (exfalso; omega); exact z.2
                refine w_iinc [some (aR 12 0), some (aI ((c : Int) + 1)), some (aI v43), some (aI (j : Int))] dX12_elected_107 rfl rfl (by decide) ?_
                refine w_goto 16 dX12_elected_110 (by decide) ?_
                refine w_drop [2, 3] [some (aR 12 0), some (aI ((c : Int) + 1)), none, none] rfl ?_
                refine ih16 (by omega) _ _ ?_ ?_ ?_
                · exact (by omega)
                · exact hA43
                · exact (mFst_go iv16_0 (decide_eq_true hno))
              · have hyes : elO gg c (gg 4 0 1).toNat := by rcases ev43 with z | z; (rw [show (gg 4 0 1).toNat = j by omega]; exact z.2); (exfalso; omega)
                refine w_iload_n dX12_elected_105 rfl ?_
                exact w_iretE dX12_elected_106 rfl (by unfold an_elected; rw [if_pos (by omega)]; exact (mEl_c (by omega) iv16_0 hyes).symm) (k _ (scr_uc (scr_rf hsh) rfl (by decide) (by decide) (by decide)))
            · refine w_iload_n dX12_elected_53 rfl ?_
              refine w_if_eq 101 dX12_elected_54 (by decide) (by omega) (fun c54 => ?_) (fun c54 => ?_)
              · refine w_iload_n dX12_elected_101 rfl ?_
                refine w_if_eq 107 dX12_elected_102 (by decide) (by omega) (fun c102 => ?_) (fun c102 => ?_)
                · have hno : ¬ (0 < gg 17 0 c ∧ mUnb gg c) := by rcases ev43 with z | z; (exfalso; omega); exact z.2
                  refine w_iinc [some (aR 12 0), some (aI ((c : Int) + 1)), some (aI v43), some (aI (j : Int))] dX12_elected_107 rfl rfl (by decide) ?_
                  refine w_goto 16 dX12_elected_110 (by decide) ?_
                  refine w_drop [2, 3] [some (aR 12 0), some (aI ((c : Int) + 1)), none, none] rfl ?_
                  refine ih16 (by omega) _ _ ?_ ?_ ?_
                  · exact (by omega)
                  · exact hA43
                  · exact (mFst_go iv16_0 (decide_eq_true hno))
                · have hyes : elO gg c (gg 4 0 1).toNat := by rcases ev43 with z | z; (rw [show (gg 4 0 1).toNat = j by omega]; exact z.2); (exfalso; omega)
                  refine w_iload_n dX12_elected_105 rfl ?_
                  exact w_iretE dX12_elected_106 rfl (by unfold an_elected; rw [if_pos (by omega)]; exact (mEl_c (by omega) iv16_0 hyes).symm) (k _ (scr_uc (scr_rf hsh) rfl (by decide) (by decide) (by decide)))
              · have hbj := hM0 j (by omega)
                have hon : elO gg c j := by rcases ev43 with z | z; exact z.2; exact absurd z.1 c54
                have h0c := hon.1
                refine w_aload_n dX12_elected_57 rfl ?_
                refine w_getr 42 0 dX12_elected_58 fl_X12_34 rfl (by decide) ?_
                refine w_iload_n dX12_elected_61 rfl ?_
                refine w_ialdE (v := (gg 17 0) j) dX12_elected_62 rfl (by decide) (by omega) (by omega) (hA43 _ (by omega)) ?_
                refine w_if_eq 89 dX12_elected_63 (by decide) (by omega) (fun c63 => ?_) (fun c63 => ?_)
                · refine w_iconst dX12_elected_89 ?_
                  refine w_goto 94 dX12_elected_90 (by decide) ?_
                  refine w_istore_n [some (aR 12 0), some (aI (c : Int)), some (aI 1), some (aI (j : Int))] dX12_elected_94 rfl (by decide) ?_
                  refine w_iinc [some (aR 12 0), some (aI (c : Int)), some (aI 1), some (aI ((j : Int) + 1))] dX12_elected_95 rfl rfl (by decide) ?_
                  refine w_goto 43 dX12_elected_98 (by decide) ?_
                  exact ih43 (by omega) _ _ _ (by omega) (Or.inl ⟨rfl, elO_s hon (fun q0 => by omega)⟩) hA43
                · refine w_aload_n dX12_elected_66 rfl ?_
                  refine w_aload_n dX12_elected_67 rfl ?_
                  refine w_iload_n dX12_elected_68 rfl ?_
                  refine w_iload_n dX12_elected_69 rfl ?_
                  refine w_callV (d := d + 5) (S := [aR 12 0]) [aI (c : Int), aI (j : Int)] dX12_elected_70 ml_X12_332 ok_X12_votesFor vi_X12_votesFor rfl rfl (by decide) rfl (Nat.le_of_ble_eq_true rfl) ?_
                  refine c_X12_votesFor (d := d) c j J R hA43 (show (c : Int) < gg 4 0 1 by omega) (show (j : Int) < gg 4 0 1 by omega) (show 0 < gg 17 0 c by omega) (show 0 < gg 17 0 j by omega) ?_
                  intro A70_10 hA70_10
                  show fwWP mX12_elected (d + 6) 73 [some (aR 12 0), some (aI (c : Int)), some (aI v43), some (aI (j : Int))] [aI (mVo gg c j), aR 12 0] (fwUc (fwUc h 42 0 A43) 42 0 A70_10) Q
                  rw [show (fwUc (fwUc h 42 0 A43) 42 0 A70_10) = (fwUc h 42 0 A70_10) from by funext a b; simp only [fwUc]; (repeat' split); all_goals first | rfl | (exfalso; omega)]
                  refine w_callV (d := d + 5) (S := []) [aI (mVo gg c j)] dX12_elected_73 ml_X12_260 ok_X12_namesOf vi_X12_namesOf rfl rfl (by decide) rfl (Nat.le_of_ble_eq_true rfl) ?_
                  refine c_X12_namesOf (d := (d + 4)) (mVo gg c j) J R ?_
                  show fwWP mX12_elected (d + 6) 76 [some (aR 12 0), some (aI (c : Int)), some (aI v43), some (aI (j : Int))] [aI (mNames (gg 18 0) (mVo gg c j) (gg 5 0 3).toNat)] (fwUc h 42 0 A70_10) Q
                  have hnr11 := mNames_r2 hP (mVo gg c j)
                  refine w_aload_n dX12_elected_76 rfl ?_
                  refine w_aload_n dX12_elected_77 rfl ?_
                  refine w_iload_n dX12_elected_78 rfl ?_
                  refine w_iload_n dX12_elected_79 rfl ?_
                  refine w_callV (d := d + 5) (S := [aR 12 0, aI (mNames (gg 18 0) (mVo gg c j) (gg 5 0 3).toNat)]) [aI (j : Int), aI (c : Int)] dX12_elected_80 ml_X12_332 ok_X12_votesFor vi_X12_votesFor rfl rfl (by decide) rfl (Nat.le_of_ble_eq_true rfl) ?_
                  refine c_X12_votesFor (d := d) j c J R hA70_10 (show (j : Int) < gg 4 0 1 by omega) (show (c : Int) < gg 4 0 1 by omega) (show 0 < gg 17 0 j by omega) (show 0 < gg 17 0 c by omega) ?_
                  intro A80_12 hA80_12
                  show fwWP mX12_elected (d + 6) 83 [some (aR 12 0), some (aI (c : Int)), some (aI v43), some (aI (j : Int))] [aI (mVo gg j c), aR 12 0, aI (mNames (gg 18 0) (mVo gg c j) (gg 5 0 3).toNat)] (fwUc (fwUc h 42 0 A70_10) 42 0 A80_12) Q
                  rw [show (fwUc (fwUc h 42 0 A70_10) 42 0 A80_12) = (fwUc h 42 0 A80_12) from by funext a b; simp only [fwUc]; (repeat' split); all_goals first | rfl | (exfalso; omega)]
                  refine w_callV (d := d + 5) (S := [aI (mNames (gg 18 0) (mVo gg c j) (gg 5 0 3).toNat)]) [aI (mVo gg j c)] dX12_elected_83 ml_X12_260 ok_X12_namesOf vi_X12_namesOf rfl rfl (by decide) rfl (Nat.le_of_ble_eq_true rfl) ?_
                  refine c_X12_namesOf (d := (d + 4)) (mVo gg j c) J R ?_
                  show fwWP mX12_elected (d + 6) 86 [some (aR 12 0), some (aI (c : Int)), some (aI v43), some (aI (j : Int))] [aI (mNames (gg 18 0) (mVo gg j c) (gg 5 0 3).toNat), aI (mNames (gg 18 0) (mVo gg c j) (gg 5 0 3).toNat)] (fwUc h 42 0 A80_12) Q
                  have hnr13 := mNames_r2 hP (mVo gg j c)
                  refine w_icmp_lt 93 dX12_elected_86 (by decide) (by omega) (by omega) (fun c86 => ?_) (fun c86 => ?_)
                  · refine w_iconst dX12_elected_93 ?_
                    refine w_istore_n [some (aR 12 0), some (aI (c : Int)), some (aI 0), some (aI (j : Int))] dX12_elected_94 rfl (by decide) ?_
                    refine w_iinc [some (aR 12 0), some (aI (c : Int)), some (aI 0), some (aI ((j : Int) + 1))] dX12_elected_95 rfl rfl (by decide) ?_
                    refine w_goto 43 dX12_elected_98 (by decide) ?_
                    exact ih43 (by omega) _ _ _ (by omega) (Or.inr ⟨rfl, elO_n (show j < (gg 4 0 1).toNat by omega) (by omega) (by unfold mVoN; omega)⟩) hA80_12
                  · refine w_iconst dX12_elected_89 ?_
                    refine w_goto 94 dX12_elected_90 (by decide) ?_
                    refine w_istore_n [some (aR 12 0), some (aI (c : Int)), some (aI 1), some (aI (j : Int))] dX12_elected_94 rfl (by decide) ?_
                    refine w_iinc [some (aR 12 0), some (aI (c : Int)), some (aI 1), some (aI ((j : Int) + 1))] dX12_elected_95 rfl rfl (by decide) ?_
                    refine w_goto 43 dX12_elected_98 (by decide) ?_
                    exact ih43 (by omega) _ _ _ (by omega) (Or.inl ⟨rfl, elO_s hon (fun q0 => by unfold mVoN; omega)⟩) hA80_12
          exact lp43 0 (Nat.zero_le _) _ _ _ rfl (Or.inr ⟨rfl, fun q0 => by have := q0.1; omega⟩) hA16
        · refine w_iconst dX12_elected_35 ?_
          refine w_goto 40 dX12_elected_36 (by decide) ?_
          refine w_istore_n [some (aR 12 0), some (aI (c : Int)), some (aI 1), none] dX12_elected_40 rfl (by decide) ?_
          refine w_iconst dX12_elected_41 ?_
          refine w_istore_n [some (aR 12 0), some (aI (c : Int)), some (aI 1), some (aI 0)] dX12_elected_42 rfl (by decide) ?_
          have lp43 : ∀ j : Nat, j ≤ (gg 4 0 1).toNat → ∀ (y43 v43 : Int) (A43 : Nat → Int), y43 = (j : Int) → ((v43 = 1 ∧ elO gg c j) ∨ (v43 = 0 ∧ ¬ elO gg c (gg 4 0 1).toNat)) → hiR (gg 4 0 1) A43 (gg 17 0) → fwWP mX12_elected (d + 6) 43 [some (aR 12 0), some (aI (c : Int)), some (aI v43), some (aI y43)] [] (fwUc h 42 0 A43) Q := by
            refine fw_up (fun j hc43 ih43 => ?_)
            intro y43 v43 A43 ey43 ev43 hA43
            subst ey43
            have hv01 : 0 ≤ v43 ∧ v43 ≤ 1 := by rcases ev43 with z | z <;> omega
            show fwWP mX12_elected (d + 6) 43 [some (aR 12 0), some (aI (c : Int)), some (aI v43), some (aI (j : Int))] [] (fwUc h 42 0 A43) Q
            refine w_iload_n dX12_elected_43 rfl ?_
            refine w_aload_n dX12_elected_44 rfl ?_
            refine w_getr 36 0 dX12_elected_45 fl_X12_9 rfl (by decide) ?_
            refine w_iconst dX12_elected_48 ?_
            refine w_ialdE (v := gg 4 0 1) dX12_elected_49 rfl (by decide) (by omega) (by omega) R.1 ?_
            refine w_icmp_ge 101 dX12_elected_50 (by decide) (by omega) (by omega) (fun c50 => ?_) (fun c50 => ?_)
            · refine w_iload_n dX12_elected_101 rfl ?_
              refine w_if_eq 107 dX12_elected_102 (by decide) (by omega) (fun c102 => ?_) (fun c102 => ?_)
              · have hno : ¬ (0 < gg 17 0 c ∧ mUnb gg c) := by rcases ev43 with z | z; (exfalso; omega); exact z.2
                refine w_iinc [some (aR 12 0), some (aI ((c : Int) + 1)), some (aI v43), some (aI (j : Int))] dX12_elected_107 rfl rfl (by decide) ?_
                refine w_goto 16 dX12_elected_110 (by decide) ?_
                refine w_drop [2, 3] [some (aR 12 0), some (aI ((c : Int) + 1)), none, none] rfl ?_
                refine ih16 (by omega) _ _ ?_ ?_ ?_
                · exact (by omega)
                · exact hA43
                · exact (mFst_go iv16_0 (decide_eq_true hno))
              · have hyes : elO gg c (gg 4 0 1).toNat := by rcases ev43 with z | z; (rw [show (gg 4 0 1).toNat = j by omega]; exact z.2); (exfalso; omega)
                refine w_iload_n dX12_elected_105 rfl ?_
                exact w_iretE dX12_elected_106 rfl (by unfold an_elected; rw [if_pos (by omega)]; exact (mEl_c (by omega) iv16_0 hyes).symm) (k _ (scr_uc (scr_rf hsh) rfl (by decide) (by decide) (by decide)))
            · refine w_iload_n dX12_elected_53 rfl ?_
              refine w_if_eq 101 dX12_elected_54 (by decide) (by omega) (fun c54 => ?_) (fun c54 => ?_)
              · refine w_iload_n dX12_elected_101 rfl ?_
                refine w_if_eq 107 dX12_elected_102 (by decide) (by omega) (fun c102 => ?_) (fun c102 => ?_)
                · have hno : ¬ (0 < gg 17 0 c ∧ mUnb gg c) := by rcases ev43 with z | z; (exfalso; omega); exact z.2
                  refine w_iinc [some (aR 12 0), some (aI ((c : Int) + 1)), some (aI v43), some (aI (j : Int))] dX12_elected_107 rfl rfl (by decide) ?_
                  refine w_goto 16 dX12_elected_110 (by decide) ?_
                  refine w_drop [2, 3] [some (aR 12 0), some (aI ((c : Int) + 1)), none, none] rfl ?_
                  refine ih16 (by omega) _ _ ?_ ?_ ?_
                  · exact (by omega)
                  · exact hA43
                  · exact (mFst_go iv16_0 (decide_eq_true hno))
                · have hyes : elO gg c (gg 4 0 1).toNat := by rcases ev43 with z | z; (rw [show (gg 4 0 1).toNat = j by omega]; exact z.2); (exfalso; omega)
                  refine w_iload_n dX12_elected_105 rfl ?_
                  exact w_iretE dX12_elected_106 rfl (by unfold an_elected; rw [if_pos (by omega)]; exact (mEl_c (by omega) iv16_0 hyes).symm) (k _ (scr_uc (scr_rf hsh) rfl (by decide) (by decide) (by decide)))
              · have hbj := hM0 j (by omega)
                have hon : elO gg c j := by rcases ev43 with z | z; exact z.2; exact absurd z.1 c54
                have h0c := hon.1
                refine w_aload_n dX12_elected_57 rfl ?_
                refine w_getr 42 0 dX12_elected_58 fl_X12_34 rfl (by decide) ?_
                refine w_iload_n dX12_elected_61 rfl ?_
                refine w_ialdE (v := (gg 17 0) j) dX12_elected_62 rfl (by decide) (by omega) (by omega) (hA43 _ (by omega)) ?_
                refine w_if_eq 89 dX12_elected_63 (by decide) (by omega) (fun c63 => ?_) (fun c63 => ?_)
                · refine w_iconst dX12_elected_89 ?_
                  refine w_goto 94 dX12_elected_90 (by decide) ?_
                  refine w_istore_n [some (aR 12 0), some (aI (c : Int)), some (aI 1), some (aI (j : Int))] dX12_elected_94 rfl (by decide) ?_
                  refine w_iinc [some (aR 12 0), some (aI (c : Int)), some (aI 1), some (aI ((j : Int) + 1))] dX12_elected_95 rfl rfl (by decide) ?_
                  refine w_goto 43 dX12_elected_98 (by decide) ?_
                  exact ih43 (by omega) _ _ _ (by omega) (Or.inl ⟨rfl, elO_s hon (fun q0 => by omega)⟩) hA43
                · refine w_aload_n dX12_elected_66 rfl ?_
                  refine w_aload_n dX12_elected_67 rfl ?_
                  refine w_iload_n dX12_elected_68 rfl ?_
                  refine w_iload_n dX12_elected_69 rfl ?_
                  refine w_callV (d := d + 5) (S := [aR 12 0]) [aI (c : Int), aI (j : Int)] dX12_elected_70 ml_X12_332 ok_X12_votesFor vi_X12_votesFor rfl rfl (by decide) rfl (Nat.le_of_ble_eq_true rfl) ?_
                  refine c_X12_votesFor (d := d) c j J R hA43 (show (c : Int) < gg 4 0 1 by omega) (show (j : Int) < gg 4 0 1 by omega) (show 0 < gg 17 0 c by omega) (show 0 < gg 17 0 j by omega) ?_
                  intro A70_20 hA70_20
                  show fwWP mX12_elected (d + 6) 73 [some (aR 12 0), some (aI (c : Int)), some (aI v43), some (aI (j : Int))] [aI (mVo gg c j), aR 12 0] (fwUc (fwUc h 42 0 A43) 42 0 A70_20) Q
                  rw [show (fwUc (fwUc h 42 0 A43) 42 0 A70_20) = (fwUc h 42 0 A70_20) from by funext a b; simp only [fwUc]; (repeat' split); all_goals first | rfl | (exfalso; omega)]
                  refine w_callV (d := d + 5) (S := []) [aI (mVo gg c j)] dX12_elected_73 ml_X12_260 ok_X12_namesOf vi_X12_namesOf rfl rfl (by decide) rfl (Nat.le_of_ble_eq_true rfl) ?_
                  refine c_X12_namesOf (d := (d + 4)) (mVo gg c j) J R ?_
                  show fwWP mX12_elected (d + 6) 76 [some (aR 12 0), some (aI (c : Int)), some (aI v43), some (aI (j : Int))] [aI (mNames (gg 18 0) (mVo gg c j) (gg 5 0 3).toNat)] (fwUc h 42 0 A70_20) Q
                  have hnr21 := mNames_r2 hP (mVo gg c j)
                  refine w_aload_n dX12_elected_76 rfl ?_
                  refine w_aload_n dX12_elected_77 rfl ?_
                  refine w_iload_n dX12_elected_78 rfl ?_
                  refine w_iload_n dX12_elected_79 rfl ?_
                  refine w_callV (d := d + 5) (S := [aR 12 0, aI (mNames (gg 18 0) (mVo gg c j) (gg 5 0 3).toNat)]) [aI (j : Int), aI (c : Int)] dX12_elected_80 ml_X12_332 ok_X12_votesFor vi_X12_votesFor rfl rfl (by decide) rfl (Nat.le_of_ble_eq_true rfl) ?_
                  refine c_X12_votesFor (d := d) j c J R hA70_20 (show (j : Int) < gg 4 0 1 by omega) (show (c : Int) < gg 4 0 1 by omega) (show 0 < gg 17 0 j by omega) (show 0 < gg 17 0 c by omega) ?_
                  intro A80_22 hA80_22
                  show fwWP mX12_elected (d + 6) 83 [some (aR 12 0), some (aI (c : Int)), some (aI v43), some (aI (j : Int))] [aI (mVo gg j c), aR 12 0, aI (mNames (gg 18 0) (mVo gg c j) (gg 5 0 3).toNat)] (fwUc (fwUc h 42 0 A70_20) 42 0 A80_22) Q
                  rw [show (fwUc (fwUc h 42 0 A70_20) 42 0 A80_22) = (fwUc h 42 0 A80_22) from by funext a b; simp only [fwUc]; (repeat' split); all_goals first | rfl | (exfalso; omega)]
                  refine w_callV (d := d + 5) (S := [aI (mNames (gg 18 0) (mVo gg c j) (gg 5 0 3).toNat)]) [aI (mVo gg j c)] dX12_elected_83 ml_X12_260 ok_X12_namesOf vi_X12_namesOf rfl rfl (by decide) rfl (Nat.le_of_ble_eq_true rfl) ?_
                  refine c_X12_namesOf (d := (d + 4)) (mVo gg j c) J R ?_
                  show fwWP mX12_elected (d + 6) 86 [some (aR 12 0), some (aI (c : Int)), some (aI v43), some (aI (j : Int))] [aI (mNames (gg 18 0) (mVo gg j c) (gg 5 0 3).toNat), aI (mNames (gg 18 0) (mVo gg c j) (gg 5 0 3).toNat)] (fwUc h 42 0 A80_22) Q
                  have hnr23 := mNames_r2 hP (mVo gg j c)
                  refine w_icmp_lt 93 dX12_elected_86 (by decide) (by omega) (by omega) (fun c86 => ?_) (fun c86 => ?_)
                  · refine w_iconst dX12_elected_93 ?_
                    refine w_istore_n [some (aR 12 0), some (aI (c : Int)), some (aI 0), some (aI (j : Int))] dX12_elected_94 rfl (by decide) ?_
                    refine w_iinc [some (aR 12 0), some (aI (c : Int)), some (aI 0), some (aI ((j : Int) + 1))] dX12_elected_95 rfl rfl (by decide) ?_
                    refine w_goto 43 dX12_elected_98 (by decide) ?_
                    exact ih43 (by omega) _ _ _ (by omega) (Or.inr ⟨rfl, elO_n (show j < (gg 4 0 1).toNat by omega) (by omega) (by unfold mVoN; omega)⟩) hA80_22
                  · refine w_iconst dX12_elected_89 ?_
                    refine w_goto 94 dX12_elected_90 (by decide) ?_
                    refine w_istore_n [some (aR 12 0), some (aI (c : Int)), some (aI 1), some (aI (j : Int))] dX12_elected_94 rfl (by decide) ?_
                    refine w_iinc [some (aR 12 0), some (aI (c : Int)), some (aI 1), some (aI ((j : Int) + 1))] dX12_elected_95 rfl rfl (by decide) ?_
                    refine w_goto 43 dX12_elected_98 (by decide) ?_
                    exact ih43 (by omega) _ _ _ (by omega) (Or.inl ⟨rfl, elO_s hon (fun q0 => by unfold mVoN; omega)⟩) hA80_22
          exact lp43 0 (Nat.zero_le _) _ _ _ rfl (Or.inl ⟨rfl, by omega, rfl⟩) hA16
    have z16 := lp16 0 (Nat.zero_le _) _ A11_2 (by exact (show 0 = ((0 : Nat) : Int) by omega))  hA11_2 rfl
    exact z16
  · refine w_bipush dX12_elected_7 rfl ?_
    exact w_iretE dX12_elected_9 rfl (by unfold an_elected; first | (rw [if_pos (by omega)]; done) | (rw [if_neg (by omega)]; done) | (rw [if_pos (by omega)]; rfl) | (rw [if_neg (by omega)]; rfl)) (k _ (scr_rf hsh))
end
section
section PAIRSS
variable {d d2 : Nat} {e : fwH} {Q : Option fwV → fwH → Prop}
theorem prs_elected (I : jI e)   (k : ∀ v g1, prM mX12_elected (d2 + 6) [] v g1 → Q (some (aI v)) g1) : fwCt mX11_elected (d + 5) [aR 0 0] e Q :=
  c_X11_elected I.1 (fun g hg => k _ _ (fun Q2 k2 => c_X12_elected (gg := e) I.1 (jF_g I hg) (jA_g I hg) hg.2.2 (fun g2 hg2 => k2 _ (jI_scr I (scr_tr hg hg2)))))
end PAIRSS
end

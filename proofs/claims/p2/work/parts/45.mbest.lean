theorem mRs_hb {h : fwH} (J : cOk h) (x : Int) (hx : 0 ≤ x ∧ x < h 4 0 1) : hB (mRs (h 17 0) (mStay (h 4 0 1) (h 17 0) (h 4 0 3) x)) := fun c hc => by
  have := mRs_rng (H := h 17 0) (rs := h 4 0 3) (b := 99) J.2.2.1.1 hx (by omega) J.2.2.2.1 c hc
  omega
theorem mSpo_2 {h : fwH} (J : cOk h) : ∀ c : Nat, (c : Int) ≤ h 4 0 1 → ((mSpo h c).1 = -1 ∧ (mSpo h c).2 = 0) ∨ (0 ≤ (mSpo h c).1 ∧ 0 ≤ (mSpo h c).2 ∧ (mSpo h c).2 ≤ 300000) := by
  intro c hc
  have := mSpo_rng J.2.1 J.2.2.1 c hc
  induction c with
  | zero => exact Or.inl ⟨rfl, rfl⟩
  | succ c ih =>
    have h1 := mSpo_rng J.2.1 J.2.2.1 c (by omega)
    have h2 := ih (by omega) h1
    rw [mSpo] at this ⊢
    split
    · rename_i q
      rw [if_pos q] at this
      exact Or.inr ⟨by dsimp only; omega, this.2⟩
    · exact h2
def mSpM (h : fwH) (c : Nat) : Int := if (mSpo h c).1 = -1 then -1000000000 else (mSpo h c).2
theorem mSpM_r {h : fwH} (J : cOk h) (c : Nat) (hc : (c : Int) ≤ h 4 0 1) : (-1000000000 ≤ mSpM h c ∧ mSpM h c ≤ 300000) ∧ -1 ≤ (mSpo h c).1 ∧ (mSpo h c).1 < c := by
  have h1 := mSpo_rng J.2.1 J.2.2.1 c hc
  unfold mSpM
  split <;> omega
theorem spo_n {h : fwH} {c : Nat} (hs : mStay (h 4 0 1) (h 17 0) (h 4 0 3) (c : Int) = -1) : mSpo h (c + 1) = mSpo h c := by
  rw [mSpo, if_neg (fun z => z.1 hs)]
theorem spo_l {h : fwH} (J : cOk h) {c : Nat} (hc : (c : Int) ≤ h 4 0 1) (hg : 0 ≤ mGt h (mRs (h 17 0) (mStay (h 4 0 1) (h 17 0) (h 4 0 3) (c : Int)))) (hl : mGt h (mRs (h 17 0) (mStay (h 4 0 1) (h 17 0) (h 4 0 3) (c : Int))) ≤ mSpM h c) : mSpo h (c + 1) = mSpo h c := by
  unfold mSpM at hl
  rw [mSpo, if_neg]
  intro z
  rcases z.2 with z1 | z1
  · rw [if_pos z1] at hl; omega
  · split at hl <;> omega
theorem spo_g {h : fwH} (J : cOk h) {c : Nat} (hc : (c : Int) ≤ h 4 0 1) (hs : mStay (h 4 0 1) (h 17 0) (h 4 0 3) (c : Int) ≠ -1) (hl : mSpM h c < mGt h (mRs (h 17 0) (mStay (h 4 0 1) (h 17 0) (h 4 0 3) (c : Int)))) : mSpo h (c + 1) = ((c : Int), mGt h (mRs (h 17 0) (mStay (h 4 0 1) (h 17 0) (h 4 0 3) (c : Int)))) := by
  unfold mSpM at hl
  rw [mSpo, if_pos]
  refine ⟨hs, ?_⟩
  by_cases z : (mSpo h c).1 = -1
  · exact Or.inl z
  · rw [if_neg z] at hl
    exact Or.inr hl
set_option maxRecDepth 100000 in
set_option maxHeartbeats 4000000 in
theorem c_X12_spoil {d : Nat} {h gg : fwH} {Q : Option fwV → fwH → Prop}  (J : cOk gg) (R : jF gg h) (K : jA gg h) (hsh : sc h)  (k : ∀ g, scr h g → Q (some (aI (an_spoil gg ))) g) : fwCt mX12_spoil (d + 6) [aR 12 0] h Q := by
  refine fwCt_of [some (aR 12 0), none, none, none] rfl rfl rfl ?_
  obtain ⟨hl, hP, hG, hM0, htd, hut, hlw, hhc, ha, hs, hT, hsc⟩ := id J
  have hb17 : hB (gg 17 0) := fun c hc => by have := hM0 c hc; omega
  obtain ⟨⟨g1, g2⟩, ⟨g3, g4⟩, ⟨g5, g6⟩, g7, -⟩ := id hG
  have h17_99 : ∀ c : Nat, (c : Int) < gg 4 0 1 → gg 17 0 c ≤ 99 := fun c hc => (hM0 c (by omega)).2
  have hpz := hP.1
  have hrs1 := R.2.2.2.2.2.2.2.2.2.2.2
  refine w_aload_n dX12_spoil_0 rfl ?_
  refine w_callV (d := d + 5) (S := []) [] dX12_spoil_1 ml_X12_73 ok_X12_isMount vi_X12_isMount rfl rfl (by decide) rfl (Nat.le_of_ble_eq_true rfl) ?_
  refine c_X12_isMount (d := (d + 5)) J R ?_
  show fwWP mX12_spoil (d + 6) 4 [some (aR 12 0), none, none, none] [aI (fwB (0 < gg 3 0 6))] h Q
  refine w_ifB_ne 10 dX12_spoil_4 (by decide) (fun c4 => ?_) (fun c4 => ?_)
  · refine w_iconst dX12_spoil_10 ?_
    refine w_istore_n [some (aR 12 0), some (aI (-1)), none, none] dX12_spoil_11 rfl (by decide) ?_
    refine w_ldcw (n := -1000000000) dX12_spoil_12 cs_X12_335 ?_
    refine w_istore_n [some (aR 12 0), some (aI (-1)), some (aI (-1000000000)), none] dX12_spoil_15 rfl (by decide) ?_
    refine w_iconst dX12_spoil_16 ?_
    refine w_istore_n [some (aR 12 0), some (aI (-1)), some (aI (-1000000000)), some (aI 0)] dX12_spoil_17 rfl (by decide) ?_
    have lp18 : ∀ c : Nat, c ≤ (gg 4 0 1).toNat → ∀ (y18 be mo : Int) (A18 : Nat → Int), y18 = (c : Int) → be = (mSpo gg c).1 → mo = mSpM gg c → fwWP mX12_spoil (d + 6) 18 [some (aR 12 0), some (aI be), some (aI mo), some (aI y18)] [] (fwUc h 42 0 A18) Q := by
      refine fw_up (fun c hc18 ih18 => ?_)
      intro y18 be mo A18 ey18 e_be e_mo
      subst ey18
      subst e_be
      subst e_mo
      have hsm := mSpM_r J c (by omega)
      show fwWP mX12_spoil (d + 6) 18 [some (aR 12 0), some (aI ((mSpo gg c).1)), some (aI (mSpM gg c)), some (aI (c : Int))] [] (fwUc h 42 0 A18) Q
      refine w_iload_n dX12_spoil_18 rfl ?_
      refine w_aload_n dX12_spoil_19 rfl ?_
      refine w_getr 36 0 dX12_spoil_20 fl_X12_9 rfl (by decide) ?_
      refine w_iconst dX12_spoil_23 ?_
      refine w_ialdE (v := gg 4 0 1) dX12_spoil_24 rfl (by decide) (by omega) (by omega) R.1 ?_
      refine w_icmp_ge 65 dX12_spoil_25 (by decide) (by omega) (by omega) (fun c25 => ?_) (fun c25 => ?_)
      · have ec18 : (gg 4 0 1).toNat = c := by omega
        subst ec18
        refine w_iload_n dX12_spoil_65 rfl ?_
        exact w_iretE dX12_spoil_66 rfl (by unfold an_spoil; first | (rw [if_pos (by omega)]; done) | (rw [if_neg (by omega)]; done) | (rw [if_pos (by omega)]; rfl) | (rw [if_neg (by omega)]; rfl)) (k _ (scr_uc (scr_rf hsh) rfl (by decide) (by decide) (by decide)))
      · refine w_aload_n dX12_spoil_28 rfl ?_
        refine w_callV (d := d + 5) (S := []) [] dX12_spoil_29 ml_X12_240 ok_X12_asItIs vi_X12_asItIs rfl rfl (by decide) rfl (Nat.le_of_ble_eq_true rfl) ?_
        refine c_X12_asItIs (d := d) J R K (show 1 ≤ gg 4 0 1 by omega) (show 1 ≤ gg 4 0 3 by omega) ?_
        intro A29_3 hA29_3
        show fwWP mX12_spoil (d + 6) 32 [some (aR 12 0), some (aI ((mSpo gg c).1)), some (aI (mSpM gg c)), some (aI (c : Int))] [] (fwUc (fwUc h 42 0 A18) 42 0 A29_3) Q
        rw [show (fwUc (fwUc h 42 0 A18) 42 0 A29_3) = (fwUc h 42 0 A29_3) from by funext a b; simp only [fwUc]; (repeat' split); all_goals first | rfl | (exfalso; omega)]
        have hrb := mRs_hb J (c : Int) (by omega)
        refine w_aload_n dX12_spoil_32 rfl ?_
        refine w_iload_n dX12_spoil_33 rfl ?_
        refine w_callV (d := d + 5) (S := []) [aI (c : Int)] dX12_spoil_34 ml_X12_197 ok_X12_heap0 vi_X12_heap0 rfl rfl (by decide) rfl (Nat.le_of_ble_eq_true rfl) ?_
        refine c_X12_heap0 (d := (d + 1)) (c : Int) (gg 17 0) J R hA29_3 hb17 h17_99 (show 1 ≤ gg 4 0 3 by omega) (show 0 ≤ (c : Int) ∧ (c : Int) < gg 4 0 1 by omega) ?_
        intro A34_4 hA34_4
        show fwWP mX12_spoil (d + 6) 37 [some (aR 12 0), some (aI ((mSpo gg c).1)), some (aI (mSpM gg c)), some (aI (c : Int))] [aI (mStay (gg 4 0 1) (gg 17 0) (gg 4 0 3) (c : Int))] (fwUc (fwUc h 42 0 A29_3) 42 0 A34_4) Q
        rw [show (fwUc (fwUc h 42 0 A29_3) 42 0 A34_4) = (fwUc h 42 0 A34_4) from by funext a b; simp only [fwUc]; (repeat' split); all_goals first | rfl | (exfalso; omega)]
        have hsr9 := mStay_rng (gg 17 0) (rs := gg 4 0 3) (n := gg 4 0 1) (x := (c : Int)) (by omega) (by omega)
        refine w_iconst dX12_spoil_37 ?_
        refine w_icmp_eq 59 dX12_spoil_38 (by decide) (by omega) (by omega) (fun c38 => ?_) (fun c38 => ?_)
        · refine w_iinc [some (aR 12 0), some (aI ((mSpo gg c).1)), some (aI (mSpM gg c)), some (aI ((c : Int) + 1))] dX12_spoil_59 rfl rfl (by decide) ?_
          refine w_goto 18 dX12_spoil_62 (by decide) ?_
          refine ih18 (by omega) _ _ _ _ ?_ ?_ ?_
          · exact (by omega)
          · exact (by rw [spo_n c38])
          · exact (by unfold mSpM; rw [spo_n c38])
        · refine w_aload_n dX12_spoil_41 rfl ?_
          refine w_callV (d := d + 5) (S := []) [] dX12_spoil_42 ml_X12_251 ok_X12_gainOfAll vi_X12_gainOfAll rfl rfl (by decide) rfl (Nat.le_of_ble_eq_true rfl) ?_
          refine c_X12_gainOfAll (d := d) (mRs (gg 17 0) (mStay (gg 4 0 1) (gg 17 0) (gg 4 0 3) (c : Int))) J R hA34_4 hrb (show 1 ≤ gg 4 0 1 by omega) ?_
          show fwWP mX12_spoil (d + 6) 45 [some (aR 12 0), some (aI ((mSpo gg c).1)), some (aI (mSpM gg c)), some (aI (c : Int))] [aI (mSum (mGain (gg 4 0 1) (mRs (gg 17 0) (mStay (gg 4 0 1) (gg 17 0) (gg 4 0 3) (c : Int))) (gg 4 0 2) (gg 18 0)) (gg 5 0 3).toNat)] (fwUc h 42 0 A34_4) Q
          have hga6 := mSum_r2 J hrb (gg 5 0 3).toNat (by omega)
          refine w_iload_n dX12_spoil_45 rfl ?_
          refine w_icmp_gt 52 dX12_spoil_46 (by decide) (by omega) (by omega) (fun c46 => ?_) (fun c46 => ?_)
          · refine w_aload_n dX12_spoil_52 rfl ?_
            refine w_callV (d := d + 5) (S := []) [] dX12_spoil_53 ml_X12_251 ok_X12_gainOfAll vi_X12_gainOfAll rfl rfl (by decide) rfl (Nat.le_of_ble_eq_true rfl) ?_
            refine c_X12_gainOfAll (d := d) (mRs (gg 17 0) (mStay (gg 4 0 1) (gg 17 0) (gg 4 0 3) (c : Int))) J R hA34_4 hrb (show 1 ≤ gg 4 0 1 by omega) ?_
            show fwWP mX12_spoil (d + 6) 56 [some (aR 12 0), some (aI ((mSpo gg c).1)), some (aI (mSpM gg c)), some (aI (c : Int))] [aI (mSum (mGain (gg 4 0 1) (mRs (gg 17 0) (mStay (gg 4 0 1) (gg 17 0) (gg 4 0 3) (c : Int))) (gg 4 0 2) (gg 18 0)) (gg 5 0 3).toNat)] (fwUc h 42 0 A34_4) Q
            have hga8 := mSum_r2 J hrb (gg 5 0 3).toNat (by omega)
            refine w_istore_n [some (aR 12 0), some (aI ((mSpo gg c).1)), some (aI (mSum (mGain (gg 4 0 1) (mRs (gg 17 0) (mStay (gg 4 0 1) (gg 17 0) (gg 4 0 3) (c : Int))) (gg 4 0 2) (gg 18 0)) (gg 5 0 3).toNat)), some (aI (c : Int))] dX12_spoil_56 rfl (by decide) ?_
            refine w_iload_n dX12_spoil_57 rfl ?_
            refine w_istore_n [some (aR 12 0), some (aI (c : Int)), some (aI (mSum (mGain (gg 4 0 1) (mRs (gg 17 0) (mStay (gg 4 0 1) (gg 17 0) (gg 4 0 3) (c : Int))) (gg 4 0 2) (gg 18 0)) (gg 5 0 3).toNat)), some (aI (c : Int))] dX12_spoil_58 rfl (by decide) ?_
            refine w_iinc [some (aR 12 0), some (aI (c : Int)), some (aI (mSum (mGain (gg 4 0 1) (mRs (gg 17 0) (mStay (gg 4 0 1) (gg 17 0) (gg 4 0 3) (c : Int))) (gg 4 0 2) (gg 18 0)) (gg 5 0 3).toNat)), some (aI ((c : Int) + 1))] dX12_spoil_59 rfl rfl (by decide) ?_
            refine w_goto 18 dX12_spoil_62 (by decide) ?_
            refine ih18 (by omega) _ _ _ _ ?_ ?_ ?_
            · exact (by omega)
            · exact (by rw [spo_g J (by omega) c38 c46])
            · exact (by unfold mSpM; rw [spo_g J (by omega) c38 c46, if_neg (by dsimp only; omega)]; rfl)
          · refine w_goto 59 dX12_spoil_49 (by decide) ?_
            refine w_iinc [some (aR 12 0), some (aI ((mSpo gg c).1)), some (aI (mSpM gg c)), some (aI ((c : Int) + 1))] dX12_spoil_59 rfl rfl (by decide) ?_
            refine w_goto 18 dX12_spoil_62 (by decide) ?_
            refine ih18 (by omega) _ _ _ _ ?_ ?_ ?_
            · exact (by omega)
            · exact (by rw [spo_l J (by omega) (show 0 ≤ mGt gg (mRs (gg 17 0) (mStay (gg 4 0 1) (gg 17 0) (gg 4 0 3) (c : Int))) from by have z0 := mSum_r2 J hrb (gg 5 0 3).toNat (by omega); exact z0.1) c46])
            · exact (by unfold mSpM; rw [spo_l J (by omega) (show 0 ≤ mGt gg (mRs (gg 17 0) (mStay (gg 4 0 1) (gg 17 0) (gg 4 0 3) (c : Int))) from by have z0 := mSum_r2 J hrb (gg 5 0 3).toNat (by omega); exact z0.1) c46])
    have z18 := lp18 0 (Nat.zero_le _) _ _ _ (h 42 0) (by exact (show 0 = ((0 : Nat) : Int) by omega)) (by exact (show (-1) = (mSpo gg 0).1 from rfl)) (by exact (show (-1000000000) = mSpM gg 0 from rfl))
    rw [fwUc_self] at z18
    exact z18
  · refine w_bipush dX12_spoil_7 rfl ?_
    exact w_iretE dX12_spoil_9 rfl (by unfold an_spoil; first | (rw [if_pos (by omega)]; done) | (rw [if_neg (by omega)]; done) | (rw [if_pos (by omega)]; rfl) | (rw [if_neg (by omega)]; rfl)) (k _ (scr_rf hsh))
/-- the best single FOOT: what the class's search comes to, CELL by CELL -/
def bsS (h : fwH) (j : Nat) : fwSt := mSeL (mSe (mGt h) (h 4 0 1).toNat 0 1) 0 0 (h 17 0) (h 27 0, 0, h 8 0 5, h 28 0) j
theorem bs_shp (h : fwH) : mShp h 1 = bsS h (h 4 0 1).toNat := rfl
def bsB (h : fwH) (j : Nat) : Int := if (bsS h j).2.1 = 0 then -1 else (bsS h j).2.2.2 0
def bsM (h : fwH) (j : Nat) : Int := if (bsS h j).2.1 = 0 then -1000000000 else (bsS h j).2.2.1
theorem bs_z {h : fwH} {j : Nat} (hz : ¬ 0 < h 17 0 j) : bsS h (j + 1) = bsS h j := by
  unfold bsS
  rw [mSeL, if_neg (by rw [Nat.zero_add]; exact hz)]
theorem bs_p {h : fwH} {j : Nat} (hz : 0 < h 17 0 j) : bsS h (j + 1) = mKeep (mGt h (fwFu (h 17 0) j (h 17 0 j + -1))) (fwFu (bsS h j).1 0 (j : Int), (bsS h j).2) := by
  unfold bsS
  rw [mSeL, if_pos (by rw [Nat.zero_add]; exact hz)]
  simp only [Nat.zero_add]
  rfl
theorem bs_01 (h : fwH) : ∀ j : Nat, (bsS h j).2.1 = 0 ∨ (bsS h j).2.1 = 1 := by
  intro j
  induction j with
  | zero => exact Or.inl rfl
  | succ j ih =>
    by_cases hz : 0 < h 17 0 j
    · rw [bs_p hz]
      unfold mKeep
      split
      · exact ih
      · exact Or.inr rfl
    · rw [bs_z hz]; exact ih
theorem bs_l {h : fwH} {j : Nat} (hz : 0 < h 17 0 j) (hg : 0 ≤ mGt h (fwFu (h 17 0) j (h 17 0 j + -1))) (hl : mGt h (fwFu (h 17 0) j (h 17 0 j + -1)) ≤ bsM h j) : bsB h (j + 1) = bsB h j ∧ bsM h (j + 1) = bsM h j := by
  have h0 : (bsS h j).2.1 ≠ 0 := fun q => by unfold bsM at hl; rw [if_pos q] at hl; omega
  have e : bsS h (j + 1) = (fwFu (bsS h j).1 0 (j : Int), (bsS h j).2) := by
    rw [bs_p hz]
    unfold mKeep
    unfold bsM at hl
    rw [if_neg h0] at hl
    rw [if_pos ⟨h0, hl⟩]
  unfold bsB bsM
  rw [e]
  exact ⟨rfl, rfl⟩
theorem bs_g {h : fwH} {j : Nat} (hz : 0 < h 17 0 j) (hl : bsM h j < mGt h (fwFu (h 17 0) j (h 17 0 j + -1))) : bsB h (j + 1) = (j : Int) ∧ bsM h (j + 1) = mGt h (fwFu (h 17 0) j (h 17 0 j + -1)) := by
  have e : bsS h (j + 1) = (fwFu (bsS h j).1 0 (j : Int), 1, mGt h (fwFu (h 17 0) j (h 17 0 j + -1)), fwFu (bsS h j).1 0 (j : Int)) := by
    rw [bs_p hz]
    unfold mKeep
    rw [if_neg]
    intro q
    unfold bsM at hl
    rw [if_neg q.1] at hl
    have q2 : mGt h (fwFu (h 17 0) j (h 17 0 j + -1)) ≤ (bsS h j).2.2.1 := q.2
    omega
  unfold bsB bsM
  rw [e]
  exact ⟨rfl, rfl⟩
theorem bs_r {h : fwH} (J : cOk h) : ∀ j : Nat, (j : Int) ≤ h 4 0 1 → (-1 ≤ bsB h j ∧ bsB h j ≤ 10) ∧ -1000000000 ≤ bsM h j ∧ bsM h j ≤ 300000 := by
  intro j
  induction j with
  | zero =>
    intro _
    have e : (bsS h 0).2.1 = 0 := rfl
    unfold bsB bsM
    rw [if_pos e, if_pos e]
    omega
  | succ j ih =>
    intro hj
    have h1 := ih (by omega)
    by_cases hz : 0 < h 17 0 j
    · have hb : hB (fwFu (h 17 0) j (h 17 0 j + -1)) := hB_fu (fun c hc => by have := J.2.2.2.1 c hc; omega) (by have := J.2.2.2.1 j (by have := J.2.2.1.1; omega); omega)
      have hg := mSum_r2 J hb (h 5 0 3).toNat (by have := J.2.1.1; omega)
      have hp := J.2.1.1
      rcases Int.lt_or_le (bsM h j) (mGt h (fwFu (h 17 0) j (h 17 0 j + -1))) with q | q
      · have z := bs_g hz q
        have z2 : mGt h (fwFu (h 17 0) j (h 17 0 j + -1)) ≤ 300000 := by unfold mGt; omega
        have z3 : 0 ≤ mGt h (fwFu (h 17 0) j (h 17 0 j + -1)) := hg.1
        have := J.2.2.1.1
        rw [z.1, z.2]
        omega
      · have z := bs_l hz hg.1 q
        rw [z.1, z.2]
        exact h1
    · unfold bsB bsM
      rw [bs_z hz]
      exact h1
theorem bs_none {h : fwH} (J : cOk h) : ∀ j : Nat, (j : Int) ≤ h 4 0 1 → ((bsS h j).2.1 = 0 ↔ mSum (h 17 0) j < 1) := by
  intro j
  induction j with
  | zero => intro _; exact ⟨fun _ => by rw [mSum]; omega, fun _ => rfl⟩
  | succ j ih =>
    intro hj
    have h1 := ih (by omega)
    have h2 := J.2.2.2.1 j (by have := J.2.2.1.1; omega)
    have h3 : 0 ≤ mSum (h 17 0) j := by
      have key : ∀ k : Nat, (k : Int) ≤ h 4 0 1 → 0 ≤ mSum (h 17 0) k := by
        intro k
        induction k with
        | zero => intro _; rw [mSum]; omega
        | succ k ik => intro hk; rw [mSum]; have := ik (by omega); have := J.2.2.2.1 k (by have := J.2.2.1.1; omega); omega
      exact key j (by omega)
    rw [mSum]
    by_cases hz : 0 < h 17 0 j
    · constructor
      · intro q
        exfalso
        rw [bs_p hz] at q
        unfold mKeep at q
        split at q
        · rename_i q2; exact q2.1 q
        · cases q
      · intro q; omega
    · rw [bs_z hz, h1]
      omega
set_option maxRecDepth 100000 in
set_option maxHeartbeats 4000000 in
theorem c_X12_best {d : Nat} {h gg : fwH} {Q : Option fwV → fwH → Prop}  (J : cOk gg) (R : jF gg h) (K : jA gg h) (hsh : sc h)  (k : ∀ g, scr h g → Q (some (aI (an_best gg ))) g) : fwCt mX12_best (d + 6) [aR 12 0] h Q := by
  refine fwCt_of [some (aR 12 0), none, none, none, none] rfl rfl rfl ?_
  obtain ⟨hl, hP, hG, hM0, htd, hut, hlw, hhc, ha, hs, hT, hsc⟩ := id J
  have hb17 : hB (gg 17 0) := fun c hc => by have := hM0 c hc; omega
  obtain ⟨⟨g1, g2⟩, ⟨g3, g4⟩, ⟨g5, g6⟩, g7, -⟩ := id hG
  have h17_99 : ∀ c : Nat, (c : Int) < gg 4 0 1 → gg 17 0 c ≤ 99 := fun c hc => (hM0 c (by omega)).2
  have hpz := hP.1
  have hrs1 := R.2.2.2.2.2.2.2.2.2.2.2
  refine w_aload_n dX12_best_0 rfl ?_
  refine w_callV (d := d + 5) (S := []) [] dX12_best_1 ml_X12_73 ok_X12_isMount vi_X12_isMount rfl rfl (by decide) rfl (Nat.le_of_ble_eq_true rfl) ?_
  refine c_X12_isMount (d := (d + 5)) J R ?_
  show fwWP mX12_best (d + 6) 4 [some (aR 12 0), none, none, none, none] [aI (fwB (0 < gg 3 0 6))] h Q
  refine w_ifB_ne 10 dX12_best_4 (by decide) (fun c4 => ?_) (fun c4 => ?_)
  · refine w_aload_n dX12_best_10 rfl ?_
    refine w_callV (d := d + 5) (S := []) [] dX12_best_11 ml_X12_240 ok_X12_asItIs vi_X12_asItIs rfl rfl (by decide) rfl (Nat.le_of_ble_eq_true rfl) ?_
    refine c_X12_asItIs (d := d) J R K (show 1 ≤ gg 4 0 1 by omega) (show 1 ≤ gg 4 0 3 by omega) ?_
    intro A11_2 hA11_2
    show fwWP mX12_best (d + 6) 14 [some (aR 12 0), none, none, none, none] [] (fwUc h 42 0 A11_2) Q
    refine w_iconst dX12_best_14 ?_
    refine w_istore_n [some (aR 12 0), some (aI (-1)), none, none, none] dX12_best_15 rfl (by decide) ?_
    refine w_ldcw (n := -1000000000) dX12_best_16 cs_X12_335 ?_
    refine w_istore_n [some (aR 12 0), some (aI (-1)), some (aI (-1000000000)), none, none] dX12_best_19 rfl (by decide) ?_
    refine w_iconst dX12_best_20 ?_
    refine w_istore_n [some (aR 12 0), some (aI (-1)), some (aI (-1000000000)), some (aI 0), none] dX12_best_21 rfl (by decide) ?_
    have lp22 : ∀ c : Nat, c ≤ (gg 4 0 1).toNat → ∀ (y22 be mo : Int) (A22 : Nat → Int), y22 = (c : Int) → be = bsB gg c → mo = bsM gg c → hiR (gg 4 0 1) A22 (gg 17 0) → fwWP mX12_best (d + 6) 22 [some (aR 12 0), some (aI be), some (aI mo), some (aI y22), none] [] (fwUc h 42 0 A22) Q := by
      refine fw_up (fun c hc22 ih22 => ?_)
      intro y22 be mo A22 ey22 e_be e_mo hA22
      subst ey22
      subst e_be
      subst e_mo
      show fwWP mX12_best (d + 6) 22 [some (aR 12 0), some (aI (bsB gg c)), some (aI (bsM gg c)), some (aI (c : Int)), none] [] (fwUc h 42 0 A22) Q
      refine w_iload_n dX12_best_22 rfl ?_
      refine w_aload_n dX12_best_23 rfl ?_
      refine w_getr 36 0 dX12_best_24 fl_X12_9 rfl (by decide) ?_
      refine w_iconst dX12_best_27 ?_
      refine w_ialdE (v := gg 4 0 1) dX12_best_28 rfl (by decide) (by omega) (by omega) R.1 ?_
      refine w_icmp_ge 90 dX12_best_29 (by decide) (by omega) (by omega) (fun c29 => ?_) (fun c29 => ?_)
      · have ec22 : (gg 4 0 1).toNat = c := by omega
        subst ec22
        refine w_iload_n dX12_best_90 rfl ?_
        exact w_iretE dX12_best_91 rfl (by unfold an_best; rw [if_pos (show 0 < gg 3 0 6 by omega), bs_shp]; unfold bsB; have z0 := bs_none J (gg 4 0 1).toNat (by omega); by_cases z1 : 1 ≤ mSum (gg 17 0) (gg 4 0 1).toNat; (rw [if_pos z1, if_neg (fun z2 => by have := z0.mp z2; omega)]); (rw [if_neg z1, if_pos (z0.mpr (by omega))])) (k _ (scr_uc (scr_rf hsh) rfl (by decide) (by decide) (by decide)))
      · have hb9 := hM0 c (by omega)
        have hbr := bs_r J c (by omega)
        refine w_aload_n dX12_best_32 rfl ?_
        refine w_getr 42 0 dX12_best_33 fl_X12_34 rfl (by decide) ?_
        refine w_iload_n dX12_best_36 rfl ?_
        refine w_ialdE (v := (gg 17 0) c) dX12_best_37 rfl (by decide) (by omega) (by omega) (hA22 _ (by omega)) ?_
        refine w_if_ne 44 dX12_best_38 (by decide) (by omega) (fun c38 => ?_) (fun c38 => ?_)
        · refine w_aload_n dX12_best_44 rfl ?_
          refine w_getr 42 0 dX12_best_45 fl_X12_34 rfl (by decide) ?_
          refine w_iload_n dX12_best_48 rfl ?_
          refine w_dup2 dX12_best_49 rfl rfl ?_
          refine w_ialdE (v := (gg 17 0) c) dX12_best_50 rfl (by decide) (by omega) (by omega) (hA22 _ (by omega)) ?_
          refine w_iconst dX12_best_51 ?_
          refine w_isub dX12_best_52 ?_
          refine w_iast dX12_best_53 rfl (by decide) (by omega) (by omega) ?_
          rw [show (fwUp (fwUc h 42 0 A22) 42 0 ((c : Int)).toNat (((gg 17 0) c) - 1)) = (fwUc h 42 0 (fwFu A22 c (((gg 17 0) c) - 1))) from by rw [fwUp_fu]; rw [fwUc_uc]; rfl]
          have hA53 := hiR_fu hA22 c (((gg 17 0) c) - 1)
          have hb53 : hB (fwFu (gg 17 0) c (((gg 17 0) c) - 1)) := hB_fu hb17 (by omega)
          refine w_aload_n dX12_best_54 rfl ?_
          refine w_callV (d := d + 5) (S := []) [] dX12_best_55 ml_X12_251 ok_X12_gainOfAll vi_X12_gainOfAll rfl rfl (by decide) rfl (Nat.le_of_ble_eq_true rfl) ?_
          refine c_X12_gainOfAll (d := d) (fwFu (gg 17 0) c (((gg 17 0) c) - 1)) J R hA53 hb53 (show 1 ≤ gg 4 0 1 by omega) ?_
          show fwWP mX12_best (d + 6) 58 [some (aR 12 0), some (aI (bsB gg c)), some (aI (bsM gg c)), some (aI (c : Int)), none] [aI (mSum (mGain (gg 4 0 1) (fwFu (gg 17 0) c (((gg 17 0) c) - 1)) (gg 4 0 2) (gg 18 0)) (gg 5 0 3).toNat)] (fwUc h 42 0 (fwFu A22 c (((gg 17 0) c) - 1))) Q
          have hga5 := mSum_r2 J hb53 (gg 5 0 3).toNat (by omega)
          refine w_istore [some (aR 12 0), some (aI (bsB gg c)), some (aI (bsM gg c)), some (aI (c : Int)), some (aI (mSum (mGain (gg 4 0 1) (fwFu (gg 17 0) c (((gg 17 0) c) - 1)) (gg 4 0 2) (gg 18 0)) (gg 5 0 3).toNat))] dX12_best_58 rfl (by decide) ?_
          refine w_aload_n dX12_best_60 rfl ?_
          refine w_getr 42 0 dX12_best_61 fl_X12_34 rfl (by decide) ?_
          refine w_iload_n dX12_best_64 rfl ?_
          refine w_dup2 dX12_best_65 rfl rfl ?_
          refine w_ialdE (v := (fwFu (gg 17 0) c (((gg 17 0) c) - 1)) c) dX12_best_66 rfl (by decide) (by omega) (by omega) (hA53 _ (by omega)) ?_
          refine w_iconst dX12_best_67 ?_
          refine w_iadd dX12_best_68 ?_
          refine w_iast dX12_best_69 rfl (by decide) (by omega) (by omega) ?_
          rw [show (fwUp (fwUc h 42 0 (fwFu A22 c (((gg 17 0) c) - 1))) 42 0 ((c : Int)).toNat (((fwFu (gg 17 0) c (((gg 17 0) c) - 1)) c) + 1)) = (fwUc h 42 0 (fwFu (fwFu A22 c (((gg 17 0) c) - 1)) c (((fwFu (gg 17 0) c (((gg 17 0) c) - 1)) c) + 1))) from by rw [fwUp_fu]; rw [fwUc_uc]; rfl]
          have hA69 := hiR_fu hA53 c (((fwFu (gg 17 0) c (((gg 17 0) c) - 1)) c) + 1)
          rw [fwFu_mp] at hA69
          have hgt : mSum (mGain (gg 4 0 1) (fwFu (gg 17 0) c (((gg 17 0) c) - 1)) (gg 4 0 2) (gg 18 0)) (gg 5 0 3).toNat = mGt gg (fwFu (gg 17 0) c (gg 17 0 c + -1)) := by unfold mGt; rw [Int.sub_eq_add_neg]
          refine w_iload dX12_best_70 rfl ?_
          refine w_iload_n dX12_best_72 rfl ?_
          refine w_icmp_gt 79 dX12_best_73 (by decide) (by omega) (by omega) (fun c73 => ?_) (fun c73 => ?_)
          · refine w_iload dX12_best_79 rfl ?_
            refine w_istore_n [some (aR 12 0), some (aI (bsB gg c)), some (aI (mSum (mGain (gg 4 0 1) (fwFu (gg 17 0) c (((gg 17 0) c) - 1)) (gg 4 0 2) (gg 18 0)) (gg 5 0 3).toNat)), some (aI (c : Int)), some (aI (mSum (mGain (gg 4 0 1) (fwFu (gg 17 0) c (((gg 17 0) c) - 1)) (gg 4 0 2) (gg 18 0)) (gg 5 0 3).toNat))] dX12_best_81 rfl (by decide) ?_
            refine w_iload_n dX12_best_82 rfl ?_
            refine w_istore_n [some (aR 12 0), some (aI (c : Int)), some (aI (mSum (mGain (gg 4 0 1) (fwFu (gg 17 0) c (((gg 17 0) c) - 1)) (gg 4 0 2) (gg 18 0)) (gg 5 0 3).toNat)), some (aI (c : Int)), some (aI (mSum (mGain (gg 4 0 1) (fwFu (gg 17 0) c (((gg 17 0) c) - 1)) (gg 4 0 2) (gg 18 0)) (gg 5 0 3).toNat))] dX12_best_83 rfl (by decide) ?_
            refine w_iinc [some (aR 12 0), some (aI (c : Int)), some (aI (mSum (mGain (gg 4 0 1) (fwFu (gg 17 0) c (((gg 17 0) c) - 1)) (gg 4 0 2) (gg 18 0)) (gg 5 0 3).toNat)), some (aI ((c : Int) + 1)), some (aI (mSum (mGain (gg 4 0 1) (fwFu (gg 17 0) c (((gg 17 0) c) - 1)) (gg 4 0 2) (gg 18 0)) (gg 5 0 3).toNat))] dX12_best_84 rfl rfl (by decide) ?_
            refine w_goto 22 dX12_best_87 (by decide) ?_
            refine w_drop [4] [some (aR 12 0), some (aI (c : Int)), some (aI (mSum (mGain (gg 4 0 1) (fwFu (gg 17 0) c (((gg 17 0) c) - 1)) (gg 4 0 2) (gg 18 0)) (gg 5 0 3).toNat)), some (aI ((c : Int) + 1)), none] rfl ?_
            refine ih22 (by omega) _ _ _ _ ?_ ?_ ?_ ?_
            · exact (by omega)
            · exact (bs_g (by omega) (by rw [← hgt]; exact c73)).1.symm
            · exact (by rw [(bs_g (by omega) (by rw [← hgt]; exact c73)).2]; exact hgt)
            · exact hA69
          · refine w_goto 84 dX12_best_76 (by decide) ?_
            refine w_iinc [some (aR 12 0), some (aI (bsB gg c)), some (aI (bsM gg c)), some (aI ((c : Int) + 1)), some (aI (mSum (mGain (gg 4 0 1) (fwFu (gg 17 0) c (((gg 17 0) c) - 1)) (gg 4 0 2) (gg 18 0)) (gg 5 0 3).toNat))] dX12_best_84 rfl rfl (by decide) ?_
            refine w_goto 22 dX12_best_87 (by decide) ?_
            refine w_drop [4] [some (aR 12 0), some (aI (bsB gg c)), some (aI (bsM gg c)), some (aI ((c : Int) + 1)), none] rfl ?_
            refine ih22 (by omega) _ _ _ _ ?_ ?_ ?_ ?_
            · exact (by omega)
            · exact (bs_l (by omega) (by rw [← hgt]; omega) (by rw [← hgt]; exact c73)).1.symm
            · exact (bs_l (by omega) (by rw [← hgt]; omega) (by rw [← hgt]; exact c73)).2.symm
            · exact hA69
        · refine w_goto 84 dX12_best_41 (by decide) ?_
          refine w_iinc [some (aR 12 0), some (aI (bsB gg c)), some (aI (bsM gg c)), some (aI ((c : Int) + 1)), none] dX12_best_84 rfl rfl (by decide) ?_
          refine w_goto 22 dX12_best_87 (by decide) ?_
          refine ih22 (by omega) _ _ _ _ ?_ ?_ ?_ ?_
          · exact (by omega)
          · exact (by unfold bsB; rw [bs_z (by omega)])
          · exact (by unfold bsM; rw [bs_z (by omega)])
          · exact hA22
    have z22 := lp22 0 (Nat.zero_le _) _ _ _ A11_2 (by exact (show 0 = ((0 : Nat) : Int) by omega)) (by exact (show (-1) = bsB gg 0 from rfl)) (by exact (show (-1000000000) = bsM gg 0 from rfl)) hA11_2
    exact z22
  · refine w_bipush dX12_best_7 rfl ?_
    exact w_iretE dX12_best_9 rfl (by unfold an_best; rw [if_neg (by omega)]) (k _ (scr_rf hsh))

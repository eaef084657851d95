/-! FootLower$Course: the trial ground is number 5 -/
def mLowN (n : Nat) (H : Nat → Int) (ls : Int) : Nat → Nat → Int
  | 0 => H
  | c + 1 => mLow n (mLowN n H ls c) ls
theorem mLow_rng {n : Nat} {H : Nat → Int} {ls b : Int} (hn : n ≤ 10) (hH : ∀ c : Nat, c < 10 → 0 ≤ H c ∧ H c ≤ b) : ∀ c : Nat, c < 10 → 0 ≤ mLow n H ls c ∧ mLow n H ls c ≤ b := by
  intro c hc
  unfold mLow
  split
  · rename_i q
    have ht := mTop_rng H ls n
    have h1 := hH (mTop H ls n).toNat (by omega)
    have h2 := hH c hc
    unfold fwFu
    split <;> omega
  · exact hH c hc
theorem mLowN_rng {n : Nat} {H : Nat → Int} {ls b : Int} (hn : n ≤ 10) (hH : ∀ c : Nat, c < 10 → 0 ≤ H c ∧ H c ≤ b) : ∀ k : Nat, ∀ c : Nat, c < 10 → 0 ≤ mLowN n H ls k c ∧ mLowN n H ls k c ≤ b := by
  intro k
  induction k with
  | zero => exact hH
  | succ k ih => exact mLow_rng hn ih
/-- the mountain's heights with so many FEET taken -/
def mLw (h : fwH) (k : Nat) : Nat → Int := mLowN (h 4 0 1).toNat (h 17 0) (h 4 0 4) k
/-- the trial ground: as the mountain, with heights of its own -/
def fwTr (h : fwH) (H : Nat → Int) : fwH := fwUc (fwUc h 4 5 (h 4 0)) 17 5 H
theorem gOk_tr {h : fwH} (hG : gOk h 0) {H : Nat → Int} (hH : ∀ c : Nat, c < 10 → 0 ≤ H c ∧ H c ≤ 1000) (A B : Nat → Int) : gOk (fwUc (fwUc (fwUc (fwUc h 4 5 (h 4 0)) 17 5 H) 19 0 A) 20 0 B) 5 := ⟨hG.1, hG.2.1, hG.2.2.1, hG.2.2.2.1, hH⟩
theorem fwAB (h : fwH) (H : Nat → Int) : fwUc (fwUc (fwUc (fwUc h 4 5 (h 4 0)) 17 5 H) 19 0 (h 19 0)) 20 0 (h 20 0) = fwUc (fwUc h 4 5 (h 4 0)) 17 5 H := by
  rw [show fwUc (fwUc (fwUc h 4 5 (h 4 0)) 17 5 H) 19 0 (h 19 0) = fwUc (fwUc h 4 5 (h 4 0)) 17 5 H from fwUc_self (fwUc (fwUc h 4 5 (h 4 0)) 17 5 H) 19 0]
  exact fwUc_self (fwUc (fwUc h 4 5 (h 4 0)) 17 5 H) 20 0
set_option maxRecDepth 100000 in
set_option maxHeartbeats 4000000 in
theorem c_X0_gainAfter {d : Nat} {h : fwH} {Q : Option fwV → fwH → Prop} (f n : Nat) (hP : pOk h 0) (hG : gOk h 0) (hn : 1 ≤ h 4 0 1) (hM : ∀ c : Nat, c < 10 → h 17 0 c ≤ 999) (hf : (f : Int) < h 5 0 3) (hnn : n ≤ 1000) (k : ∀ A B, Q (some (aI (mGain (h 4 0 1) (mLw h n) (h 4 0 2) (h 18 0) f))) (fwUc (fwUc (fwUc (fwUc h 4 5 (h 4 0)) 17 5 (mLw h n)) 19 0 A) 20 0 B)) : fwCt mX0_gainAfter (d + 4) [aR 9 0, aI (f : Int), aI (n : Int)] h Q := by
  refine fwCt_of [some (aR 9 0), some (aI (f : Int)), some (aI (n : Int)), none] rfl rfl rfl ?_
  obtain ⟨⟨g1, g2⟩, ⟨g3, g4⟩, ⟨g5, g6⟩, g7, g8⟩ := id hG
  have hpz := hP.1
  refine w_aload_n dX0_gainAfter_0 rfl ?_
  refine w_getr 4 5 dX0_gainAfter_1 fl_X0_15 rfl (by decide) ?_
  refine w_aload_n dX0_gainAfter_4 rfl ?_
  refine w_getr 3 0 dX0_gainAfter_5 fl_X0_9 rfl (by decide) ?_
  refine w_getr 4 0 dX0_gainAfter_8 fl_X0_19 rfl (by decide) ?_
  refine w_callV (d := d + 3) (S := []) [aR 4 0] dX0_gainAfter_11 ml_X0_24 ok_X1_copyFrom vi_X1_copyFrom rfl rfl (by decide) rfl (Nat.le_of_ble_eq_true rfl) ?_
  refine c_X1_copyFrom (d := (d + 3)) 5 0 (by decide) (by decide) (by first | assumption | omega | decide) (by first | assumption | omega | decide) ?_
  show fwWP mX0_gainAfter (d + 4) 14 [some (aR 9 0), some (aI (f : Int)), some (aI (n : Int)), none] [] (fwUc (fwUc h 17 5 (h 17 0)) 4 5 (h 4 0)) Q
  rw [show fwUc (fwUc h 17 5 (h 17 0)) 4 5 (h 4 0) = (fwUc (fwUc h 4 5 (h 4 0)) 17 5 (h 17 0)) from by funext a b; simp only [fwUc]; (repeat' split); all_goals first | rfl | (exfalso; omega)]
  refine w_iconst dX0_gainAfter_14 ?_
  refine w_istore_n [some (aR 9 0), some (aI (f : Int)), some (aI (n : Int)), some (aI 0)] dX0_gainAfter_15 rfl (by decide) ?_
  have lp16 : ∀ c : Nat, c ≤ n → ∀ (y16  : Int) (hh16 : fwH), y16 = (c : Int) → (∃ A B : Nat → Int, hh16 = (fwUc (fwUc (fwUc (fwUc h 4 5 (h 4 0)) 17 5 (mLw h c)) 19 0 A) 20 0 B)) → fwWP mX0_gainAfter (d + 4) 16 [some (aR 9 0), some (aI (f : Int)), some (aI (n : Int)), some (aI y16)] [] hh16 Q := by
    refine fw_up (fun c hc16 ih16 => ?_)
    intro y16  hh16 ey16 eh16
    subst ey16
    obtain ⟨A_16, B_16, eh16⟩ := eh16
    subst eh16
    have hH1 : ∀ q : Nat, q < 10 → 0 ≤ mLw h c q ∧ mLw h c q ≤ 999 := mLowN_rng (by omega) (fun q hq => ⟨(g8 q hq).1, hM q hq⟩) c
    have hH2 : ∀ q : Nat, q < 10 → 0 ≤ mLw h c q ∧ mLw h c q ≤ 1000 := fun q hq => by have := hH1 q hq; omega
    have hG5 := gOk_tr hG hH2 A_16 B_16
    have hM5 : ∀ q : Nat, q < 10 → mLw h c q ≤ 999 := fun q hq => (hH1 q hq).2
    show fwWP mX0_gainAfter (d + 4) 16 [some (aR 9 0), some (aI (f : Int)), some (aI (n : Int)), some (aI (c : Int))] [] (fwUc (fwUc (fwUc (fwUc h 4 5 (h 4 0)) 17 5 (mLw h c)) 19 0 A_16) 20 0 B_16) Q
    refine w_iload_n dX0_gainAfter_16 rfl ?_
    refine w_iload_n dX0_gainAfter_17 rfl ?_
    refine w_icmp_ge 35 dX0_gainAfter_18 (by decide) (by omega) (by omega) (fun c18 => ?_) (fun c18 => ?_)
    · have ec16 : n = c := by omega
      subst ec16
      refine w_aload_n dX0_gainAfter_35 rfl ?_
      refine w_getr 3 0 dX0_gainAfter_36 fl_X0_9 rfl (by decide) ?_
      refine w_getr 5 0 dX0_gainAfter_39 fl_X0_34 rfl (by decide) ?_
      refine w_aload_n dX0_gainAfter_42 rfl ?_
      refine w_getr 4 5 dX0_gainAfter_43 fl_X0_15 rfl (by decide) ?_
      refine w_iload_n dX0_gainAfter_46 rfl ?_
      refine w_callV (d := d + 3) (S := []) [aR 4 5, aI (f : Int)] dX0_gainAfter_47 ml_X0_38 ok_X3_gainOn vi_X3_gainOn rfl rfl (by decide) rfl (Nat.le_of_ble_eq_true rfl) ?_
      refine c_X3_gainOn (d := d) 0 5 f (by decide) (by decide) (by first | assumption | omega | decide) (by first | assumption | omega | decide) (show (f : Int) < (h 5 0 3) by first | assumption | omega | decide) ?_
      intro A2
      show fwWP mX0_gainAfter (d + 4) 50 [some (aR 9 0), some (aI (f : Int)), some (aI (n : Int)), some (aI ((n : Nat) : Int))] [aI (mGain ((h 4 0) 1) (mLw h n) ((h 4 0) 2) (h 18 0) f)] (fwUc (fwUc (fwUc (fwUc (fwUc h 4 5 (h 4 0)) 17 5 (mLw h n)) 19 0 A_16) 20 0 B_16) 20 0 A2) Q
      rw [show fwUc (fwUc (fwUc (fwUc (fwUc h 4 5 (h 4 0)) 17 5 (mLw h n)) 19 0 A_16) 20 0 B_16) 20 0 A2 = (fwUc (fwUc (fwUc (fwUc h 4 5 (h 4 0)) 17 5 (mLw h n)) 19 0 A_16) 20 0 A2) from by funext a b; simp only [fwUc]; (repeat' split); all_goals first | rfl | (exfalso; omega)]
      exact w_iret dX0_gainAfter_50 rfl (k _ _)
    · refine w_aload_n dX0_gainAfter_21 rfl ?_
      refine w_getr 4 5 dX0_gainAfter_22 fl_X0_15 rfl (by decide) ?_
      refine w_callV (d := d + 3) (S := []) [] dX0_gainAfter_25 ml_X0_30 ok_X1_lower vi_X1_lower rfl rfl (by decide) rfl (Nat.le_of_ble_eq_true rfl) ?_
      refine c_X1_lower (d := (d + 1)) 5 (by decide) (by first | assumption | omega | decide) ?_
      show fwWP mX0_gainAfter (d + 4) 28 [some (aR 9 0), some (aI (f : Int)), some (aI (n : Int)), some (aI (c : Int))] [aI (fwB (0 < ((h 4 0) 1).toNat ∧ (mLw h c) (mTop (mLw h c) ((h 4 0) 4) ((h 4 0) 1).toNat).toNat ≠ 0))] (fwUc (fwUc (fwUc (fwUc (fwUc h 4 5 (h 4 0)) 17 5 (mLw h c)) 19 0 A_16) 20 0 B_16) 17 5 (mLow ((h 4 0) 1).toNat (mLw h c) ((h 4 0) 4))) Q
      rw [show fwUc (fwUc (fwUc (fwUc (fwUc h 4 5 (h 4 0)) 17 5 (mLw h c)) 19 0 A_16) 20 0 B_16) 17 5 (mLow ((h 4 0) 1).toNat (mLw h c) ((h 4 0) 4)) = (fwUc (fwUc (fwUc (fwUc h 4 5 (h 4 0)) 17 5 (mLow ((h 4 0) 1).toNat (mLw h c) ((h 4 0) 4))) 19 0 A_16) 20 0 B_16) from by funext a b; simp only [fwUc]; (repeat' split); all_goals first | rfl | (exfalso; omega)]
      refine w_pop dX0_gainAfter_28 rfl ?_
      refine w_iinc [some (aR 9 0), some (aI (f : Int)), some (aI (n : Int)), some (aI ((c : Int) + 1))] dX0_gainAfter_29 rfl rfl (by decide) ?_
      refine w_goto 16 dX0_gainAfter_32 (by decide) ?_
      refine ih16 (by omega) _ _ ?_ ?_
      · exact (by omega)
      · exact ⟨_, _, rfl⟩
  refine lp16 0 (Nat.zero_le _) _ _ ?_ ?_
  · exact (by omega)
  · exact ⟨h 19 0, h 20 0, (fwAB h (h 17 0)).symm⟩
def mWish (h : fwH) (f : Nat) : Nat → Int × Int
  | 0 => (0, mGain (h 4 0 1) (mLw h 0) (h 4 0 2) (h 18 0) f)
  | k + 1 => if (mWish h f k).2 < mGain (h 4 0 1) (mLw h (k + 1)) (h 4 0 2) (h 18 0) f then ((k : Int) + 1, mGain (h 4 0 1) (mLw h (k + 1)) (h 4 0 2) (h 18 0) f) else mWish h f k
theorem mWish_rng {h : fwH} {f : Nat} (hn : (h 4 0 1).toNat ≤ 10 ∧ h 4 0 1 ≤ 10) (hH : ∀ c : Nat, c < 10 → 0 ≤ h 17 0 c ∧ h 17 0 c ≤ 1000) (h2 : 0 ≤ h 18 0 (7 * f + 2) ∧ h 18 0 (7 * f + 2) ≤ 9) (h3 : 0 ≤ h 18 0 (7 * f + 3) ∧ h 18 0 (7 * f + 3) ≤ 9) (h4 : 0 ≤ h 18 0 (7 * f + 4) ∧ h 18 0 (7 * f + 4) ≤ 9) : ∀ k, 0 ≤ (mWish h f k).2 ∧ (mWish h f k).2 ≤ 27000 := by
  intro k
  induction k with
  | zero => exact mGain_rng hn.2 hH h2 h3 h4
  | succ k ih =>
    rw [mWish]
    split
    · exact mGain_rng hn.2 (mLowN_rng hn.1 hH (k + 1)) h2 h3 h4
    · exact ih
set_option maxRecDepth 100000 in
set_option maxHeartbeats 4000000 in
theorem c_X0_wishedFeet {d : Nat} {h : fwH} {Q : Option fwV → fwH → Prop} (f : Nat) (hP : pOk h 0) (hG : gOk h 0) (hn : 1 ≤ h 4 0 1) (hM : ∀ c : Nat, c < 10 → h 17 0 c ≤ 999) (hf : (f : Int) < h 5 0 3) (k : ∀ A B, Q (some (aI ((mWish h f 20).1))) (fwUc (fwUc (fwUc (fwUc h 4 5 (h 4 0)) 17 5 (mLw h 20)) 19 0 A) 20 0 B)) : fwCt mX0_wishedFeet (d + 4) [aR 9 0, aI (f : Int)] h Q := by
  refine fwCt_of [some (aR 9 0), some (aI (f : Int)), none, none, none, none] rfl rfl rfl ?_
  obtain ⟨⟨g1, g2⟩, ⟨g3, g4⟩, ⟨g5, g6⟩, g7, g8⟩ := id hG
  have hpz := hP.1
  refine w_aload_n dX0_wishedFeet_0 rfl ?_
  refine w_getr 4 5 dX0_wishedFeet_1 fl_X0_15 rfl (by decide) ?_
  refine w_aload_n dX0_wishedFeet_4 rfl ?_
  refine w_getr 3 0 dX0_wishedFeet_5 fl_X0_9 rfl (by decide) ?_
  refine w_getr 4 0 dX0_wishedFeet_8 fl_X0_19 rfl (by decide) ?_
  refine w_callV (d := d + 3) (S := []) [aR 4 0] dX0_wishedFeet_11 ml_X0_24 ok_X1_copyFrom vi_X1_copyFrom rfl rfl (by decide) rfl (Nat.le_of_ble_eq_true rfl) ?_
  refine c_X1_copyFrom (d := (d + 3)) 5 0 (by decide) (by decide) (by first | assumption | omega | decide) (by first | assumption | omega | decide) ?_
  show fwWP mX0_wishedFeet (d + 4) 14 [some (aR 9 0), some (aI (f : Int)), none, none, none, none] [] (fwUc (fwUc h 17 5 (h 17 0)) 4 5 (h 4 0)) Q
  rw [show fwUc (fwUc h 17 5 (h 17 0)) 4 5 (h 4 0) = (fwUc (fwUc h 4 5 (h 4 0)) 17 5 (h 17 0)) from by funext a b; simp only [fwUc]; (repeat' split); all_goals first | rfl | (exfalso; omega)]
  refine w_iconst dX0_wishedFeet_14 ?_
  refine w_istore_n [some (aR 9 0), some (aI (f : Int)), some (aI 0), none, none, none] dX0_wishedFeet_15 rfl (by decide) ?_
  have hG5 : gOk (fwUc (fwUc h 4 5 (h 4 0)) 17 5 (h 17 0)) 5 := ⟨hG.1, hG.2.1, hG.2.2.1, hG.2.2.2.1, hG.2.2.2.2⟩
  have hff := hP.2 f (by omega)
  refine w_aload_n dX0_wishedFeet_16 rfl ?_
  refine w_getr 3 0 dX0_wishedFeet_17 fl_X0_9 rfl (by decide) ?_
  refine w_getr 5 0 dX0_wishedFeet_20 fl_X0_34 rfl (by decide) ?_
  refine w_aload_n dX0_wishedFeet_23 rfl ?_
  refine w_getr 4 5 dX0_wishedFeet_24 fl_X0_15 rfl (by decide) ?_
  refine w_iload_n dX0_wishedFeet_27 rfl ?_
  refine w_callV (d := d + 3) (S := []) [aR 4 5, aI (f : Int)] dX0_wishedFeet_28 ml_X0_38 ok_X3_gainOn vi_X3_gainOn rfl rfl (by decide) rfl (Nat.le_of_ble_eq_true rfl) ?_
  refine c_X3_gainOn (d := d) 0 5 f (by decide) (by decide) (by first | assumption | omega | decide) (by first | assumption | omega | decide) (show (f : Int) < (h 5 0 3) by first | assumption | omega | decide) ?_
  intro A1
  show fwWP mX0_wishedFeet (d + 4) 31 [some (aR 9 0), some (aI (f : Int)), some (aI 0), none, none, none] [aI (mGain ((h 4 0) 1) (h 17 0) ((h 4 0) 2) (h 18 0) f)] (fwUc (fwUc (fwUc h 4 5 (h 4 0)) 17 5 (h 17 0)) 20 0 A1) Q
  refine w_istore_n [some (aR 9 0), some (aI (f : Int)), some (aI 0), some (aI (mGain ((h 4 0) 1) (h 17 0) ((h 4 0) 2) (h 18 0) f)), none, none] dX0_wishedFeet_31 rfl (by decide) ?_
  refine w_iconst dX0_wishedFeet_32 ?_
  refine w_istore [some (aR 9 0), some (aI (f : Int)), some (aI 0), some (aI (mGain ((h 4 0) 1) (h 17 0) ((h 4 0) 2) (h 18 0) f)), some (aI 1), none] dX0_wishedFeet_33 rfl (by decide) ?_
  have lp35 : ∀ c : Nat, c ≤ 20 → ∀ (y35 wi mo : Int) (hh35 : fwH), y35 = (c : Int) + 1 → wi = (mWish h f c).1 → mo = (mWish h f c).2 → (∃ A B : Nat → Int, hh35 = (fwUc (fwUc (fwUc (fwUc h 4 5 (h 4 0)) 17 5 (mLw h c)) 19 0 A) 20 0 B)) → fwWP mX0_wishedFeet (d + 4) 35 [some (aR 9 0), some (aI (f : Int)), some (aI wi), some (aI mo), some (aI y35), none] [] hh35 Q := by
    refine fw_up (fun c hc35 ih35 => ?_)
    intro y35 wi mo hh35 ey35 e_wi e_mo eh35
    subst ey35
    subst e_wi
    subst e_mo
    obtain ⟨A_35, B_35, eh35⟩ := eh35
    subst eh35
    have hH1 : ∀ q : Nat, q < 10 → 0 ≤ mLw h c q ∧ mLw h c q ≤ 999 := mLowN_rng (by omega) (fun q hq => ⟨(g8 q hq).1, hM q hq⟩) c
    have hH2 : ∀ q : Nat, q < 10 → 0 ≤ mLw h c q ∧ mLw h c q ≤ 1000 := fun q hq => by have := hH1 q hq; omega
    have hG5 := gOk_tr hG hH2 A_35 B_35
    have hM5 : ∀ q : Nat, q < 10 → mLw h c q ≤ 999 := fun q hq => (hH1 q hq).2
    show fwWP mX0_wishedFeet (d + 4) 35 [some (aR 9 0), some (aI (f : Int)), some (aI ((mWish h f c).1)), some (aI ((mWish h f c).2)), some (aI ((c : Int) + 1)), none] [] (fwUc (fwUc (fwUc (fwUc h 4 5 (h 4 0)) 17 5 (mLw h c)) 19 0 A_35) 20 0 B_35) Q
    refine w_iload dX0_wishedFeet_35 rfl ?_
    refine w_bipush dX0_wishedFeet_37 rfl ?_
    refine w_icmp_gt 85 dX0_wishedFeet_39 (by decide) (by omega) (by omega) (fun c39 => ?_) (fun c39 => ?_)
    · have ec35 : 20 = c := by omega
      subst ec35
      refine w_iload_n dX0_wishedFeet_85 rfl ?_
      exact w_iret dX0_wishedFeet_86 rfl (k _ _)
    · refine w_aload_n dX0_wishedFeet_42 rfl ?_
      refine w_getr 4 5 dX0_wishedFeet_43 fl_X0_15 rfl (by decide) ?_
      refine w_callV (d := d + 3) (S := []) [] dX0_wishedFeet_46 ml_X0_30 ok_X1_lower vi_X1_lower rfl rfl (by decide) rfl (Nat.le_of_ble_eq_true rfl) ?_
      refine c_X1_lower (d := (d + 1)) 5 (by decide) (by first | assumption | omega | decide) ?_
      show fwWP mX0_wishedFeet (d + 4) 49 [some (aR 9 0), some (aI (f : Int)), some (aI ((mWish h f c).1)), some (aI ((mWish h f c).2)), some (aI ((c : Int) + 1)), none] [aI (fwB (0 < ((h 4 0) 1).toNat ∧ (mLw h c) (mTop (mLw h c) ((h 4 0) 4) ((h 4 0) 1).toNat).toNat ≠ 0))] (fwUc (fwUc (fwUc (fwUc (fwUc h 4 5 (h 4 0)) 17 5 (mLw h c)) 19 0 A_35) 20 0 B_35) 17 5 (mLow ((h 4 0) 1).toNat (mLw h c) ((h 4 0) 4))) Q
      rw [show fwUc (fwUc (fwUc (fwUc (fwUc h 4 5 (h 4 0)) 17 5 (mLw h c)) 19 0 A_35) 20 0 B_35) 17 5 (mLow ((h 4 0) 1).toNat (mLw h c) ((h 4 0) 4)) = (fwUc (fwUc (fwUc (fwUc h 4 5 (h 4 0)) 17 5 (mLow ((h 4 0) 1).toNat (mLw h c) ((h 4 0) 4))) 19 0 A_35) 20 0 B_35) from by funext a b; simp only [fwUc]; (repeat' split); all_goals first | rfl | (exfalso; omega)]
      refine w_pop dX0_wishedFeet_49 rfl ?_
      have hH3 : ∀ q : Nat, q < 10 → 0 ≤ mLw h (c + 1) q ∧ mLw h (c + 1) q ≤ 1000 := mLowN_rng (by omega) g8 (c + 1)
      have hG6 := gOk_tr hG hH3 A_35 B_35
      change fwWP mX0_wishedFeet (d + 4) 50 [some (aR 9 0), some (aI (f : Int)), some (aI ((mWish h f c).1)), some (aI ((mWish h f c).2)), some (aI ((c : Int) + 1)), none] [] (fwUc (fwUc (fwUc (fwUc h 4 5 (h 4 0)) 17 5 (mLw h (c + 1))) 19 0 A_35) 20 0 B_35) Q
      refine w_aload_n dX0_wishedFeet_50 rfl ?_
      refine w_getr 3 0 dX0_wishedFeet_51 fl_X0_9 rfl (by decide) ?_
      refine w_getr 5 0 dX0_wishedFeet_54 fl_X0_34 rfl (by decide) ?_
      refine w_aload_n dX0_wishedFeet_57 rfl ?_
      refine w_getr 4 5 dX0_wishedFeet_58 fl_X0_15 rfl (by decide) ?_
      refine w_iload_n dX0_wishedFeet_61 rfl ?_
      refine w_callV (d := d + 3) (S := []) [aR 4 5, aI (f : Int)] dX0_wishedFeet_62 ml_X0_38 ok_X3_gainOn vi_X3_gainOn rfl rfl (by decide) rfl (Nat.le_of_ble_eq_true rfl) ?_
      refine c_X3_gainOn (d := d) 0 5 f (by decide) (by decide) (by first | assumption | omega | decide) (by first | assumption | omega | decide) (show (f : Int) < (h 5 0 3) by first | assumption | omega | decide) ?_
      intro A3
      show fwWP mX0_wishedFeet (d + 4) 65 [some (aR 9 0), some (aI (f : Int)), some (aI ((mWish h f c).1)), some (aI ((mWish h f c).2)), some (aI ((c : Int) + 1)), none] [aI (mGain ((h 4 0) 1) (mLw h (c + 1)) ((h 4 0) 2) (h 18 0) f)] (fwUc (fwUc (fwUc (fwUc (fwUc h 4 5 (h 4 0)) 17 5 (mLw h (c + 1))) 19 0 A_35) 20 0 B_35) 20 0 A3) Q
      rw [show fwUc (fwUc (fwUc (fwUc (fwUc h 4 5 (h 4 0)) 17 5 (mLw h (c + 1))) 19 0 A_35) 20 0 B_35) 20 0 A3 = (fwUc (fwUc (fwUc (fwUc h 4 5 (h 4 0)) 17 5 (mLw h (c + 1))) 19 0 A_35) 20 0 A3) from by funext a b; simp only [fwUc]; (repeat' split); all_goals first | rfl | (exfalso; omega)]
      have hr1 := mGain_rng (n := h 4 0 1) (H := mLw h (c + 1)) (sl := h 4 0 2) (F := h 18 0) (f := f) (by omega) hH3 (by omega) (by omega) (by omega)
      have hr2 := mWish_rng (h := h) (f := f) (by omega) g8 (by omega) (by omega) (by omega) c
      refine w_istore [some (aR 9 0), some (aI (f : Int)), some (aI ((mWish h f c).1)), some (aI ((mWish h f c).2)), some (aI ((c : Int) + 1)), some (aI (mGain ((h 4 0) 1) (mLw h (c + 1)) ((h 4 0) 2) (h 18 0) f))] dX0_wishedFeet_65 rfl (by decide) ?_
      refine w_iload dX0_wishedFeet_67 rfl ?_
      refine w_iload_n dX0_wishedFeet_69 rfl ?_
      refine w_icmp_le 79 dX0_wishedFeet_70 (by decide) (by omega) (by omega) (fun c70 => ?_) (fun c70 => ?_)
      · refine w_iinc [some (aR 9 0), some (aI (f : Int)), some (aI ((mWish h f c).1)), some (aI ((mWish h f c).2)), some (aI (((c : Int) + 1) + 1)), some (aI (mGain ((h 4 0) 1) (mLw h (c + 1)) ((h 4 0) 2) (h 18 0) f))] dX0_wishedFeet_79 rfl rfl (by decide) ?_
        refine w_goto 35 dX0_wishedFeet_82 (by decide) ?_
        refine w_drop [5] [some (aR 9 0), some (aI (f : Int)), some (aI ((mWish h f c).1)), some (aI ((mWish h f c).2)), some (aI (((c : Int) + 1) + 1)), none] rfl ?_
        refine ih35 (by omega) _ _ _ _ ?_ ?_ ?_ ?_
        · exact (by omega)
        · exact (by rw [mWish]; first | rw [if_pos (by omega)] | rw [if_neg (by omega)])
        · exact (by rw [mWish]; first | rw [if_pos (by omega)] | rw [if_neg (by omega)])
        · exact ⟨_, _, rfl⟩
      · refine w_iload dX0_wishedFeet_73 rfl ?_
        refine w_istore_n [some (aR 9 0), some (aI (f : Int)), some (aI ((mWish h f c).1)), some (aI (mGain ((h 4 0) 1) (mLw h (c + 1)) ((h 4 0) 2) (h 18 0) f)), some (aI ((c : Int) + 1)), some (aI (mGain ((h 4 0) 1) (mLw h (c + 1)) ((h 4 0) 2) (h 18 0) f))] dX0_wishedFeet_75 rfl (by decide) ?_
        refine w_iload dX0_wishedFeet_76 rfl ?_
        refine w_istore_n [some (aR 9 0), some (aI (f : Int)), some (aI ((c : Int) + 1)), some (aI (mGain ((h 4 0) 1) (mLw h (c + 1)) ((h 4 0) 2) (h 18 0) f)), some (aI ((c : Int) + 1)), some (aI (mGain ((h 4 0) 1) (mLw h (c + 1)) ((h 4 0) 2) (h 18 0) f))] dX0_wishedFeet_78 rfl (by decide) ?_
        refine w_iinc [some (aR 9 0), some (aI (f : Int)), some (aI ((c : Int) + 1)), some (aI (mGain ((h 4 0) 1) (mLw h (c + 1)) ((h 4 0) 2) (h 18 0) f)), some (aI (((c : Int) + 1) + 1)), some (aI (mGain ((h 4 0) 1) (mLw h (c + 1)) ((h 4 0) 2) (h 18 0) f))] dX0_wishedFeet_79 rfl rfl (by decide) ?_
        refine w_goto 35 dX0_wishedFeet_82 (by decide) ?_
        refine w_drop [5] [some (aR 9 0), some (aI (f : Int)), some (aI ((c : Int) + 1)), some (aI (mGain ((h 4 0) 1) (mLw h (c + 1)) ((h 4 0) 2) (h 18 0) f)), some (aI (((c : Int) + 1) + 1)), none] rfl ?_
        refine ih35 (by omega) _ _ _ _ ?_ ?_ ?_ ?_
        · exact (by omega)
        · exact (by rw [mWish]; first | rw [if_pos (by omega)] | rw [if_neg (by omega)])
        · exact (by rw [mWish]; first | rw [if_pos (by omega)] | rw [if_neg (by omega)])
        · exact ⟨_, _, rfl⟩
  refine lp35 0 (Nat.zero_le _) _ _ _ _ ?_ ?_ ?_ ?_
  · exact (by omega)
  · exact rfl
  · exact rfl
  · exact ⟨h 19 0, _, (congrArg (fun z => fwUc z 20 0 _) (fwUc_self (fwUc (fwUc h 4 5 (h 4 0)) 17 5 (h 17 0)) 19 0)).symm⟩
/-- names of who signs, with the heights H -/
def mNT (h : fwH) (H : Nat → Int) : Int := mNames (h 18 0) (mSign (h 18 0) (h 5 0 3).toNat (mGers (h 4 0 1) H (h 4 0 2) (h 4 0 4) (h 18 0) (h 5 0 3).toNat (-1)) 0) (h 5 0 3).toNat
/-- a FOOT can be taken -/
abbrev mCan (h : fwH) (H : Nat → Int) : Prop := 0 < (h 4 0 1).toNat ∧ H (mTop H (h 4 0 4) (h 4 0 1).toNat).toNat ≠ 0
def mFst (p : Nat → Bool) : Nat → Nat
  | 0 => 0
  | k + 1 => if mFst p k = k ∧ p k = true then k + 1 else mFst p k
theorem mFst_le (p : Nat → Bool) : ∀ k, mFst p k ≤ k := by
  intro k
  induction k with
  | zero => exact Nat.le_refl _
  | succ k ih => rw [mFst]; split <;> omega
theorem mFst_stop {p : Nat → Bool} {a : Nat} (ha : mFst p a = a) (hp : ¬ p a = true) : ∀ b, mFst p (a + b) = a := by
  intro b
  induction b with
  | zero => exact ha
  | succ b ih =>
    rw [← Nat.add_assoc, mFst, ih, if_neg]
    intro q
    have e : a = a + b := q.1
    rw [← e] at q
    exact hp q.2
theorem mFst_go {p : Nat → Bool} {a : Nat} (ha : mFst p a = a) (hp : p a = true) : mFst p (a + 1) = a + 1 := by
  rw [mFst, if_pos ⟨ha, hp⟩]
def mGoB (h : fwH) (x : Int) (j : Nat) : Bool := decide (x ≤ mNT h (mLw h j) ∧ mCan h (mLw h j))
theorem mLw_stuck {h : fwH} {k : Nat} (hc : ¬ mCan h (mLw h k)) : mLw h (k + 1) = mLw h k := by
  show mLow _ (mLw h k) _ = mLw h k
  unfold mLow
  rw [if_neg hc]
theorem mLw_low (h : fwH) (k : Nat) : mLow (h 4 0 1).toNat (mLw h k) (h 4 0 4) = mLw h (k + 1) := rfl
set_option maxRecDepth 100000 in
set_option maxHeartbeats 4000000 in
theorem c_X0_namesOnTrial {d : Nat} {h : fwH} {Q : Option fwV → fwH → Prop}  (hP : pOk h 0) (hG : gOk h 5) (hn : 1 ≤ h 4 5 1) (hM : ∀ c : Nat, c < 10 → h 17 5 c ≤ 999) (k : ∀ A B, Q (some (aI (mNames (h 18 0) (mSign (h 18 0) (h 5 0 3).toNat (mWil h 5) 0) (h 5 0 3).toNat))) (fwUc (fwUc h 19 0 A) 20 0 B)) : fwCt mX0_namesOnTrial (d + 4) [aR 9 0] h Q := by
  refine fwCt_of [some (aR 9 0)] rfl rfl rfl ?_
  refine w_aload_n dX0_namesOnTrial_0 rfl ?_
  refine w_getr 3 0 dX0_namesOnTrial_1 fl_X0_9 rfl (by decide) ?_
  refine w_getr 5 0 dX0_namesOnTrial_4 fl_X0_34 rfl (by decide) ?_
  refine w_aload_n dX0_namesOnTrial_7 rfl ?_
  refine w_getr 3 0 dX0_namesOnTrial_8 fl_X0_9 rfl (by decide) ?_
  refine w_getr 5 0 dX0_namesOnTrial_11 fl_X0_34 rfl (by decide) ?_
  refine w_aload_n dX0_namesOnTrial_14 rfl ?_
  refine w_getr 3 0 dX0_namesOnTrial_15 fl_X0_9 rfl (by decide) ?_
  refine w_getr 5 0 dX0_namesOnTrial_18 fl_X0_34 rfl (by decide) ?_
  refine w_aload_n dX0_namesOnTrial_21 rfl ?_
  refine w_getr 4 5 dX0_namesOnTrial_22 fl_X0_15 rfl (by decide) ?_
  refine w_iconst dX0_namesOnTrial_25 ?_
  refine w_callV (d := d + 3) (S := [aR 5 0, aR 5 0]) [aR 4 5, aI (-1)] dX0_namesOnTrial_26 ml_X0_44 ok_X3_gainersBy vi_X3_gainersBy rfl rfl (by decide) rfl (Nat.le_of_ble_eq_true rfl) ?_
  refine c_willing5 (d := d) (by first | assumption | omega | decide) (by first | assumption | omega | decide) (show 1 ≤ (h 4 5 1) by first | assumption | omega | decide) (by first | assumption | omega | decide) ?_
  intro A1 B2
  show fwWP mX0_namesOnTrial (d + 4) 29 [some (aR 9 0)] [aI (mWil h 5), aR 5 0, aR 5 0] (fwUc (fwUc h 19 0 A1) 20 0 B2) Q
  refine w_iconst dX0_namesOnTrial_29 ?_
  refine w_callV (d := d + 3) (S := [aR 5 0]) [aI (mWil h 5), aI 0] dX0_namesOnTrial_30 ml_X0_47 ok_X3_signersOf vi_X3_signersOf rfl rfl (by decide) rfl (Nat.le_of_ble_eq_true rfl) ?_
  refine c_X3_signersOf (d := (d + 2)) 0 (mWil h 5) 0 (by decide) (by first | assumption | omega | decide) ?_
  show fwWP mX0_namesOnTrial (d + 4) 33 [some (aR 9 0)] [aI (mSign (h 18 0) (h 5 0 3).toNat (mWil h 5) 0), aR 5 0] (fwUc (fwUc h 19 0 A1) 20 0 B2) Q
  refine w_callV (d := d + 3) (S := []) [aI (mSign (h 18 0) (h 5 0 3).toNat (mWil h 5) 0)] dX0_namesOnTrial_33 ml_X0_51 ok_X3_namesOf vi_X3_namesOf rfl rfl (by decide) rfl (Nat.le_of_ble_eq_true rfl) ?_
  refine c_X3_namesOf (d := (d + 2)) 0 (mSign (h 18 0) (h 5 0 3).toNat (mWil h 5) 0) (by decide) (by first | assumption | omega | decide) ?_
  show fwWP mX0_namesOnTrial (d + 4) 36 [some (aR 9 0)] [aI (mNames (h 18 0) (mSign (h 18 0) (h 5 0 3).toNat (mWil h 5) 0) (h 5 0 3).toNat)] (fwUc (fwUc h 19 0 A1) 20 0 B2) Q
  exact w_iret dX0_namesOnTrial_36 rfl (k _ _)
set_option maxRecDepth 100000 in
set_option maxHeartbeats 4000000 in
theorem c_X0_followLaw {d : Nat} {h : fwH} {Q : Option fwV → fwH → Prop} (x : Int) (hP : pOk h 0) (hG : gOk h 0) (hn : 1 ≤ h 4 0 1) (hM : ∀ c : Nat, c < 10 → h 17 0 c ≤ 999) (hx : 1 ≤ x ∧ x ≤ 999) (k : ∀ A B, Q (some (aI ((mFst (mGoB h x) 60 : Nat) : Int))) (fwUc (fwUc (fwUc (fwUc h 4 5 (h 4 0)) 17 5 (mLw h (mFst (mGoB h x) 60))) 19 0 A) 20 0 B)) : fwCt mX0_followLaw (d + 5) [aR 9 0, aI x] h Q := by
  refine fwCt_of [some (aR 9 0), some (aI x), none] rfl rfl rfl ?_
  obtain ⟨⟨g1, g2⟩, ⟨g3, g4⟩, ⟨g5, g6⟩, g7, g8⟩ := id hG
  have hpz := hP.1
  refine w_aload_n dX0_followLaw_0 rfl ?_
  refine w_getr 4 5 dX0_followLaw_1 fl_X0_15 rfl (by decide) ?_
  refine w_aload_n dX0_followLaw_4 rfl ?_
  refine w_getr 3 0 dX0_followLaw_5 fl_X0_9 rfl (by decide) ?_
  refine w_getr 4 0 dX0_followLaw_8 fl_X0_19 rfl (by decide) ?_
  refine w_callV (d := d + 4) (S := []) [aR 4 0] dX0_followLaw_11 ml_X0_24 ok_X1_copyFrom vi_X1_copyFrom rfl rfl (by decide) rfl (Nat.le_of_ble_eq_true rfl) ?_
  refine c_X1_copyFrom (d := (d + 4)) 5 0 (by decide) (by decide) (by first | assumption | omega | decide) (by first | assumption | omega | decide) ?_
  show fwWP mX0_followLaw (d + 5) 14 [some (aR 9 0), some (aI x), none] [] (fwUc (fwUc h 17 5 (h 17 0)) 4 5 (h 4 0)) Q
  rw [show fwUc (fwUc h 17 5 (h 17 0)) 4 5 (h 4 0) = (fwUc (fwUc h 4 5 (h 4 0)) 17 5 (h 17 0)) from by funext a b; simp only [fwUc]; (repeat' split); all_goals first | rfl | (exfalso; omega)]
  refine w_iconst dX0_followLaw_14 ?_
  refine w_istore_n [some (aR 9 0), some (aI x), some (aI 0)] dX0_followLaw_15 rfl (by decide) ?_
  have lp16 : ∀ c : Nat, c ≤ 60 → ∀ (y16  : Int) (hh16 : fwH), y16 = (c : Int) → (∃ A B : Nat → Int, hh16 = (fwUc (fwUc (fwUc (fwUc h 4 5 (h 4 0)) 17 5 (mLw h c)) 19 0 A) 20 0 B)) → (mFst (mGoB h x) c = c) → fwWP mX0_followLaw (d + 5) 16 [some (aR 9 0), some (aI x), some (aI y16)] [] hh16 Q := by
    refine fw_up (fun c hc16 ih16 => ?_)
    intro y16  hh16 ey16 eh16 iv16_0
    subst ey16
    obtain ⟨A_16, B_16, eh16⟩ := eh16
    subst eh16
    have hH1 : ∀ q : Nat, q < 10 → 0 ≤ mLw h c q ∧ mLw h c q ≤ 999 := mLowN_rng (by omega) (fun q hq => ⟨(g8 q hq).1, hM q hq⟩) c
    have hH2 : ∀ q : Nat, q < 10 → 0 ≤ mLw h c q ∧ mLw h c q ≤ 1000 := fun q hq => by have := hH1 q hq; omega
    have hG5 := gOk_tr hG hH2 A_16 B_16
    have hM5 : ∀ q : Nat, q < 10 → mLw h c q ≤ 999 := fun q hq => (hH1 q hq).2
    show fwWP mX0_followLaw (d + 5) 16 [some (aR 9 0), some (aI x), some (aI (c : Int))] [] (fwUc (fwUc (fwUc (fwUc h 4 5 (h 4 0)) 17 5 (mLw h c)) 19 0 A_16) 20 0 B_16) Q
    refine w_iload_n dX0_followLaw_16 rfl ?_
    refine w_bipush dX0_followLaw_17 rfl ?_
    refine w_icmp_ge 48 dX0_followLaw_19 (by decide) (by omega) (by omega) (fun c19 => ?_) (fun c19 => ?_)
    · refine w_bipush dX0_followLaw_48 rfl ?_
      have ec : c = 60 := by omega
      subst ec
      have k9 := k A_16 B_16
      rw [iv16_0] at k9
      exact w_iret dX0_followLaw_50 rfl k9
    · refine w_aload_n dX0_followLaw_22 rfl ?_
      refine w_callV (d := d + 4) (S := []) [] dX0_followLaw_23 ml_X0_55 ok_X0_namesOnTrial vi_X0_namesOnTrial rfl rfl (by decide) rfl (Nat.le_of_ble_eq_true rfl) ?_
      refine c_X0_namesOnTrial (d := d) (by first | assumption | omega | decide) (by first | assumption | omega | decide) (show 1 ≤ ((h 4 0) 1) by first | assumption | omega | decide) (by first | assumption | omega | decide) ?_
      intro A2 B3
      show fwWP mX0_followLaw (d + 5) 26 [some (aR 9 0), some (aI x), some (aI (c : Int))] [aI (mNT h (mLw h c))] (fwUc (fwUc (fwUc (fwUc (fwUc (fwUc h 4 5 (h 4 0)) 17 5 (mLw h c)) 19 0 A_16) 20 0 B_16) 19 0 A2) 20 0 B3) Q
      rw [show fwUc (fwUc (fwUc (fwUc (fwUc (fwUc h 4 5 (h 4 0)) 17 5 (mLw h c)) 19 0 A_16) 20 0 B_16) 19 0 A2) 20 0 B3 = (fwUc (fwUc (fwUc (fwUc h 4 5 (h 4 0)) 17 5 (mLw h c)) 19 0 A2) 20 0 B3) from by funext a b; simp only [fwUc]; (repeat' split); all_goals first | rfl | (exfalso; omega)]
      have hnr : 0 ≤ mNT h (mLw h c) ∧ mNT h (mLw h c) ≤ 792 := mNames_r2 hP _
      refine w_iload_n dX0_followLaw_26 rfl ?_
      refine w_icmp_lt 40 dX0_followLaw_27 (by decide) (by omega) (by omega) (fun cn => ?_) (fun cn => ?_)
      · refine w_iload_n dX0_followLaw_40 rfl ?_
        have est := mFst_stop iv16_0 (show ¬ mGoB h x c = true from (fun q => by have := (of_decide_eq_true q).1; omega)) (60 - c)
        rw [show c + (60 - c) = 60 by omega] at est
        have k9 := k A2 B3
        rw [est] at k9
        exact w_iret dX0_followLaw_41 rfl k9
      · refine w_aload_n dX0_followLaw_30 rfl ?_
        refine w_getr 4 5 dX0_followLaw_31 fl_X0_15 rfl (by decide) ?_
        refine w_callV (d := d + 4) (S := []) [] dX0_followLaw_34 ml_X0_30 ok_X1_lower vi_X1_lower rfl rfl (by decide) rfl (Nat.le_of_ble_eq_true rfl) ?_
        refine c_X1_lower (d := (d + 2)) 5 (by decide) (by first | assumption | omega | decide) ?_
        show fwWP mX0_followLaw (d + 5) 37 [some (aR 9 0), some (aI x), some (aI (c : Int))] [aI (fwB (0 < ((h 4 0) 1).toNat ∧ (mLw h c) (mTop (mLw h c) ((h 4 0) 4) ((h 4 0) 1).toNat).toNat ≠ 0))] (fwUc (fwUc (fwUc (fwUc (fwUc h 4 5 (h 4 0)) 17 5 (mLw h c)) 19 0 A2) 20 0 B3) 17 5 (mLow ((h 4 0) 1).toNat (mLw h c) ((h 4 0) 4))) Q
        rw [show fwUc (fwUc (fwUc (fwUc (fwUc h 4 5 (h 4 0)) 17 5 (mLw h c)) 19 0 A2) 20 0 B3) 17 5 (mLow ((h 4 0) 1).toNat (mLw h c) ((h 4 0) 4)) = (fwUc (fwUc (fwUc (fwUc h 4 5 (h 4 0)) 17 5 (mLow ((h 4 0) 1).toNat (mLw h c) ((h 4 0) 4))) 19 0 A2) 20 0 B3) from by funext a b; simp only [fwUc]; (repeat' split); all_goals first | rfl | (exfalso; omega)]
        refine w_ifB_ne 42 dX0_followLaw_37 (by decide) (fun cl => ?_) (fun cl => ?_)
        · have hgo := mFst_go iv16_0 (show mGoB h x c = true from decide_eq_true ⟨by omega, cl⟩)
          refine w_iinc [some (aR 9 0), some (aI x), some (aI ((c : Int) + 1))] dX0_followLaw_42 rfl rfl (by decide) ?_
          refine w_goto 16 dX0_followLaw_45 (by decide) ?_
          refine ih16 (by omega) _ _ ?_ ?_ ?_
          · exact (by omega)
          · exact ⟨_, _, rfl⟩
          · exact hgo
        · refine w_iload_n dX0_followLaw_40 rfl ?_
          have est := mFst_stop iv16_0 (show ¬ mGoB h x c = true from (fun q => cl (of_decide_eq_true q).2)) (60 - c)
          rw [show c + (60 - c) = 60 by omega] at est
          rw [show mLow (h 4 0 1).toNat (mLw h c) (h 4 0 4) = mLw h c from mLw_stuck cl]
          have k9 := k A2 B3
          rw [est] at k9
          exact w_iret dX0_followLaw_41 rfl k9
  refine lp16 0 (Nat.zero_le _) _ _ ?_ ?_ ?_
  · exact (by omega)
  · exact ⟨h 19 0, h 20 0, (fwAB h (h 17 0)).symm⟩
  · exact rfl
def mLeast (h : fwH) : Nat → Int
  | 0 => 999
  | k + 1 => min (mLeast h k) (mNT h (mLw h k))
theorem mLeast_rng {h : fwH} (hP : pOk h 0) : ∀ k, 0 ≤ mLeast h k ∧ mLeast h k ≤ 999 := by
  intro k
  induction k with
  | zero => simp [mLeast]
  | succ k ih =>
    have : 0 ≤ mNT h (mLw h k) ∧ mNT h (mLw h k) ≤ 792 := mNames_r2 hP _
    rw [mLeast]
    omega
def mGrt (h : fwH) (n : Nat) : Int := if mFst (mGoB h 1) n = n then mLeast h n else -1
set_option maxRecDepth 100000 in
set_option maxHeartbeats 4000000 in
theorem c_X0_greatestLaw {d : Nat} {h : fwH} {Q : Option fwV → fwH → Prop} (n : Nat) (hP : pOk h 0) (hG : gOk h 0) (hn : 1 ≤ h 4 0 1) (hM : ∀ c : Nat, c < 10 → h 17 0 c ≤ 999) (hnn : n ≤ 60) (k : ∀ H A B, Q (some (aI (mGrt h n))) (fwUc (fwUc (fwUc (fwUc h 4 5 (h 4 0)) 17 5 (H)) 19 0 A) 20 0 B)) : fwCt mX0_greatestLaw (d + 5) [aR 9 0, aI (n : Int)] h Q := by
  refine fwCt_of [some (aR 9 0), some (aI (n : Int)), none, none, none] rfl rfl rfl ?_
  obtain ⟨⟨g1, g2⟩, ⟨g3, g4⟩, ⟨g5, g6⟩, g7, g8⟩ := id hG
  have hpz := hP.1
  refine w_aload_n dX0_greatestLaw_0 rfl ?_
  refine w_getr 4 5 dX0_greatestLaw_1 fl_X0_15 rfl (by decide) ?_
  refine w_aload_n dX0_greatestLaw_4 rfl ?_
  refine w_getr 3 0 dX0_greatestLaw_5 fl_X0_9 rfl (by decide) ?_
  refine w_getr 4 0 dX0_greatestLaw_8 fl_X0_19 rfl (by decide) ?_
  refine w_callV (d := d + 4) (S := []) [aR 4 0] dX0_greatestLaw_11 ml_X0_24 ok_X1_copyFrom vi_X1_copyFrom rfl rfl (by decide) rfl (Nat.le_of_ble_eq_true rfl) ?_
  refine c_X1_copyFrom (d := (d + 4)) 5 0 (by decide) (by decide) (by first | assumption | omega | decide) (by first | assumption | omega | decide) ?_
  show fwWP mX0_greatestLaw (d + 5) 14 [some (aR 9 0), some (aI (n : Int)), none, none, none] [] (fwUc (fwUc h 17 5 (h 17 0)) 4 5 (h 4 0)) Q
  rw [show fwUc (fwUc h 17 5 (h 17 0)) 4 5 (h 4 0) = (fwUc (fwUc h 4 5 (h 4 0)) 17 5 (h 17 0)) from by funext a b; simp only [fwUc]; (repeat' split); all_goals first | rfl | (exfalso; omega)]
  refine w_sipush dX0_greatestLaw_14 rfl ?_
  refine w_istore_n [some (aR 9 0), some (aI (n : Int)), some (aI 999), none, none] dX0_greatestLaw_17 rfl (by decide) ?_
  refine w_iconst dX0_greatestLaw_18 ?_
  refine w_istore_n [some (aR 9 0), some (aI (n : Int)), some (aI 999), some (aI 0), none] dX0_greatestLaw_19 rfl (by decide) ?_
  have lp20 : ∀ c : Nat, c ≤ n → ∀ (y20 le : Int) (hh20 : fwH), y20 = (c : Int) → le = mLeast h c → (∃ A B : Nat → Int, hh20 = (fwUc (fwUc (fwUc (fwUc h 4 5 (h 4 0)) 17 5 (mLw h c)) 19 0 A) 20 0 B)) → (mFst (mGoB h 1) c = c) → fwWP mX0_greatestLaw (d + 5) 20 [some (aR 9 0), some (aI (n : Int)), some (aI le), some (aI y20), none] [] hh20 Q := by
    refine fw_up (fun c hc20 ih20 => ?_)
    intro y20 le hh20 ey20 e_le eh20 iv20_0
    subst ey20
    subst e_le
    obtain ⟨A_20, B_20, eh20⟩ := eh20
    subst eh20
    have hH1 : ∀ q : Nat, q < 10 → 0 ≤ mLw h c q ∧ mLw h c q ≤ 999 := mLowN_rng (by omega) (fun q hq => ⟨(g8 q hq).1, hM q hq⟩) c
    have hH2 : ∀ q : Nat, q < 10 → 0 ≤ mLw h c q ∧ mLw h c q ≤ 1000 := fun q hq => by have := hH1 q hq; omega
    have hG5 := gOk_tr hG hH2 A_20 B_20
    have hM5 : ∀ q : Nat, q < 10 → mLw h c q ≤ 999 := fun q hq => (hH1 q hq).2
    show fwWP mX0_greatestLaw (d + 5) 20 [some (aR 9 0), some (aI (n : Int)), some (aI (mLeast h c)), some (aI (c : Int)), none] [] (fwUc (fwUc (fwUc (fwUc h 4 5 (h 4 0)) 17 5 (mLw h c)) 19 0 A_20) 20 0 B_20) Q
    refine w_iload_n dX0_greatestLaw_20 rfl ?_
    refine w_iload_n dX0_greatestLaw_21 rfl ?_
    refine w_icmp_ge 62 dX0_greatestLaw_22 (by decide) (by omega) (by omega) (fun c22 => ?_) (fun c22 => ?_)
    · have ec20 : n = c := by omega
      subst ec20
      refine w_iload_n dX0_greatestLaw_62 rfl ?_
      exact w_iretE dX0_greatestLaw_63 rfl (by rw [mGrt, if_pos iv20_0]) (k _ _ _)
    · refine w_aload_n dX0_greatestLaw_25 rfl ?_
      refine w_callV (d := d + 4) (S := []) [] dX0_greatestLaw_26 ml_X0_55 ok_X0_namesOnTrial vi_X0_namesOnTrial rfl rfl (by decide) rfl (Nat.le_of_ble_eq_true rfl) ?_
      refine c_X0_namesOnTrial (d := d) (by first | assumption | omega | decide) (by first | assumption | omega | decide) (show 1 ≤ ((h 4 0) 1) by first | assumption | omega | decide) (by first | assumption | omega | decide) ?_
      intro A2 B3
      show fwWP mX0_greatestLaw (d + 5) 29 [some (aR 9 0), some (aI (n : Int)), some (aI (mLeast h c)), some (aI (c : Int)), none] [aI (mNT h (mLw h c))] (fwUc (fwUc (fwUc (fwUc (fwUc (fwUc h 4 5 (h 4 0)) 17 5 (mLw h c)) 19 0 A_20) 20 0 B_20) 19 0 A2) 20 0 B3) Q
      rw [show fwUc (fwUc (fwUc (fwUc (fwUc (fwUc h 4 5 (h 4 0)) 17 5 (mLw h c)) 19 0 A_20) 20 0 B_20) 19 0 A2) 20 0 B3 = (fwUc (fwUc (fwUc (fwUc h 4 5 (h 4 0)) 17 5 (mLw h c)) 19 0 A2) 20 0 B3) from by funext a b; simp only [fwUc]; (repeat' split); all_goals first | rfl | (exfalso; omega)]
      have hnr : 0 ≤ mNT h (mLw h c) ∧ mNT h (mLw h c) ≤ 792 := mNames_r2 hP _
      have hlr := mLeast_rng hP c
      refine w_istore [some (aR 9 0), some (aI (n : Int)), some (aI (mLeast h c)), some (aI (c : Int)), some (aI (mNT h (mLw h c)))] dX0_greatestLaw_29 rfl (by decide) ?_
      refine w_iload dX0_greatestLaw_31 rfl ?_
      refine w_iconst dX0_greatestLaw_33 ?_
      refine w_icmp_lt 47 dX0_greatestLaw_34 (by decide) (by omega) (by omega) (fun cn => ?_) (fun cn => ?_)
      · refine w_iconst dX0_greatestLaw_47 ?_
        have est := mFst_stop iv20_0 (show ¬ mGoB h 1 c = true from (fun q => by have := (of_decide_eq_true q).1; omega)) (n - c)
        rw [show c + (n - c) = n by omega] at est
        exact w_iretE dX0_greatestLaw_48 rfl (by rw [mGrt, if_neg (by omega)]) (k _ _ _)
      · refine w_aload_n dX0_greatestLaw_37 rfl ?_
        refine w_getr 4 5 dX0_greatestLaw_38 fl_X0_15 rfl (by decide) ?_
        refine w_callV (d := d + 4) (S := []) [] dX0_greatestLaw_41 ml_X0_30 ok_X1_lower vi_X1_lower rfl rfl (by decide) rfl (Nat.le_of_ble_eq_true rfl) ?_
        refine c_X1_lower (d := (d + 2)) 5 (by decide) (by first | assumption | omega | decide) ?_
        show fwWP mX0_greatestLaw (d + 5) 44 [some (aR 9 0), some (aI (n : Int)), some (aI (mLeast h c)), some (aI (c : Int)), some (aI (mNT h (mLw h c)))] [aI (fwB (0 < ((h 4 0) 1).toNat ∧ (mLw h c) (mTop (mLw h c) ((h 4 0) 4) ((h 4 0) 1).toNat).toNat ≠ 0))] (fwUc (fwUc (fwUc (fwUc (fwUc h 4 5 (h 4 0)) 17 5 (mLw h c)) 19 0 A2) 20 0 B3) 17 5 (mLow ((h 4 0) 1).toNat (mLw h c) ((h 4 0) 4))) Q
        rw [show fwUc (fwUc (fwUc (fwUc (fwUc h 4 5 (h 4 0)) 17 5 (mLw h c)) 19 0 A2) 20 0 B3) 17 5 (mLow ((h 4 0) 1).toNat (mLw h c) ((h 4 0) 4)) = (fwUc (fwUc (fwUc (fwUc h 4 5 (h 4 0)) 17 5 (mLow ((h 4 0) 1).toNat (mLw h c) ((h 4 0) 4))) 19 0 A2) 20 0 B3) from by funext a b; simp only [fwUc]; (repeat' split); all_goals first | rfl | (exfalso; omega)]
        refine w_ifB_ne 49 dX0_greatestLaw_44 (by decide) (fun cl => ?_) (fun cl => ?_)
        · have hgo := mFst_go iv20_0 (show mGoB h 1 c = true from decide_eq_true ⟨by omega, cl⟩)
          refine w_iload_n dX0_greatestLaw_49 rfl ?_
          refine w_iload dX0_greatestLaw_50 rfl ?_
          refine w_min (d := d + 4) (S := []) dX0_greatestLaw_52 ml_X0_59 (by omega) (by omega) (Nat.le_of_ble_eq_true rfl) ?_
          refine w_istore_n [some (aR 9 0), some (aI (n : Int)), some (aI (min (mLeast h c) (mNT h (mLw h c)))), some (aI (c : Int)), some (aI (mNT h (mLw h c)))] dX0_greatestLaw_55 rfl (by decide) ?_
          refine w_iinc [some (aR 9 0), some (aI (n : Int)), some (aI (min (mLeast h c) (mNT h (mLw h c)))), some (aI ((c : Int) + 1)), some (aI (mNT h (mLw h c)))] dX0_greatestLaw_56 rfl rfl (by decide) ?_
          refine w_goto 20 dX0_greatestLaw_59 (by decide) ?_
          refine w_drop [4] [some (aR 9 0), some (aI (n : Int)), some (aI (min (mLeast h c) (mNT h (mLw h c)))), some (aI ((c : Int) + 1)), none] rfl ?_
          refine ih20 (by omega) _ _ _ ?_ ?_ ?_ ?_
          · exact (by omega)
          · exact rfl
          · exact ⟨_, _, rfl⟩
          · exact hgo
        · refine w_iconst dX0_greatestLaw_47 ?_
          have est := mFst_stop iv20_0 (show ¬ mGoB h 1 c = true from (fun q => cl (of_decide_eq_true q).2)) (n - c)
          rw [show c + (n - c) = n by omega] at est
          exact w_iretE dX0_greatestLaw_48 rfl (by rw [mGrt, if_neg (by omega)]) (k _ _ _)
  refine lp20 0 (Nat.zero_le _) _ _ _ ?_ ?_ ?_ ?_
  · exact (by omega)
  · exact rfl
  · exact ⟨h 19 0, h 20 0, (fwAB h (h 17 0)).symm⟩
  · exact rfl
theorem c_X1_changeN {d : Nat} {h : fwH} {Q : Option fwV → fwH → Prop} (i : Nat) (x y : Int) (hi : i < 6) (hG : gOk h i) (hx : x = -1 ∨ (0 ≤ x ∧ x < h 4 i 1)) (k : Q none (fwUc h 17 i (if x = -1 then h 17 i else fwFu (h 17 i) x.toNat (h 17 i x.toNat + y)))) : fwCt mX1_change (d + 1) [aR 4 i, aI x, aI y] h Q := by
  have h2 := hG.1
  refine c_X1_change i x y hi hG (by omega) ?_
  by_cases e : x = -1
  · rw [if_pos e, fwUc_self] at k
    rw [if_neg (by omega)]
    exact k
  · rw [if_neg e] at k
    rw [if_pos (by omega), fwUp_fu]
    exact k
def mRs (H : Nat → Int) (x : Int) : Nat → Int := if x = -1 then H else fwFu H x.toNat (H x.toNat + 1)
theorem mStay_rng {n : Int} (H : Nat → Int) {rs x : Int} (hn : 0 ≤ n ∧ n ≤ 10) (hx : 0 ≤ x ∧ x < n) : mStay n H rs x = -1 ∨ ((0 ≤ mStay n H rs x ∧ mStay n H rs x < n) ∧ H (mStay n H rs x).toNat < 99) := by
  unfold mStay
  have h1 := mDesc_rng H (sl := rs - 1) hn 10 x hx
  split
  · exact Or.inl rfl
  · rename_i q
    right
    unfold hOf at q
    rw [if_pos h1] at q
    omega
theorem mRs_rng {n : Int} {H : Nat → Int} {rs x b : Int} (hn : 0 ≤ n ∧ n ≤ 10) (hx : 0 ≤ x ∧ x < n) (hb : 99 ≤ b) (hH : ∀ c : Nat, c < 10 → 0 ≤ H c ∧ H c ≤ b) : ∀ c : Nat, c < 10 → 0 ≤ mRs H (mStay n H rs x) c ∧ mRs H (mStay n H rs x) c ≤ b := by
  intro c hc
  have h1 := mStay_rng H (rs := rs) hn hx
  have h2 := hH c hc
  unfold mRs
  split
  · exact h2
  · have h3 := hH (mStay n H rs x).toNat (by omega)
    unfold fwFu
    split <;> omega
def mNx (x : Int) : Int := fwLand (1103515245 * x + 12345) 2147483647
def mWon (h : fwH) (x : Int) : Int := fwShl 1 (fwLrem (fwLdiv x 65536) (h 5 0 3))
def mDrOk (h : fwH) (x : Int) (H : Nat → Int) : Bool := decide (mEno (h 18 0) (h 5 0 3).toNat (h 3 0 4) (fwOr (mGers (h 4 0 1) H (h 4 0 2) (h 4 0 4) (h 18 0) (h 5 0 3).toNat (-1)) (mWon h x)) 0 ∧ mCan h H)
def mDrH (h : fwH) (H : Nat → Int) : Nat → Int := mRs (mLow (h 4 0 1).toNat H (h 4 0 4)) (mStay (h 4 0 1) (mLow (h 4 0 1).toNat H (h 4 0 4)) (h 4 0 3) (h 3 0 5))
def mDr (h : fwH) (x0 : Int) : Nat → Int × Int × (Nat → Int)
  | 0 => (x0, 0, h 17 0)
  | m + 1 => if mDrOk h (mNx (mDr h x0 m).1) (mDr h x0 m).2.2 = true then (mNx (mDr h x0 m).1, (mDr h x0 m).2.1 + 1, mDrH h (mDr h x0 m).2.2) else (mNx (mDr h x0 m).1, (mDr h x0 m).2.1, (mDr h x0 m).2.2)
theorem mDr_rng {h : fwH} {x0 : Int} (hn : 0 ≤ h 4 0 1 ∧ h 4 0 1 ≤ 10) (hx : 0 ≤ h 3 0 5 ∧ h 3 0 5 < h 4 0 1) (hH : ∀ c : Nat, c < 10 → 0 ≤ h 17 0 c ∧ h 17 0 c ≤ 999) : ∀ m : Nat, ∀ c : Nat, c < 10 → 0 ≤ (mDr h x0 m).2.2 c ∧ (mDr h x0 m).2.2 c ≤ 999 := by
  intro m
  induction m with
  | zero => exact hH
  | succ m ih =>
    rw [mDr]
    split
    · exact mRs_rng hn hx (by omega) (mLow_rng (by omega) ih)
    · exact ih
/-- what is drawn: FEET, and the heights then -/
def mDrawn (h : fwH) (x0 : Int) (m : Nat) : Int × (Nat → Int) := if h 5 0 3 < 1 then (0, h 17 0) else (mDr h x0 m).2
theorem mDr_n (h : fwH) (x : Int) : ∀ m : Nat, 0 ≤ (mDr h x m).2.1 ∧ (mDr h x m).2.1 ≤ m := by
  intro m
  induction m with
  | zero => simp [mDr]
  | succ m ih =>
    rw [mDr]
    split
    · dsimp only; omega
    · dsimp only; omega
theorem mDrawn_rng (h : fwH) (x : Int) (u : Nat) : 0 ≤ (mDrawn h x u).1 ∧ (mDrawn h x u).1 ≤ u := by
  unfold mDrawn
  split
  · dsimp only; omega
  · exact mDr_n h x u
theorem mDr_mono (h : fwH) (x : Int) (m : Nat) : ∀ k : Nat, (mDr h x m).2.1 ≤ (mDr h x (m + k)).2.1 := by
  intro k
  induction k with
  | zero => exact Int.le_refl _
  | succ k ih =>
    rw [← Nat.add_assoc, mDr]
    split
    · dsimp only; omega
    · dsimp only; omega
theorem mDrawn_mono (h : fwH) (x : Int) {u m : Nat} (hu : u ≤ m) : (mDrawn h x u).1 ≤ (mDrawn h x m).1 := by
  unfold mDrawn
  split
  · exact Int.le_refl _
  · have := mDr_mono h x u (m - u)
    rw [show u + (m - u) = m by omega] at this
    exact this
set_option maxRecDepth 100000 in
set_option maxHeartbeats 4000000 in
theorem c_X0_drawMonthsU {d : Nat} {h : fwH} {Q : Option fwV → fwH → Prop} (x : Int) (m : Nat) (z : Int) (hP : pOk h 0) (hG : gOk h 0) (hn : 1 ≤ h 4 0 1) (hM : ∀ c : Nat, c < 10 → h 17 0 c ≤ 999) (hlw : 0 ≤ h 3 0 4 ∧ h 3 0 4 ≤ 999) (hhc : 0 ≤ h 3 0 5 ∧ h 3 0 5 < h 4 0 1) (hx : -2147483648 ≤ x ∧ x < 2147483648) (hmm : m ≤ 1000) (hz : -2147483648 ≤ z ∧ z < 2147483648) (k : ∀ (u : Nat) A B, u ≤ m → (u = m ∨ z ≤ (mDrawn h x u).1) → Q (some (aI ((mDrawn h x u).1))) (fwUc (fwUc (fwUc (fwUc h 4 5 (h 4 0)) 17 5 ((mDrawn h x u).2)) 19 0 A) 20 0 B)) : fwCt mX0_drawMonths (d + 4) [aR 9 0, aI x, aI (m : Int), aI z] h Q := by
  refine fwCt_of [some (aR 9 0), some (aI x), some (aI (m : Int)), some (aI z), none, none, none, none, none, none, none] rfl rfl rfl ?_
  obtain ⟨⟨g1, g2⟩, ⟨g3, g4⟩, ⟨g5, g6⟩, g7, g8⟩ := id hG
  have hpz := hP.1
  refine w_aload_n dX0_drawMonths_0 rfl ?_
  refine w_getr 4 5 dX0_drawMonths_1 fl_X0_15 rfl (by decide) ?_
  refine w_aload_n dX0_drawMonths_4 rfl ?_
  refine w_getr 3 0 dX0_drawMonths_5 fl_X0_9 rfl (by decide) ?_
  refine w_getr 4 0 dX0_drawMonths_8 fl_X0_19 rfl (by decide) ?_
  refine w_callV (d := d + 3) (S := []) [aR 4 0] dX0_drawMonths_11 ml_X0_24 ok_X1_copyFrom vi_X1_copyFrom rfl rfl (by decide) rfl (Nat.le_of_ble_eq_true rfl) ?_
  refine c_X1_copyFrom (d := (d + 3)) 5 0 (by decide) (by decide) (by first | assumption | omega | decide) (by first | assumption | omega | decide) ?_
  show fwWP mX0_drawMonths (d + 4) 14 [some (aR 9 0), some (aI x), some (aI (m : Int)), some (aI z), none, none, none, none, none, none, none] [] (fwUc (fwUc h 17 5 (h 17 0)) 4 5 (h 4 0)) Q
  rw [show fwUc (fwUc h 17 5 (h 17 0)) 4 5 (h 4 0) = (fwUc (fwUc h 4 5 (h 4 0)) 17 5 (h 17 0)) from by funext a b; simp only [fwUc]; (repeat' split); all_goals first | rfl | (exfalso; omega)]
  refine w_aload_n dX0_drawMonths_14 rfl ?_
  refine w_getr 3 0 dX0_drawMonths_15 fl_X0_9 rfl (by decide) ?_
  refine w_getr 5 0 dX0_drawMonths_18 fl_X0_34 rfl (by decide) ?_
  refine w_getiE (v := h 5 0 3) dX0_drawMonths_21 fl_X0_64 rfl (by decide) (by first | rfl | simp [fwUp, fwUc]) ?_
  refine w_istore [some (aR 9 0), some (aI x), some (aI (m : Int)), some (aI z), some (aI (h 5 0 3)), none, none, none, none, none, none] dX0_drawMonths_24 rfl (by decide) ?_
  refine w_iload dX0_drawMonths_26 rfl ?_
  refine w_iconst dX0_drawMonths_28 ?_
  refine w_icmp_ge 34 dX0_drawMonths_29 (by decide) (by omega) (by omega) (fun c29 => ?_) (fun c29 => ?_)
  · refine w_iload_n dX0_drawMonths_34 rfl ?_
    refine w_i2l dX0_drawMonths_35 (by omega) ?_
    refine w_lstore [some (aR 9 0), some (aI x), some (aI (m : Int)), some (aI z), some (aI (h 5 0 3)), some (aJ x), none, none, none, none, none] dX0_drawMonths_36 rfl (by decide) ?_
    refine w_iconst dX0_drawMonths_38 ?_
    refine w_istore [some (aR 9 0), some (aI x), some (aI (m : Int)), some (aI z), some (aI (h 5 0 3)), some (aJ x), none, some (aI 0), none, none, none] dX0_drawMonths_39 rfl (by decide) ?_
    have hG5 : gOk (fwUc (fwUc h 4 5 (h 4 0)) 17 5 (h 17 0)) 5 := ⟨hG.1, hG.2.1, hG.2.2.1, hG.2.2.2.1, hG.2.2.2.2⟩
    refine w_aload_n dX0_drawMonths_41 rfl ?_
    refine w_getr 3 0 dX0_drawMonths_42 fl_X0_9 rfl (by decide) ?_
    refine w_getr 5 0 dX0_drawMonths_45 fl_X0_34 rfl (by decide) ?_
    refine w_aload_n dX0_drawMonths_48 rfl ?_
    refine w_getr 4 5 dX0_drawMonths_49 fl_X0_15 rfl (by decide) ?_
    refine w_iconst dX0_drawMonths_52 ?_
    refine w_callV (d := d + 3) (S := []) [aR 4 5, aI (-1)] dX0_drawMonths_53 ml_X0_44 ok_X3_gainersBy vi_X3_gainersBy rfl rfl (by decide) rfl (Nat.le_of_ble_eq_true rfl) ?_
    refine c_willing5 (d := d) (by first | assumption | omega | decide) (by first | assumption | omega | decide) (show 1 ≤ ((h 4 0) 1) by first | assumption | omega | decide) (by first | assumption | omega | decide) ?_
    intro A2 B3
    show fwWP mX0_drawMonths (d + 4) 56 [some (aR 9 0), some (aI x), some (aI (m : Int)), some (aI z), some (aI (h 5 0 3)), some (aJ x), none, some (aI 0), none, none, none] [aI (mGers (h 4 0 1) (h 17 0) (h 4 0 2) (h 4 0 4) (h 18 0) (h 5 0 3).toNat (-1))] (fwUc (fwUc (fwUc (fwUc h 4 5 (h 4 0)) 17 5 (h 17 0)) 19 0 A2) 20 0 B3) Q
    refine w_istore [some (aR 9 0), some (aI x), some (aI (m : Int)), some (aI z), some (aI (h 5 0 3)), some (aJ x), none, some (aI 0), some (aI (mGers (h 4 0 1) (h 17 0) (h 4 0 2) (h 4 0 4) (h 18 0) (h 5 0 3).toNat (-1))), none, none] dX0_drawMonths_56 rfl (by decide) ?_
    refine w_iconst dX0_drawMonths_58 ?_
    refine w_istore [some (aR 9 0), some (aI x), some (aI (m : Int)), some (aI z), some (aI (h 5 0 3)), some (aJ x), none, some (aI 0), some (aI (mGers (h 4 0 1) (h 17 0) (h 4 0 2) (h 4 0 4) (h 18 0) (h 5 0 3).toNat (-1))), some (aI 0), none] dX0_drawMonths_59 rfl (by decide) ?_
    have lp61 : ∀ c : Nat, c ≤ m → ∀ (y61 xx fe wi : Int) (hh61 : fwH), y61 = (c : Int) → xx = (mDr h x c).1 → fe = (mDr h x c).2.1 → wi = mGers (h 4 0 1) ((mDr h x c).2.2) (h 4 0 2) (h 4 0 4) (h 18 0) (h 5 0 3).toNat (-1) → (∃ A B : Nat → Int, hh61 = (fwUc (fwUc (fwUc (fwUc h 4 5 (h 4 0)) 17 5 ((mDr h x c).2.2)) 19 0 A) 20 0 B)) → fwWP mX0_drawMonths (d + 4) 61 [some (aR 9 0), some (aI x), some (aI (m : Int)), some (aI z), some (aI (h 5 0 3)), some (aJ xx), none, some (aI fe), some (aI wi), some (aI y61), none] [] hh61 Q := by
      refine fw_up (fun c hc61 ih61 => ?_)
      intro y61 xx fe wi hh61 ey61 e_xx e_fe e_wi eh61
      subst ey61
      subst e_xx
      subst e_fe
      subst e_wi
      obtain ⟨A_61, B_61, eh61⟩ := eh61
      subst eh61
      have hH1 : ∀ q : Nat, q < 10 → 0 ≤ (mDr h x c).2.2 q ∧ (mDr h x c).2.2 q ≤ 999 := mDr_rng ⟨g1, g2⟩ hhc (fun q hq => ⟨(g8 q hq).1, hM q hq⟩) c
      have hH2 : ∀ q : Nat, q < 10 → 0 ≤ (mDr h x c).2.2 q ∧ (mDr h x c).2.2 q ≤ 1000 := fun q hq => by have := hH1 q hq; omega
      have hG5 := gOk_tr hG hH2 A_61 B_61
      have hdn := mDr_n h x c
      show fwWP mX0_drawMonths (d + 4) 61 [some (aR 9 0), some (aI x), some (aI (m : Int)), some (aI z), some (aI (h 5 0 3)), some (aJ ((mDr h x c).1)), none, some (aI ((mDr h x c).2.1)), some (aI (mGers (h 4 0 1) ((mDr h x c).2.2) (h 4 0 2) (h 4 0 4) (h 18 0) (h 5 0 3).toNat (-1))), some (aI (c : Int)), none] [] (fwUc (fwUc (fwUc (fwUc h 4 5 (h 4 0)) 17 5 ((mDr h x c).2.2)) 19 0 A_61) 20 0 B_61) Q
      refine w_iload dX0_drawMonths_61 rfl ?_
      refine w_iload_n dX0_drawMonths_63 rfl ?_
      refine w_icmp_ge 178 dX0_drawMonths_64 (by decide) (by omega) (by omega) (fun c64 => ?_) (fun c64 => ?_)
      · refine w_iload dX0_drawMonths_178 rfl ?_
        have e9 : mDrawn h x c = (mDr h x c).2 := by rw [mDrawn, if_neg (by omega)]
        have k9 := k c A_61 B_61 (by omega) (by rw [e9]; omega)
        rw [e9] at k9
        exact w_iret dX0_drawMonths_180 rfl k9
      · refine w_iload dX0_drawMonths_67 rfl ?_
        refine w_iload_n dX0_drawMonths_69 rfl ?_
        refine w_icmp_ge 178 dX0_drawMonths_70 (by decide) (by omega) (by omega) (fun c70 => ?_) (fun c70 => ?_)
        · refine w_iload dX0_drawMonths_178 rfl ?_
          have e9 : mDrawn h x c = (mDr h x c).2 := by rw [mDrawn, if_neg (by omega)]
          have k9 := k c A_61 B_61 (by omega) (by rw [e9]; omega)
          rw [e9] at k9
          exact w_iret dX0_drawMonths_180 rfl k9
        · refine w_ldc2 (n := 1103515245) dX0_drawMonths_73 cs_X0_68 ?_
          refine w_lload dX0_drawMonths_76 rfl ?_
          refine w_lmul dX0_drawMonths_78 ?_
          refine w_ldc2 (n := 12345) dX0_drawMonths_79 cs_X0_70 ?_
          refine w_ladd dX0_drawMonths_82 ?_
          refine w_ldc2 (n := 2147483647) dX0_drawMonths_83 cs_X0_72 ?_
          refine w_land dX0_drawMonths_86 ?_
          refine w_lstore [some (aR 9 0), some (aI x), some (aI (m : Int)), some (aI z), some (aI (h 5 0 3)), some (aJ (fwLand ((1103515245 * ((mDr h x c).1)) + 12345) 2147483647)), none, some (aI ((mDr h x c).2.1)), some (aI (mGers (h 4 0 1) ((mDr h x c).2.2) (h 4 0 2) (h 4 0 4) (h 18 0) (h 5 0 3).toNat (-1))), some (aI (c : Int)), none] dX0_drawMonths_87 rfl (by decide) ?_
          refine w_iconst dX0_drawMonths_89 ?_
          refine w_lload dX0_drawMonths_90 rfl ?_
          refine w_ldc2 (n := 65536) dX0_drawMonths_92 cs_X0_74 ?_
          refine w_ldiv dX0_drawMonths_95 (by omega) (by omega) ?_
          refine w_iload dX0_drawMonths_96 rfl ?_
          refine w_i2l dX0_drawMonths_98 (by omega) ?_
          refine w_lrem dX0_drawMonths_99 (by omega) (by omega) ?_
          refine w_l2i dX0_drawMonths_100 ?_
          refine w_ishl dX0_drawMonths_101 ?_
          refine w_istore [some (aR 9 0), some (aI x), some (aI (m : Int)), some (aI z), some (aI (h 5 0 3)), some (aJ (fwLand ((1103515245 * ((mDr h x c).1)) + 12345) 2147483647)), none, some (aI ((mDr h x c).2.1)), some (aI (mGers (h 4 0 1) ((mDr h x c).2.2) (h 4 0 2) (h 4 0 4) (h 18 0) (h 5 0 3).toNat (-1))), some (aI (c : Int)), some (aI (fwShl 1 (fwLrem (fwLdiv (fwLand ((1103515245 * ((mDr h x c).1)) + 12345) 2147483647) 65536) (h 5 0 3))))] dX0_drawMonths_102 rfl (by decide) ?_
          change fwWP mX0_drawMonths (d + 4) 104 [some (aR 9 0), some (aI x), some (aI (m : Int)), some (aI z), some (aI (h 5 0 3)), some (aJ (mNx (mDr h x c).1)), none, some (aI ((mDr h x c).2.1)), some (aI (mGers (h 4 0 1) ((mDr h x c).2.2) (h 4 0 2) (h 4 0 4) (h 18 0) (h 5 0 3).toNat (-1))), some (aI (c : Int)), some (aI (mWon h (mNx (mDr h x c).1)))] [] (fwUc (fwUc (fwUc (fwUc h 4 5 (h 4 0)) 17 5 ((mDr h x c).2.2)) 19 0 A_61) 20 0 B_61) Q
          refine w_aload_n dX0_drawMonths_104 rfl ?_
          refine w_getr 3 0 dX0_drawMonths_105 fl_X0_9 rfl (by decide) ?_
          refine w_iload dX0_drawMonths_108 rfl ?_
          refine w_iload dX0_drawMonths_110 rfl ?_
          refine w_ior dX0_drawMonths_112 ?_
          refine w_iconst dX0_drawMonths_113 ?_
          refine w_callV (d := d + 3) (S := []) [aI (fwOr (mGers (h 4 0 1) ((mDr h x c).2.2) (h 4 0 2) (h 4 0 4) (h 18 0) (h 5 0 3).toNat (-1)) (mWon h (mNx (mDr h x c).1))), aI 0] dX0_drawMonths_114 ml_X0_76 ok_X2_isEnough vi_X2_isEnough rfl rfl (by decide) rfl (Nat.le_of_ble_eq_true rfl) ?_
          refine c_X2_isEnough (d := (d + 1)) (fwOr (mGers (h 4 0 1) ((mDr h x c).2.2) (h 4 0 2) (h 4 0 4) (h 18 0) (h 5 0 3).toNat (-1)) (mWon h (mNx (mDr h x c).1))) 0 (by first | assumption | omega | decide) (by first | assumption | omega | decide) ?_
          show fwWP mX0_drawMonths (d + 4) 117 [some (aR 9 0), some (aI x), some (aI (m : Int)), some (aI z), some (aI (h 5 0 3)), some (aJ (mNx (mDr h x c).1)), none, some (aI ((mDr h x c).2.1)), some (aI (mGers (h 4 0 1) ((mDr h x c).2.2) (h 4 0 2) (h 4 0 4) (h 18 0) (h 5 0 3).toNat (-1))), some (aI (c : Int)), some (aI (mWon h (mNx (mDr h x c).1)))] [aI (fwB (mEno (h 18 0) (h 5 0 3).toNat (h 3 0 4) (fwOr (mGers (h 4 0 1) ((mDr h x c).2.2) (h 4 0 2) (h 4 0 4) (h 18 0) (h 5 0 3).toNat (-1)) (mWon h (mNx (mDr h x c).1))) 0))] (fwUc (fwUc (fwUc (fwUc h 4 5 (h 4 0)) 17 5 ((mDr h x c).2.2)) 19 0 A_61) 20 0 B_61) Q
          refine w_ifB_eq 172 dX0_drawMonths_117 (by decide) (fun ce => ?_) (fun ce => ?_)
          · refine w_iinc [some (aR 9 0), some (aI x), some (aI (m : Int)), some (aI z), some (aI (h 5 0 3)), some (aJ (mNx (mDr h x c).1)), none, some (aI ((mDr h x c).2.1)), some (aI (mGers (h 4 0 1) ((mDr h x c).2.2) (h 4 0 2) (h 4 0 4) (h 18 0) (h 5 0 3).toNat (-1))), some (aI ((c : Int) + 1)), some (aI (mWon h (mNx (mDr h x c).1)))] dX0_drawMonths_172 rfl rfl (by decide) ?_
            refine w_goto 61 dX0_drawMonths_175 (by decide) ?_
            refine w_drop [10] [some (aR 9 0), some (aI x), some (aI (m : Int)), some (aI z), some (aI (h 5 0 3)), some (aJ (mNx (mDr h x c).1)), none, some (aI ((mDr h x c).2.1)), some (aI (mGers (h 4 0 1) ((mDr h x c).2.2) (h 4 0 2) (h 4 0 4) (h 18 0) (h 5 0 3).toNat (-1))), some (aI ((c : Int) + 1)), none] rfl ?_
            refine ih61 (by omega) _ _ _ _ _ ?_ ?_ ?_ ?_ ?_
            · exact (by omega)
            · exact (by rw [mDr, if_neg (show ¬ mDrOk h (mNx (mDr h x c).1) (mDr h x c).2.2 = true from fun q => ce (of_decide_eq_true q).1)])
            · exact (by rw [mDr, if_neg (show ¬ mDrOk h (mNx (mDr h x c).1) (mDr h x c).2.2 = true from fun q => ce (of_decide_eq_true q).1)])
            · exact (by rw [mDr, if_neg (show ¬ mDrOk h (mNx (mDr h x c).1) (mDr h x c).2.2 = true from fun q => ce (of_decide_eq_true q).1)])
            · exact ⟨_, _, by rw [mDr, if_neg (show ¬ mDrOk h (mNx (mDr h x c).1) (mDr h x c).2.2 = true from fun q => ce (of_decide_eq_true q).1)]⟩
          · refine w_aload_n dX0_drawMonths_120 rfl ?_
            refine w_getr 4 5 dX0_drawMonths_121 fl_X0_15 rfl (by decide) ?_
            refine w_callV (d := d + 3) (S := []) [] dX0_drawMonths_124 ml_X0_30 ok_X1_lower vi_X1_lower rfl rfl (by decide) rfl (Nat.le_of_ble_eq_true rfl) ?_
            refine c_X1_lower (d := (d + 1)) 5 (by decide) (by first | assumption | omega | decide) ?_
            show fwWP mX0_drawMonths (d + 4) 127 [some (aR 9 0), some (aI x), some (aI (m : Int)), some (aI z), some (aI (h 5 0 3)), some (aJ (mNx (mDr h x c).1)), none, some (aI ((mDr h x c).2.1)), some (aI (mGers (h 4 0 1) ((mDr h x c).2.2) (h 4 0 2) (h 4 0 4) (h 18 0) (h 5 0 3).toNat (-1))), some (aI (c : Int)), some (aI (mWon h (mNx (mDr h x c).1)))] [aI (fwB (0 < ((h 4 0) 1).toNat ∧ ((mDr h x c).2.2) (mTop ((mDr h x c).2.2) ((h 4 0) 4) ((h 4 0) 1).toNat).toNat ≠ 0))] (fwUc (fwUc (fwUc (fwUc (fwUc h 4 5 (h 4 0)) 17 5 ((mDr h x c).2.2)) 19 0 A_61) 20 0 B_61) 17 5 (mLow ((h 4 0) 1).toNat ((mDr h x c).2.2) ((h 4 0) 4))) Q
            rw [show fwUc (fwUc (fwUc (fwUc (fwUc h 4 5 (h 4 0)) 17 5 ((mDr h x c).2.2)) 19 0 A_61) 20 0 B_61) 17 5 (mLow ((h 4 0) 1).toNat ((mDr h x c).2.2) ((h 4 0) 4)) = (fwUc (fwUc (fwUc (fwUc h 4 5 (h 4 0)) 17 5 (mLow ((h 4 0) 1).toNat ((mDr h x c).2.2) ((h 4 0) 4))) 19 0 A_61) 20 0 B_61) from by funext a b; simp only [fwUc]; (repeat' split); all_goals first | rfl | (exfalso; omega)]
            refine w_ifB_eq 172 dX0_drawMonths_127 (by decide) (fun cl => ?_) (fun cl => ?_)
            · refine w_iinc [some (aR 9 0), some (aI x), some (aI (m : Int)), some (aI z), some (aI (h 5 0 3)), some (aJ (mNx (mDr h x c).1)), none, some (aI ((mDr h x c).2.1)), some (aI (mGers (h 4 0 1) ((mDr h x c).2.2) (h 4 0 2) (h 4 0 4) (h 18 0) (h 5 0 3).toNat (-1))), some (aI ((c : Int) + 1)), some (aI (mWon h (mNx (mDr h x c).1)))] dX0_drawMonths_172 rfl rfl (by decide) ?_
              refine w_goto 61 dX0_drawMonths_175 (by decide) ?_
              refine w_drop [10] [some (aR 9 0), some (aI x), some (aI (m : Int)), some (aI z), some (aI (h 5 0 3)), some (aJ (mNx (mDr h x c).1)), none, some (aI ((mDr h x c).2.1)), some (aI (mGers (h 4 0 1) ((mDr h x c).2.2) (h 4 0 2) (h 4 0 4) (h 18 0) (h 5 0 3).toNat (-1))), some (aI ((c : Int) + 1)), none] rfl ?_
              refine ih61 (by omega) _ _ _ _ _ ?_ ?_ ?_ ?_ ?_
              · exact (by omega)
              · exact (by rw [mDr, if_neg (show ¬ mDrOk h (mNx (mDr h x c).1) (mDr h x c).2.2 = true from fun q => cl (of_decide_eq_true q).2)])
              · exact (by rw [mDr, if_neg (show ¬ mDrOk h (mNx (mDr h x c).1) (mDr h x c).2.2 = true from fun q => cl (of_decide_eq_true q).2)])
              · exact (by rw [mDr, if_neg (show ¬ mDrOk h (mNx (mDr h x c).1) (mDr h x c).2.2 = true from fun q => cl (of_decide_eq_true q).2)])
              · exact ⟨_, _, by rw [mDr, if_neg (show ¬ mDrOk h (mNx (mDr h x c).1) (mDr h x c).2.2 = true from fun q => cl (of_decide_eq_true q).2)]; dsimp only; rw [mLow, if_neg cl]⟩
            · have hL1 : ∀ q : Nat, q < 10 → 0 ≤ (mLow (h 4 0 1).toNat (mDr h x c).2.2 (h 4 0 4)) q ∧ (mLow (h 4 0 1).toNat (mDr h x c).2.2 (h 4 0 4)) q ≤ 999 := mLow_rng (by omega) hH1
              have hL2 : ∀ q : Nat, q < 10 → 0 ≤ (mLow (h 4 0 1).toNat (mDr h x c).2.2 (h 4 0 4)) q ∧ (mLow (h 4 0 1).toNat (mDr h x c).2.2 (h 4 0 4)) q ≤ 1000 := fun q hq => by have := hL1 q hq; omega
              have hG6 := gOk_tr hG hL2 A_61 B_61
              have hsr := mStay_rng (mLow (h 4 0 1).toNat (mDr h x c).2.2 (h 4 0 4)) (n := h 4 0 1) (rs := h 4 0 3) (x := h 3 0 5) ⟨g1, g2⟩ hhc
              refine w_iinc [some (aR 9 0), some (aI x), some (aI (m : Int)), some (aI z), some (aI (h 5 0 3)), some (aJ (mNx (mDr h x c).1)), none, some (aI (((mDr h x c).2.1) + 1)), some (aI (mGers (h 4 0 1) ((mDr h x c).2.2) (h 4 0 2) (h 4 0 4) (h 18 0) (h 5 0 3).toNat (-1))), some (aI (c : Int)), some (aI (mWon h (mNx (mDr h x c).1)))] dX0_drawMonths_130 rfl rfl (by decide) ?_
              refine w_aload_n dX0_drawMonths_133 rfl ?_
              refine w_getr 4 5 dX0_drawMonths_134 fl_X0_15 rfl (by decide) ?_
              refine w_aload_n dX0_drawMonths_137 rfl ?_
              refine w_getr 4 5 dX0_drawMonths_138 fl_X0_15 rfl (by decide) ?_
              refine w_aload_n dX0_drawMonths_141 rfl ?_
              refine w_getr 3 0 dX0_drawMonths_142 fl_X0_9 rfl (by decide) ?_
              refine w_getiE (v := h 3 0 5) dX0_drawMonths_145 fl_X0_80 rfl (by decide) (by first | rfl | simp [fwUp, fwUc]) ?_
              refine w_callV (d := d + 3) (S := [aR 4 5]) [aI (h 3 0 5)] dX0_drawMonths_148 ml_X0_83 ok_X1_stayOf vi_X1_stayOf rfl rfl (by decide) rfl (Nat.le_of_ble_eq_true rfl) ?_
              refine c_X1_stayOf (d := d) 5 (h 3 0 5) (by decide) (by first | assumption | omega | decide) (by first | assumption | omega | decide) ?_
              show fwWP mX0_drawMonths (d + 4) 151 [some (aR 9 0), some (aI x), some (aI (m : Int)), some (aI z), some (aI (h 5 0 3)), some (aJ (mNx (mDr h x c).1)), none, some (aI (((mDr h x c).2.1) + 1)), some (aI (mGers (h 4 0 1) ((mDr h x c).2.2) (h 4 0 2) (h 4 0 4) (h 18 0) (h 5 0 3).toNat (-1))), some (aI (c : Int)), some (aI (mWon h (mNx (mDr h x c).1)))] [aI (mStay ((h 4 0) 1) (mLow ((h 4 0) 1).toNat ((mDr h x c).2.2) ((h 4 0) 4)) ((h 4 0) 3) (h 3 0 5)), aR 4 5] (fwUc (fwUc (fwUc (fwUc h 4 5 (h 4 0)) 17 5 (mLow ((h 4 0) 1).toNat ((mDr h x c).2.2) ((h 4 0) 4))) 19 0 A_61) 20 0 B_61) Q
              refine w_iconst dX0_drawMonths_151 ?_
              refine w_callV (d := d + 3) (S := []) [aI (mStay ((h 4 0) 1) (mLow ((h 4 0) 1).toNat ((mDr h x c).2.2) ((h 4 0) 4)) ((h 4 0) 3) (h 3 0 5)), aI 1] dX0_drawMonths_152 ml_X0_86 ok_X1_change vi_X1_change rfl rfl (by decide) rfl (Nat.le_of_ble_eq_true rfl) ?_
              refine c_X1_changeN (d := (d + 2)) 5 (mStay ((h 4 0) 1) (mLow ((h 4 0) 1).toNat ((mDr h x c).2.2) ((h 4 0) 4)) ((h 4 0) 3) (h 3 0 5)) 1 (by decide) (by first | assumption | omega | decide) (show mStay ((h 4 0) 1) (mLow ((h 4 0) 1).toNat ((mDr h x c).2.2) ((h 4 0) 4)) ((h 4 0) 3) (h 3 0 5) = -1 ∨ (0 ≤ mStay ((h 4 0) 1) (mLow ((h 4 0) 1).toNat ((mDr h x c).2.2) ((h 4 0) 4)) ((h 4 0) 3) (h 3 0 5) ∧ mStay ((h 4 0) 1) (mLow ((h 4 0) 1).toNat ((mDr h x c).2.2) ((h 4 0) 4)) ((h 4 0) 3) (h 3 0 5) < (h 4 0) 1) by first | assumption | omega | decide) ?_
              show fwWP mX0_drawMonths (d + 4) 155 [some (aR 9 0), some (aI x), some (aI (m : Int)), some (aI z), some (aI (h 5 0 3)), some (aJ (mNx (mDr h x c).1)), none, some (aI (((mDr h x c).2.1) + 1)), some (aI (mGers (h 4 0 1) ((mDr h x c).2.2) (h 4 0 2) (h 4 0 4) (h 18 0) (h 5 0 3).toNat (-1))), some (aI (c : Int)), some (aI (mWon h (mNx (mDr h x c).1)))] [] (fwUc (fwUc (fwUc (fwUc (fwUc h 4 5 (h 4 0)) 17 5 (mLow ((h 4 0) 1).toNat ((mDr h x c).2.2) ((h 4 0) 4))) 19 0 A_61) 20 0 B_61) 17 5 (if mStay ((h 4 0) 1) (mLow ((h 4 0) 1).toNat ((mDr h x c).2.2) ((h 4 0) 4)) ((h 4 0) 3) (h 3 0 5) = -1 then (mLow ((h 4 0) 1).toNat ((mDr h x c).2.2) ((h 4 0) 4)) else fwFu ((mLow ((h 4 0) 1).toNat ((mDr h x c).2.2) ((h 4 0) 4))) (mStay ((h 4 0) 1) (mLow ((h 4 0) 1).toNat ((mDr h x c).2.2) ((h 4 0) 4)) ((h 4 0) 3) (h 3 0 5)).toNat ((mLow ((h 4 0) 1).toNat ((mDr h x c).2.2) ((h 4 0) 4)) (mStay ((h 4 0) 1) (mLow ((h 4 0) 1).toNat ((mDr h x c).2.2) ((h 4 0) 4)) ((h 4 0) 3) (h 3 0 5)).toNat + 1))) Q
              rw [show fwUc (fwUc (fwUc (fwUc (fwUc h 4 5 (h 4 0)) 17 5 (mLow ((h 4 0) 1).toNat ((mDr h x c).2.2) ((h 4 0) 4))) 19 0 A_61) 20 0 B_61) 17 5 (if mStay ((h 4 0) 1) (mLow ((h 4 0) 1).toNat ((mDr h x c).2.2) ((h 4 0) 4)) ((h 4 0) 3) (h 3 0 5) = -1 then (mLow ((h 4 0) 1).toNat ((mDr h x c).2.2) ((h 4 0) 4)) else fwFu ((mLow ((h 4 0) 1).toNat ((mDr h x c).2.2) ((h 4 0) 4))) (mStay ((h 4 0) 1) (mLow ((h 4 0) 1).toNat ((mDr h x c).2.2) ((h 4 0) 4)) ((h 4 0) 3) (h 3 0 5)).toNat ((mLow ((h 4 0) 1).toNat ((mDr h x c).2.2) ((h 4 0) 4)) (mStay ((h 4 0) 1) (mLow ((h 4 0) 1).toNat ((mDr h x c).2.2) ((h 4 0) 4)) ((h 4 0) 3) (h 3 0 5)).toNat + 1)) = (fwUc (fwUc (fwUc (fwUc h 4 5 (h 4 0)) 17 5 (if mStay ((h 4 0) 1) (mLow ((h 4 0) 1).toNat ((mDr h x c).2.2) ((h 4 0) 4)) ((h 4 0) 3) (h 3 0 5) = -1 then (mLow ((h 4 0) 1).toNat ((mDr h x c).2.2) ((h 4 0) 4)) else fwFu ((mLow ((h 4 0) 1).toNat ((mDr h x c).2.2) ((h 4 0) 4))) (mStay ((h 4 0) 1) (mLow ((h 4 0) 1).toNat ((mDr h x c).2.2) ((h 4 0) 4)) ((h 4 0) 3) (h 3 0 5)).toNat ((mLow ((h 4 0) 1).toNat ((mDr h x c).2.2) ((h 4 0) 4)) (mStay ((h 4 0) 1) (mLow ((h 4 0) 1).toNat ((mDr h x c).2.2) ((h 4 0) 4)) ((h 4 0) 3) (h 3 0 5)).toNat + 1))) 19 0 A_61) 20 0 B_61) from by funext a b; simp only [fwUc]; (repeat' split); all_goals first | rfl | (exfalso; omega)]
              change fwWP mX0_drawMonths (d + 4) 155 [some (aR 9 0), some (aI x), some (aI (m : Int)), some (aI z), some (aI (h 5 0 3)), some (aJ (mNx (mDr h x c).1)), none, some (aI (((mDr h x c).2.1) + 1)), some (aI (mGers (h 4 0 1) ((mDr h x c).2.2) (h 4 0 2) (h 4 0 4) (h 18 0) (h 5 0 3).toNat (-1))), some (aI (c : Int)), some (aI (mWon h (mNx (mDr h x c).1)))] [] (fwUc (fwUc (fwUc (fwUc h 4 5 (h 4 0)) 17 5 (mDrH h (mDr h x c).2.2)) 19 0 A_61) 20 0 B_61) Q
              have hD1 : ∀ q : Nat, q < 10 → 0 ≤ mDrH h (mDr h x c).2.2 q ∧ mDrH h (mDr h x c).2.2 q ≤ 999 := mRs_rng ⟨g1, g2⟩ hhc (by omega) hL1
              have hD2 : ∀ q : Nat, q < 10 → 0 ≤ mDrH h (mDr h x c).2.2 q ∧ mDrH h (mDr h x c).2.2 q ≤ 1000 := fun q hq => by have := hD1 q hq; omega
              have hG7 := gOk_tr hG hD2 A_61 B_61
              have hM7 : ∀ q : Nat, q < 10 → mDrH h (mDr h x c).2.2 q ≤ 999 := fun q hq => (hD1 q hq).2
              refine w_aload_n dX0_drawMonths_155 rfl ?_
              refine w_getr 3 0 dX0_drawMonths_156 fl_X0_9 rfl (by decide) ?_
              refine w_getr 5 0 dX0_drawMonths_159 fl_X0_34 rfl (by decide) ?_
              refine w_aload_n dX0_drawMonths_162 rfl ?_
              refine w_getr 4 5 dX0_drawMonths_163 fl_X0_15 rfl (by decide) ?_
              refine w_iconst dX0_drawMonths_166 ?_
              refine w_callV (d := d + 3) (S := []) [aR 4 5, aI (-1)] dX0_drawMonths_167 ml_X0_44 ok_X3_gainersBy vi_X3_gainersBy rfl rfl (by decide) rfl (Nat.le_of_ble_eq_true rfl) ?_
              refine c_willing5 (d := d) (by first | assumption | omega | decide) (by first | assumption | omega | decide) (show 1 ≤ ((h 4 0) 1) by first | assumption | omega | decide) (by first | assumption | omega | decide) ?_
              intro A8 B9
              show fwWP mX0_drawMonths (d + 4) 170 [some (aR 9 0), some (aI x), some (aI (m : Int)), some (aI z), some (aI (h 5 0 3)), some (aJ (mNx (mDr h x c).1)), none, some (aI (((mDr h x c).2.1) + 1)), some (aI (mGers (h 4 0 1) ((mDr h x c).2.2) (h 4 0 2) (h 4 0 4) (h 18 0) (h 5 0 3).toNat (-1))), some (aI (c : Int)), some (aI (mWon h (mNx (mDr h x c).1)))] [aI (mGers (h 4 0 1) (mDrH h ((mDr h x c).2.2)) (h 4 0 2) (h 4 0 4) (h 18 0) (h 5 0 3).toNat (-1))] (fwUc (fwUc (fwUc (fwUc (fwUc (fwUc h 4 5 (h 4 0)) 17 5 (mDrH h (mDr h x c).2.2)) 19 0 A_61) 20 0 B_61) 19 0 A8) 20 0 B9) Q
              rw [show fwUc (fwUc (fwUc (fwUc (fwUc (fwUc h 4 5 (h 4 0)) 17 5 (mDrH h (mDr h x c).2.2)) 19 0 A_61) 20 0 B_61) 19 0 A8) 20 0 B9 = (fwUc (fwUc (fwUc (fwUc h 4 5 (h 4 0)) 17 5 (mDrH h (mDr h x c).2.2)) 19 0 A8) 20 0 B9) from by funext a b; simp only [fwUc]; (repeat' split); all_goals first | rfl | (exfalso; omega)]
              refine w_istore [some (aR 9 0), some (aI x), some (aI (m : Int)), some (aI z), some (aI (h 5 0 3)), some (aJ (mNx (mDr h x c).1)), none, some (aI (((mDr h x c).2.1) + 1)), some (aI (mGers (h 4 0 1) (mDrH h ((mDr h x c).2.2)) (h 4 0 2) (h 4 0 4) (h 18 0) (h 5 0 3).toNat (-1))), some (aI (c : Int)), some (aI (mWon h (mNx (mDr h x c).1)))] dX0_drawMonths_170 rfl (by decide) ?_
              refine w_iinc [some (aR 9 0), some (aI x), some (aI (m : Int)), some (aI z), some (aI (h 5 0 3)), some (aJ (mNx (mDr h x c).1)), none, some (aI (((mDr h x c).2.1) + 1)), some (aI (mGers (h 4 0 1) (mDrH h ((mDr h x c).2.2)) (h 4 0 2) (h 4 0 4) (h 18 0) (h 5 0 3).toNat (-1))), some (aI ((c : Int) + 1)), some (aI (mWon h (mNx (mDr h x c).1)))] dX0_drawMonths_172 rfl rfl (by decide) ?_
              refine w_goto 61 dX0_drawMonths_175 (by decide) ?_
              refine w_drop [10] [some (aR 9 0), some (aI x), some (aI (m : Int)), some (aI z), some (aI (h 5 0 3)), some (aJ (mNx (mDr h x c).1)), none, some (aI (((mDr h x c).2.1) + 1)), some (aI (mGers (h 4 0 1) (mDrH h ((mDr h x c).2.2)) (h 4 0 2) (h 4 0 4) (h 18 0) (h 5 0 3).toNat (-1))), some (aI ((c : Int) + 1)), none] rfl ?_
              refine ih61 (by omega) _ _ _ _ _ ?_ ?_ ?_ ?_ ?_
              · exact (by omega)
              · exact (by rw [mDr, if_pos (show mDrOk h (mNx (mDr h x c).1) (mDr h x c).2.2 = true from decide_eq_true ⟨ce, cl⟩)])
              · exact (by rw [mDr, if_pos (show mDrOk h (mNx (mDr h x c).1) (mDr h x c).2.2 = true from decide_eq_true ⟨ce, cl⟩)])
              · exact (by rw [mDr, if_pos (show mDrOk h (mNx (mDr h x c).1) (mDr h x c).2.2 = true from decide_eq_true ⟨ce, cl⟩)])
              · exact ⟨_, _, by rw [mDr, if_pos (show mDrOk h (mNx (mDr h x c).1) (mDr h x c).2.2 = true from decide_eq_true ⟨ce, cl⟩)]⟩
    refine lp61 0 (Nat.zero_le _) _ _ _ _ _ ?_ ?_ ?_ ?_ ?_
    · exact (by omega)
    · exact rfl
    · exact rfl
    · exact rfl
    · exact ⟨_, _, rfl⟩
  · refine w_iconst dX0_drawMonths_32 ?_
    have e9 : mDrawn h x m = (0, h 17 0) := by rw [mDrawn, if_pos (by omega)]
    have k9 := k m (h 19 0) (h 20 0) (Nat.le_refl _) (Or.inl rfl)
    rw [e9] at k9
    rw [← fwAB h (h 17 0)]
    exact w_iret dX0_drawMonths_33 rfl k9
theorem c_X0_drawMonths {d : Nat} {h : fwH} {Q : Option fwV → fwH → Prop} (x : Int) (m : Nat) (hP : pOk h 0) (hG : gOk h 0) (hn : 1 ≤ h 4 0 1) (hM : ∀ c : Nat, c < 10 → h 17 0 c ≤ 999) (hlw : 0 ≤ h 3 0 4 ∧ h 3 0 4 ≤ 999) (hhc : 0 ≤ h 3 0 5 ∧ h 3 0 5 < h 4 0 1) (hx : -2147483648 ≤ x ∧ x < 2147483648) (hmm : m ≤ 1000) (hm4 : m ≤ 40) (k : ∀ A B, Q (some (aI ((mDrawn h x m).1))) (fwUc (fwUc (fwUc (fwUc h 4 5 (h 4 0)) 17 5 ((mDrawn h x m).2)) 19 0 A) 20 0 B)) : fwCt mX0_drawMonths (d + 4) [aR 9 0, aI x, aI (m : Int), aI 40] h Q := by
  refine c_X0_drawMonthsU x m 40 hP hG hn hM hlw hhc hx hmm (by omega) (fun u A B hu hz => ?_)
  have h1 := mDrawn_rng h x u
  have e : u = m := by omega
  subst e
  exact k A B

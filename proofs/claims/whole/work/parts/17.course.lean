/-! FootLower$Course: the trial ground is number 5 -/
def mLowN (n : Nat) (H : Nat → Int) (ls : Int) : Nat → Nat → Int
  | 0 => H
  | c + 1 => mLow n (mLowN n H ls c) ls
theorem mLow_rng {n : Nat} {H : Nat → Int} {ls b : Int} (hn : n ≤ 10) (hH : ∀ c : Nat, c < 10 → 0 ≤ H c ∧ H c ≤ b) : ∀ c : Nat, c < 10 → 0 ≤ mLow n H ls c ∧ mLow n H ls c ≤ b := by
  intro c hc
  unfold mLow
  split
  · rename_i q
    have ht := mTop_rng H ls n
    have h1 := hH (mTop H ls n).toNat (by omega)
    have h2 := hH c hc
    unfold fwFu
    split <;> omega
  · exact hH c hc
theorem mLowN_rng {n : Nat} {H : Nat → Int} {ls b : Int} (hn : n ≤ 10) (hH : ∀ c : Nat, c < 10 → 0 ≤ H c ∧ H c ≤ b) : ∀ k : Nat, ∀ c : Nat, c < 10 → 0 ≤ mLowN n H ls k c ∧ mLowN n H ls k c ≤ b := by
  intro k
  induction k with
  | zero => exact hH
  | succ k ih => exact mLow_rng hn ih
/-- the mountain's heights with so many FEET taken -/
def mLw (h : fwH) (k : Nat) : Nat → Int := mLowN (h 4 0 1).toNat (h 17 0) (h 4 0 4) k
/-- the trial ground: as the mountain, with heights of its own -/
def fwTr (h : fwH) (H : Nat → Int) : fwH := fwUc (fwUc h 4 5 (h 4 0)) 17 5 H
theorem gOk_tr {h : fwH} (hG : gOk h 0) {H : Nat → Int} (hH : ∀ c : Nat, c < 10 → 0 ≤ H c ∧ H c ≤ 1000) (A B : Nat → Int) : gOk (fwUc (fwUc (fwUc (fwUc h 4 5 (h 4 0)) 17 5 H) 19 0 A) 20 0 B) 5 := ⟨hG.1, hG.2.1, hG.2.2.1, hG.2.2.2.1, hH⟩
theorem fwAB (h : fwH) (H : Nat → Int) : fwUc (fwUc (fwUc (fwUc h 4 5 (h 4 0)) 17 5 H) 19 0 (h 19 0)) 20 0 (h 20 0) = fwUc (fwUc h 4 5 (h 4 0)) 17 5 H := by
  rw [show fwUc (fwUc (fwUc h 4 5 (h 4 0)) 17 5 H) 19 0 (h 19 0) = fwUc (fwUc h 4 5 (h 4 0)) 17 5 H from fwUc_self (fwUc (fwUc h 4 5 (h 4 0)) 17 5 H) 19 0]
  exact fwUc_self (fwUc (fwUc h 4 5 (h 4 0)) 17 5 H) 20 0
set_option maxRecDepth 100000 in
set_option maxHeartbeats 4000000 in
theorem c_X0_gainAfter {d : Nat} {h : fwH} {Q : Option fwV → fwH → Prop} (f n : Nat) (hP : pOk h 0) (hG : gOk h 0) (hn : 1 ≤ h 4 0 1) (hM : ∀ c : Nat, c < 10 → h 17 0 c ≤ 999) (hf : (f : Int) < h 5 0 3) (hnn : n ≤ 1000) (k : ∀ A B, Q (some (aI (mGain (h 4 0 1) (mLw h n) (h 4 0 2) (h 18 0) f))) (fwUc (fwUc (fwUc (fwUc h 4 5 (h 4 0)) 17 5 (mLw h n)) 19 0 A) 20 0 B)) : fwCt mX0_gainAfter (d + 4) [aR 9 0, aI (f : Int), aI (n : Int)] h Q := by
  refine fwCt_of [some (aR 9 0), some (aI (f : Int)), some (aI (n : Int)), none] rfl rfl rfl ?_
  obtain ⟨⟨g1, g2⟩, ⟨g3, g4⟩, ⟨g5, g6⟩, g7, g8⟩ := id hG
  have hpz := hP.1
  refine w_aload_n dX0_gainAfter_0 rfl ?_
  refine w_getr 4 5 dX0_gainAfter_1 fl_X0_15 rfl (by decide) ?_
  refine w_aload_n dX0_gainAfter_4 rfl ?_
  refine w_getr 3 0 dX0_gainAfter_5 fl_X0_9 rfl (by decide) ?_
  refine w_getr 4 0 dX0_gainAfter_8 fl_X0_19 rfl (by decide) ?_
  refine w_callV (d := d + 3) (S := []) [aR 4 0] dX0_gainAfter_11 ml_X0_24 ok_X1_copyFrom vi_X1_copyFrom rfl rfl (by decide) rfl (Nat.le_of_ble_eq_true rfl) ?_
  refine c_X1_copyFrom (d := (d + 3)) 5 0 (by decide) (by decide) (by first | assumption | omega | decide) (by first | assumption | omega | decide) ?_
  show fwWP mX0_gainAfter (d + 4) 14 [some (aR 9 0), some (aI (f : Int)), some (aI (n : Int)), none] [] (fwUc (fwUc h 17 5 (h 17 0)) 4 5 (h 4 0)) Q
  rw [show fwUc (fwUc h 17 5 (h 17 0)) 4 5 (h 4 0) = (fwUc (fwUc h 4 5 (h 4 0)) 17 5 (h 17 0)) from by funext a b; simp only [fwUc]; (repeat' split); all_goals first | rfl | (exfalso; omega)]
  refine w_iconst dX0_gainAfter_14 ?_
  refine w_istore_n [some (aR 9 0), some (aI (f : Int)), some (aI (n : Int)), some (aI 0)] dX0_gainAfter_15 rfl (by decide) ?_
  have lp16 : ∀ c : Nat, c ≤ n → ∀ (y16  : Int) (hh16 : fwH), y16 = (c : Int) → (∃ A B : Nat → Int, hh16 = (fwUc (fwUc (fwUc (fwUc h 4 5 (h 4 0)) 17 5 (mLw h c)) 19 0 A) 20 0 B)) → fwWP mX0_gainAfter (d + 4) 16 [some (aR 9 0), some (aI (f : Int)), some (aI (n : Int)), some (aI y16)] [] hh16 Q := by
    refine fw_up (fun c hc16 ih16 => ?_)
    intro y16  hh16 ey16 eh16
    subst ey16
    obtain ⟨A_16, B_16, eh16⟩ := eh16
    subst eh16
    have hH1 : ∀ q : Nat, q < 10 → 0 ≤ mLw h c q ∧ mLw h c q ≤ 999 := mLowN_rng (by omega) (fun q hq => ⟨(g8 q hq).1, hM q hq⟩) c
    have hH2 : ∀ q : Nat, q < 10 → 0 ≤ mLw h c q ∧ mLw h c q ≤ 1000 := fun q hq => by have := hH1 q hq; omega
    have hG5 := gOk_tr hG hH2 A_16 B_16
    have hM5 : ∀ q : Nat, q < 10 → mLw h c q ≤ 999 := fun q hq => (hH1 q hq).2
    show fwWP mX0_gainAfter (d + 4) 16 [some (aR 9 0), some (aI (f : Int)), some (aI (n : Int)), some (aI (c : Int))] [] (fwUc (fwUc (fwUc (fwUc h 4 5 (h 4 0)) 17 5 (mLw h c)) 19 0 A_16) 20 0 B_16) Q
    refine w_iload_n dX0_gainAfter_16 rfl ?_
    refine w_iload_n dX0_gainAfter_17 rfl ?_
    refine w_icmp_ge 35 dX0_gainAfter_18 (by decide) (by omega) (by omega) (fun c18 => ?_) (fun c18 => ?_)
    · have ec16 : n = c := by omega
      subst ec16
      refine w_aload_n dX0_gainAfter_35 rfl ?_
      refine w_getr 3 0 dX0_gainAfter_36 fl_X0_9 rfl (by decide) ?_
      refine w_getr 5 0 dX0_gainAfter_39 fl_X0_34 rfl (by decide) ?_
      refine w_aload_n dX0_gainAfter_42 rfl ?_
      refine w_getr 4 5 dX0_gainAfter_43 fl_X0_15 rfl (by decide) ?_
      refine w_iload_n dX0_gainAfter_46 rfl ?_
      refine w_callV (d := d + 3) (S := []) [aR 4 5, aI (f : Int)] dX0_gainAfter_47 ml_X0_38 ok_X3_gainOn vi_X3_gainOn rfl rfl (by decide) rfl (Nat.le_of_ble_eq_true rfl) ?_
      refine c_X3_gainOn (d := d) 0 5 f (by decide) (by decide) (by first | assumption | omega | decide) (by first | assumption | omega | decide) (show (f : Int) < (h 5 0 3) by first | assumption | omega | decide) ?_
      intro A2
      show fwWP mX0_gainAfter (d + 4) 50 [some (aR 9 0), some (aI (f : Int)), some (aI (n : Int)), some (aI ((n : Nat) : Int))] [aI (mGain ((h 4 0) 1) (mLw h n) ((h 4 0) 2) (h 18 0) f)] (fwUc (fwUc (fwUc (fwUc (fwUc h 4 5 (h 4 0)) 17 5 (mLw h n)) 19 0 A_16) 20 0 B_16) 20 0 A2) Q
      rw [show fwUc (fwUc (fwUc (fwUc (fwUc h 4 5 (h 4 0)) 17 5 (mLw h n)) 19 0 A_16) 20 0 B_16) 20 0 A2 = (fwUc (fwUc (fwUc (fwUc h 4 5 (h 4 0)) 17 5 (mLw h n)) 19 0 A_16) 20 0 A2) from by funext a b; simp only [fwUc]; (repeat' split); all_goals first | rfl | (exfalso; omega)]
      exact w_iret dX0_gainAfter_50 rfl (k _ _)
    · refine w_aload_n dX0_gainAfter_21 rfl ?_
      refine w_getr 4 5 dX0_gainAfter_22 fl_X0_15 rfl (by decide) ?_
      refine w_callV (d := d + 3) (S := []) [] dX0_gainAfter_25 ml_X0_30 ok_X1_lower vi_X1_lower rfl rfl (by decide) rfl (Nat.le_of_ble_eq_true rfl) ?_
      refine c_X1_lower (d := (d + 1)) 5 (by decide) (by first | assumption | omega | decide) ?_
      show fwWP mX0_gainAfter (d + 4) 28 [some (aR 9 0), some (aI (f : Int)), some (aI (n : Int)), some (aI (c : Int))] [aI (fwB (0 < ((h 4 0) 1).toNat ∧ (mLw h c) (mTop (mLw h c) ((h 4 0) 4) ((h 4 0) 1).toNat).toNat ≠ 0))] (fwUc (fwUc (fwUc (fwUc (fwUc h 4 5 (h 4 0)) 17 5 (mLw h c)) 19 0 A_16) 20 0 B_16) 17 5 (mLow ((h 4 0) 1).toNat (mLw h c) ((h 4 0) 4))) Q
      rw [show fwUc (fwUc (fwUc (fwUc (fwUc h 4 5 (h 4 0)) 17 5 (mLw h c)) 19 0 A_16) 20 0 B_16) 17 5 (mLow ((h 4 0) 1).toNat (mLw h c) ((h 4 0) 4)) = (fwUc (fwUc (fwUc (fwUc h 4 5 (h 4 0)) 17 5 (mLow ((h 4 0) 1).toNat (mLw h c) ((h 4 0) 4))) 19 0 A_16) 20 0 B_16) from by funext a b; simp only [fwUc]; (repeat' split); all_goals first | rfl | (exfalso; omega)]
      refine w_pop dX0_gainAfter_28 rfl ?_
      refine w_iinc [some (aR 9 0), some (aI (f : Int)), some (aI (n : Int)), some (aI ((c : Int) + 1))] dX0_gainAfter_29 rfl rfl (by decide) ?_
      refine w_goto 16 dX0_gainAfter_32 (by decide) ?_
      refine ih16 (by omega) _ _ ?_ ?_
      · exact (by omega)
      · exact ⟨_, _, rfl⟩
  refine lp16 0 (Nat.zero_le _) _ _ ?_ ?_
  · exact (by omega)
  · exact ⟨h 19 0, h 20 0, (fwAB h (h 17 0)).symm⟩
def mWish (h : fwH) (f : Nat) : Nat → Int × Int
  | 0 => (0, mGain (h 4 0 1) (mLw h 0) (h 4 0 2) (h 18 0) f)
  | k + 1 => if (mWish h f k).2 < mGain (h 4 0 1) (mLw h (k + 1)) (h 4 0 2) (h 18 0) f then ((k : Int) + 1, mGain (h 4 0 1) (mLw h (k + 1)) (h 4 0 2) (h 18 0) f) else mWish h f k
theorem mWish_rng {h : fwH} {f : Nat} (hn : (h 4 0 1).toNat ≤ 10 ∧ h 4 0 1 ≤ 10) (hH : ∀ c : Nat, c < 10 → 0 ≤ h 17 0 c ∧ h 17 0 c ≤ 1000) (h2 : 0 ≤ h 18 0 (7 * f + 2) ∧ h 18 0 (7 * f + 2) ≤ 9) (h3 : 0 ≤ h 18 0 (7 * f + 3) ∧ h 18 0 (7 * f + 3) ≤ 9) (h4 : 0 ≤ h 18 0 (7 * f + 4) ∧ h 18 0 (7 * f + 4) ≤ 9) : ∀ k, 0 ≤ (mWish h f k).2 ∧ (mWish h f k).2 ≤ 27000 := by
  intro k
  induction k with
  | zero => exact mGain_rng hn.2 hH h2 h3 h4
  | succ k ih =>
    rw [mWish]
    split
    · exact mGain_rng hn.2 (mLowN_rng hn.1 hH (k + 1)) h2 h3 h4
    · exact ih
set_option maxRecDepth 100000 in
set_option maxHeartbeats 4000000 in
theorem c_X0_wishedFeet {d : Nat} {h : fwH} {Q : Option fwV → fwH → Prop} (f : Nat) (hP : pOk h 0) (hG : gOk h 0) (hn : 1 ≤ h 4 0 1) (hM : ∀ c : Nat, c < 10 → h 17 0 c ≤ 999) (hf : (f : Int) < h 5 0 3) (k : ∀ A B, Q (some (aI ((mWish h f 20).1))) (fwUc (fwUc (fwUc (fwUc h 4 5 (h 4 0)) 17 5 (mLw h 20)) 19 0 A) 20 0 B)) : fwCt mX0_wishedFeet (d + 4) [aR 9 0, aI (f : Int)] h Q := by
  refine fwCt_of [some (aR 9 0), some (aI (f : Int)), none, none, none, none] rfl rfl rfl ?_
  obtain ⟨⟨g1, g2⟩, ⟨g3, g4⟩, ⟨g5, g6⟩, g7, g8⟩ := id hG
  have hpz := hP.1
  refine w_aload_n dX0_wishedFeet_0 rfl ?_
  refine w_getr 4 5 dX0_wishedFeet_1 fl_X0_15 rfl (by decide) ?_
  refine w_aload_n dX0_wishedFeet_4 rfl ?_
  refine w_getr 3 0 dX0_wishedFeet_5 fl_X0_9 rfl (by decide) ?_
  refine w_getr 4 0 dX0_wishedFeet_8 fl_X0_19 rfl (by decide) ?_
  refine w_callV (d := d + 3) (S := []) [aR 4 0] dX0_wishedFeet_11 ml_X0_24 ok_X1_copyFrom vi_X1_copyFrom rfl rfl (by decide) rfl (Nat.le_of_ble_eq_true rfl) ?_
  refine c_X1_copyFrom (d := (d + 3)) 5 0 (by decide) (by decide) (by first | assumption | omega | decide) (by first | assumption | omega | decide) ?_
  show fwWP mX0_wishedFeet (d + 4) 14 [some (aR 9 0), some (aI (f : Int)), none, none, none, none] [] (fwUc (fwUc h 17 5 (h 17 0)) 4 5 (h 4 0)) Q
  rw [show fwUc (fwUc h 17 5 (h 17 0)) 4 5 (h 4 0) = (fwUc (fwUc h 4 5 (h 4 0)) 17 5 (h 17 0)) from by funext a b; simp only [fwUc]; (repeat' split); all_goals first | rfl | (exfalso; omega)]
  refine w_iconst dX0_wishedFeet_14 ?_
  refine w_istore_n [some (aR 9 0), some (aI (f : Int)), some (aI 0), none, none, none] dX0_wishedFeet_15 rfl (by decide) ?_
  have hG5 : gOk (fwUc (fwUc h 4 5 (h 4 0)) 17 5 (h 17 0)) 5 := ⟨hG.1, hG.2.1, hG.2.2.1, hG.2.2.2.1, hG.2.2.2.2⟩
  have hff := hP.2 f (by omega)
  refine w_aload_n dX0_wishedFeet_16 rfl ?_
  refine w_getr 3 0 dX0_wishedFeet_17 fl_X0_9 rfl (by decide) ?_
  refine w_getr 5 0 dX0_wishedFeet_20 fl_X0_34 rfl (by decide) ?_
  refine w_aload_n dX0_wishedFeet_23 rfl ?_
  refine w_getr 4 5 dX0_wishedFeet_24 fl_X0_15 rfl (by decide) ?_
  refine w_iload_n dX0_wishedFeet_27 rfl ?_
  refine w_callV (d := d + 3) (S := []) [aR 4 5, aI (f : Int)] dX0_wishedFeet_28 ml_X0_38 ok_X3_gainOn vi_X3_gainOn rfl rfl (by decide) rfl (Nat.le_of_ble_eq_true rfl) ?_
  refine c_X3_gainOn (d := d) 0 5 f (by decide) (by decide) (by first | assumption | omega | decide) (by first | assumption | omega | decide) (show (f : Int) < (h 5 0 3) by first | assumption | omega | decide) ?_
  intro A1
  show fwWP mX0_wishedFeet (d + 4) 31 [some (aR 9 0), some (aI (f : Int)), some (aI 0), none, none, none] [aI (mGain ((h 4 0) 1) (h 17 0) ((h 4 0) 2) (h 18 0) f)] (fwUc (fwUc (fwUc h 4 5 (h 4 0)) 17 5 (h 17 0)) 20 0 A1) Q
  refine w_istore_n [some (aR 9 0), some (aI (f : Int)), some (aI 0), some (aI (mGain ((h 4 0) 1) (h 17 0) ((h 4 0) 2) (h 18 0) f)), none, none] dX0_wishedFeet_31 rfl (by decide) ?_
  refine w_iconst dX0_wishedFeet_32 ?_
  refine w_istore [some (aR 9 0), some (aI (f : Int)), some (aI 0), some (aI (mGain ((h 4 0) 1) (h 17 0) ((h 4 0) 2) (h 18 0) f)), some (aI 1), none] dX0_wishedFeet_33 rfl (by decide) ?_
  have lp35 : ∀ c : Nat, c ≤ 20 → ∀ (y35 wi mo : Int) (hh35 : fwH), y35 = (c : Int) + 1 → wi = (mWish h f c).1 → mo = (mWish h f c).2 → (∃ A B : Nat → Int, hh35 = (fwUc (fwUc (fwUc (fwUc h 4 5 (h 4 0)) 17 5 (mLw h c)) 19 0 A) 20 0 B)) → fwWP mX0_wishedFeet (d + 4) 35 [some (aR 9 0), some (aI (f : Int)), some (aI wi), some (aI mo), some (aI y35), none] [] hh35 Q := by
    refine fw_up (fun c hc35 ih35 => ?_)
    intro y35 wi mo hh35 ey35 e_wi e_mo eh35
    subst ey35
    subst e_wi
    subst e_mo
    obtain ⟨A_35, B_35, eh35⟩ := eh35
    subst eh35
    have hH1 : ∀ q : Nat, q < 10 → 0 ≤ mLw h c q ∧ mLw h c q ≤ 999 := mLowN_rng (by omega) (fun q hq => ⟨(g8 q hq).1, hM q hq⟩) c
    have hH2 : ∀ q : Nat, q < 10 → 0 ≤ mLw h c q ∧ mLw h c q ≤ 1000 := fun q hq => by have := hH1 q hq; omega
    have hG5 := gOk_tr hG hH2 A_35 B_35
    have hM5 : ∀ q : Nat, q < 10 → mLw h c q ≤ 999 := fun q hq => (hH1 q hq).2
    show fwWP mX0_wishedFeet (d + 4) 35 [some (aR 9 0), some (aI (f : Int)), some (aI ((mWish h f c).1)), some (aI ((mWish h f c).2)), some (aI ((c : Int) + 1)), none] [] (fwUc (fwUc (fwUc (fwUc h 4 5 (h 4 0)) 17 5 (mLw h c)) 19 0 A_35) 20 0 B_35) Q
    refine w_iload dX0_wishedFeet_35 rfl ?_
    refine w_bipush dX0_wishedFeet_37 rfl ?_
    refine w_icmp_gt 85 dX0_wishedFeet_39 (by decide) (by omega) (by omega) (fun c39 => ?_) (fun c39 => ?_)
    · have ec35 : 20 = c := by omega
      subst ec35
      refine w_iload_n dX0_wishedFeet_85 rfl ?_
      exact w_iret dX0_wishedFeet_86 rfl (k _ _)
    · refine w_aload_n dX0_wishedFeet_42 rfl ?_
      refine w_getr 4 5 dX0_wishedFeet_43 fl_X0_15 rfl (by decide) ?_
      refine w_callV (d := d + 3) (S := []) [] dX0_wishedFeet_46 ml_X0_30 ok_X1_lower vi_X1_lower rfl rfl (by decide) rfl (Nat.le_of_ble_eq_true rfl) ?_
      refine c_X1_lower (d := (d + 1)) 5 (by decide) (by first | assumption | omega | decide) ?_
      show fwWP mX0_wishedFeet (d + 4) 49 [some (aR 9 0), some (aI (f : Int)), some (aI ((mWish h f c).1)), some (aI ((mWish h f c).2)), some (aI ((c : Int) + 1)), none] [aI (fwB (0 < ((h 4 0) 1).toNat ∧ (mLw h c) (mTop (mLw h c) ((h 4 0) 4) ((h 4 0) 1).toNat).toNat ≠ 0))] (fwUc (fwUc (fwUc (fwUc (fwUc h 4 5 (h 4 0)) 17 5 (mLw h c)) 19 0 A_35) 20 0 B_35) 17 5 (mLow ((h 4 0) 1).toNat (mLw h c) ((h 4 0) 4))) Q
      rw [show fwUc (fwUc (fwUc (fwUc (fwUc h 4 5 (h 4 0)) 17 5 (mLw h c)) 19 0 A_35) 20 0 B_35) 17 5 (mLow ((h 4 0) 1).toNat (mLw h c) ((h 4 0) 4)) = (fwUc (fwUc (fwUc (fwUc h 4 5 (h 4 0)) 17 5 (mLow ((h 4 0) 1).toNat (mLw h c) ((h 4 0) 4))) 19 0 A_35) 20 0 B_35) from by funext a b; simp only [fwUc]; (repeat' split); all_goals first | rfl | (exfalso; omega)]
      refine w_pop dX0_wishedFeet_49 rfl ?_
      have hH3 : ∀ q : Nat, q < 10 → 0 ≤ mLw h (c + 1) q ∧ mLw h (c + 1) q ≤ 1000 := mLowN_rng (by omega) g8 (c + 1)
      have hG6 := gOk_tr hG hH3 A_35 B_35
      change fwWP mX0_wishedFeet (d + 4) 50 [some (aR 9 0), some (aI (f : Int)), some (aI ((mWish h f c).1)), some (aI ((mWish h f c).2)), some (aI ((c : Int) + 1)), none] [] (fwUc (fwUc (fwUc (fwUc h 4 5 (h 4 0)) 17 5 (mLw h (c + 1))) 19 0 A_35) 20 0 B_35) Q
      refine w_aload_n dX0_wishedFeet_50 rfl ?_
      refine w_getr 3 0 dX0_wishedFeet_51 fl_X0_9 rfl (by decide) ?_
      refine w_getr 5 0 dX0_wishedFeet_54 fl_X0_34 rfl (by decide) ?_
      refine w_aload_n dX0_wishedFeet_57 rfl ?_
      refine w_getr 4 5 dX0_wishedFeet_58 fl_X0_15 rfl (by decide) ?_
      refine w_iload_n dX0_wishedFeet_61 rfl ?_
      refine w_callV (d := d + 3) (S := []) [aR 4 5, aI (f : Int)] dX0_wishedFeet_62 ml_X0_38 ok_X3_gainOn vi_X3_gainOn rfl rfl (by decide) rfl (Nat.le_of_ble_eq_true rfl) ?_
      refine c_X3_gainOn (d := d) 0 5 f (by decide) (by decide) (by first | assumption | omega | decide) (by first | assumption | omega | decide) (show (f : Int) < (h 5 0 3) by first | assumption | omega | decide) ?_
      intro A3
      show fwWP mX0_wishedFeet (d + 4) 65 [some (aR 9 0), some (aI (f : Int)), some (aI ((mWish h f c).1)), some (aI ((mWish h f c).2)), some (aI ((c : Int) + 1)), none] [aI (mGain ((h 4 0) 1) (mLw h (c + 1)) ((h 4 0) 2) (h 18 0) f)] (fwUc (fwUc (fwUc (fwUc (fwUc h 4 5 (h 4 0)) 17 5 (mLw h (c + 1))) 19 0 A_35) 20 0 B_35) 20 0 A3) Q
      rw [show fwUc (fwUc (fwUc (fwUc (fwUc h 4 5 (h 4 0)) 17 5 (mLw h (c + 1))) 19 0 A_35) 20 0 B_35) 20 0 A3 = (fwUc (fwUc (fwUc (fwUc h 4 5 (h 4 0)) 17 5 (mLw h (c + 1))) 19 0 A_35) 20 0 A3) from by funext a b; simp only [fwUc]; (repeat' split); all_goals first | rfl | (exfalso; omega)]
      have hr1 := mGain_rng (n := h 4 0 1) (H := mLw h (c + 1)) (sl := h 4 0 2) (F := h 18 0) (f := f) (by omega) hH3 (by omega) (by omega) (by omega)
      have hr2 := mWish_rng (h := h) (f := f) (by omega) g8 (by omega) (by omega) (by omega) c
      refine w_istore [some (aR 9 0), some (aI (f : Int)), some (aI ((mWish h f c).1)), some (aI ((mWish h f c).2)), some (aI ((c : Int) + 1)), some (aI (mGain ((h 4 0) 1) (mLw h (c + 1)) ((h 4 0) 2) (h 18 0) f))] dX0_wishedFeet_65 rfl (by decide) ?_
      refine w_iload dX0_wishedFeet_67 rfl ?_
      refine w_iload_n dX0_wishedFeet_69 rfl ?_
      refine w_icmp_le 79 dX0_wishedFeet_70 (by decide) (by omega) (by omega) (fun c70 => ?_) (fun c70 => ?_)
      · refine w_iinc [some (aR 9 0), some (aI (f : Int)), some (aI ((mWish h f c).1)), some (aI ((mWish h f c).2)), some (aI (((c : Int) + 1) + 1)), some (aI (mGain ((h 4 0) 1) (mLw h (c + 1)) ((h 4 0) 2) (h 18 0) f))] dX0_wishedFeet_79 rfl rfl (by decide) ?_
        refine w_goto 35 dX0_wishedFeet_82 (by decide) ?_
        refine w_drop [5] [some (aR 9 0), some (aI (f : Int)), some (aI ((mWish h f c).1)), some (aI ((mWish h f c).2)), some (aI (((c : Int) + 1) + 1)), none] rfl ?_
        refine ih35 (by omega) _ _ _ _ ?_ ?_ ?_ ?_
        · exact (by omega)
        · exact (by rw [mWish]; first | rw [if_pos (by omega)] | rw [if_neg (by omega)])
        · exact (by rw [mWish]; first | rw [if_pos (by omega)] | rw [if_neg (by omega)])
        · exact ⟨_, _, rfl⟩
      · refine w_iload dX0_wishedFeet_73 rfl ?_
        refine w_istore_n [some (aR 9 0), some (aI (f : Int)), some (aI ((mWish h f c).1)), some (aI (mGain ((h 4 0) 1) (mLw h (c + 1)) ((h 4 0) 2) (h 18 0) f)), some (aI ((c : Int) + 1)), some (aI (mGain ((h 4 0) 1) (mLw h (c + 1)) ((h 4 0) 2) (h 18 0) f))] dX0_wishedFeet_75 rfl (by decide) ?_
        refine w_iload dX0_wishedFeet_76 rfl ?_
        refine w_istore_n [some (aR 9 0), some (aI (f : Int)), some (aI ((c : Int) + 1)), some (aI (mGain ((h 4 0) 1) (mLw h (c + 1)) ((h 4 0) 2) (h 18 0) f)), some (aI ((c : Int) + 1)), some (aI (mGain ((h 4 0) 1) (mLw h (c + 1)) ((h 4 0) 2) (h 18 0) f))] dX0_wishedFeet_78 rfl (by decide) ?_
        refine w_iinc [some (aR 9 0), some (aI (f : Int)), some (aI ((c : Int) + 1)), some (aI (mGain ((h 4 0) 1) (mLw h (c + 1)) ((h 4 0) 2) (h 18 0) f)), some (aI (((c : Int) + 1) + 1)), some (aI (mGain ((h 4 0) 1) (mLw h (c + 1)) ((h 4 0) 2) (h 18 0) f))] dX0_wishedFeet_79 rfl rfl (by decide) ?_
        refine w_goto 35 dX0_wishedFeet_82 (by decide) ?_
        refine w_drop [5] [some (aR 9 0), some (aI (f : Int)), some (aI ((c : Int) + 1)), some (aI (mGain ((h 4 0) 1) (mLw h (c + 1)) ((h 4 0) 2) (h 18 0) f)), some (aI (((c : Int) + 1) + 1)), none] rfl ?_
        refine ih35 (by omega) _ _ _ _ ?_ ?_ ?_ ?_
        · exact (by omega)
        · exact (by rw [mWish]; first | rw [if_pos (by omega)] | rw [if_neg (by omega)])
        · exact (by rw [mWish]; first | rw [if_pos (by omega)] | rw [if_neg (by omega)])
        · exact ⟨_, _, rfl⟩
  refine lp35 0 (Nat.zero_le _) _ _ _ _ ?_ ?_ ?_ ?_
  · exact (by omega)
  · exact rfl
  · exact rfl
  · exact ⟨h 19 0, _, (congrArg (fun z => fwUc z 20 0 _) (fwUc_self (fwUc (fwUc h 4 5 (h 4 0)) 17 5 (h 17 0)) 19 0)).symm⟩

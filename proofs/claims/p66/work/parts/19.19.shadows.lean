/-! FootLower$Shadows -/
def mSiP (N : Nat → Int) (n : Int) (j : Nat) : Bool := decide ((0 ≤ N (3 * j) ∧ N (3 * j) < n) ∧ (N (3 * j + 1) ≠ 0 ∧ -9 ≤ N (3 * j + 1) ∧ N (3 * j + 1) ≤ 9) ∧ 0 ≤ N (3 * j + 2) ∧ N (3 * j + 2) ≤ 1)
abbrev mSi (N : Nat → Int) (sz n : Int) : Prop := sz % 3 = 0 ∧ mAll (mSiP N n) (sz / 3).toNat = true
set_option maxRecDepth 100000 in
set_option maxHeartbeats 4000000 in
theorem c_X6_isSighting {d : Nat} {h : fwH} {Q : Option fwV → fwH → Prop} (s : Nat) (hG : gOk h 0) (hs : sOk h) (hsl : s < 4) (hz : 0 ≤ h 35 0 s) (k : Q (some (aI (fwB (mSi (h 33 s) (h 35 0 s) (h 4 0 1))))) h) : fwCt mX6_isSighting (d + 2) [aR 10 0, aI (s : Int)] h Q := by
  refine fwCt_of [some (aR 10 0), some (aI (s : Int)), none, none, none, none, none, none, none, none, none, none] rfl rfl rfl ?_
  have hgz := hG.1
  have hss := hs s hsl
  refine w_aload_n dX6_isSighting_0 rfl ?_
  refine w_getr 11 0 dX6_isSighting_1 fl_X6_25 rfl (by decide) ?_
  refine w_iload_n dX6_isSighting_4 rfl ?_
  refine w_callV (d := d + 1) (S := []) [aI (s : Int)] dX6_isSighting_5 ml_X6_51 ok_X8_sizeOf vi_X8_sizeOf rfl rfl (by decide) rfl (Nat.le_of_ble_eq_true rfl) ?_
  refine c_X8_sizeOf (d := (d + 1)) (s : Int) (by first | assumption | omega | decide) ?_
  show fwWP mX6_isSighting (d + 2) 8 [some (aR 10 0), some (aI (s : Int)), none, none, none, none, none, none, none, none, none, none] [aI (mSz (h 35 0) (s : Int))] h Q
  have hz1 := mSz_rng hs (s : Int)
  rw [mSz_in (h 35 0) hsl]
  refine w_istore_n [some (aR 10 0), some (aI (s : Int)), some (aI (h 35 0 s)), none, none, none, none, none, none, none, none, none] dX6_isSighting_8 rfl (by decide) ?_
  refine w_iload_n dX6_isSighting_9 rfl ?_
  refine w_iconst dX6_isSighting_10 ?_
  refine w_irem dX6_isSighting_11 (by omega) (by omega) ?_
  have hrm := fwRem_nn (x := h 35 0 s) (y := 3) (by omega) (by omega)
  rw [hrm]
  refine w_if_eq 17 dX6_isSighting_12 (by decide) (by omega) (fun c12 => ?_) (fun c12 => ?_)
  · refine w_iconst dX6_isSighting_17 ?_
    refine w_istore_n [some (aR 10 0), some (aI (s : Int)), some (aI (h 35 0 s)), some (aI 0), none, none, none, none, none, none, none, none] dX6_isSighting_18 rfl (by decide) ?_
    have lp19 : ∀ c : Nat, c ≤ (h 35 0 s / 3).toNat → ∀ (y19  : Int), y19 = 3 * (c : Int) → (mAll (mSiP (h 33 s) (h 4 0 1)) c = true) → fwWP mX6_isSighting (d + 2) 19 [some (aR 10 0), some (aI (s : Int)), some (aI (h 35 0 s)), some (aI y19), none, none, none, none, none, none, none, none] [] h Q := by
      refine fw_up (fun c hc19 ih19 => ?_)
      intro y19  ey19 iv19_0
      subst ey19
      show fwWP mX6_isSighting (d + 2) 19 [some (aR 10 0), some (aI (s : Int)), some (aI (h 35 0 s)), some (aI (3 * (c : Int))), none, none, none, none, none, none, none, none] [] h Q
      refine w_iload_n dX6_isSighting_19 rfl ?_
      refine w_iload_n dX6_isSighting_20 rfl ?_
      refine w_icmp_ge 156 dX6_isSighting_21 (by decide) (by omega) (by omega) (fun c21 => ?_) (fun c21 => ?_)
      · have ec19 : (h 35 0 s / 3).toNat = c := by omega
        subst ec19
        refine w_iconst dX6_isSighting_156 ?_
        exact w_zretE (P := mSi (h 33 s) (h 35 0 s) (h 4 0 1)) dX6_isSighting_157 rfl (by rw [fwB_t ⟨by omega, iv19_0⟩]) k
      · have hlt : c < (h 35 0 s / 3).toNat := by omega
        refine w_aload_n dX6_isSighting_24 rfl ?_
        refine w_getr 11 0 dX6_isSighting_25 fl_X6_25 rfl (by decide) ?_
        refine w_iload_n dX6_isSighting_28 rfl ?_
        refine w_iload_n dX6_isSighting_29 rfl ?_
        refine w_callV (d := d + 1) (S := []) [aI (s : Int), aI (3 * (c : Int))] dX6_isSighting_30 ml_X6_82 ok_X8_numberAt vi_X8_numberAt rfl rfl (by decide) rfl (Nat.le_of_ble_eq_true rfl) ?_
        refine c_X8_numberN (d := d) s (3 * c) (s : Int) (3 * (c : Int)) (by omega) (by omega) (by first | assumption | omega | decide) (by first | assumption | omega | decide) ?_
        show fwWP mX6_isSighting (d + 2) 33 [some (aR 10 0), some (aI (s : Int)), some (aI (h 35 0 s)), some (aI (3 * (c : Int))), none, none, none, none, none, none, none, none] [aJ (h 33 s (3 * c))] h Q
        have hl4 := (hs s (by omega)).2.2 (3 * c) (by omega)
        refine w_lstore [some (aR 10 0), some (aI (s : Int)), some (aI (h 35 0 s)), some (aI (3 * (c : Int))), some (aJ (h 33 s (3 * c))), none, none, none, none, none, none, none] dX6_isSighting_33 rfl (by decide) ?_
        refine w_aload_n dX6_isSighting_35 rfl ?_
        refine w_getr 11 0 dX6_isSighting_36 fl_X6_25 rfl (by decide) ?_
        refine w_iload_n dX6_isSighting_39 rfl ?_
        refine w_iload_n dX6_isSighting_40 rfl ?_
        refine w_iconst dX6_isSighting_41 ?_
        refine w_iadd dX6_isSighting_42 ?_
        refine w_callV (d := d + 1) (S := []) [aI (s : Int), aI ((3 * (c : Int)) + 1)] dX6_isSighting_43 ml_X6_82 ok_X8_numberAt vi_X8_numberAt rfl rfl (by decide) rfl (Nat.le_of_ble_eq_true rfl) ?_
        refine c_X8_numberN (d := d) s ((3 * c) + 1) (s : Int) ((3 * (c : Int)) + 1) (by omega) (by omega) (by first | assumption | omega | decide) (by first | assumption | omega | decide) ?_
        show fwWP mX6_isSighting (d + 2) 46 [some (aR 10 0), some (aI (s : Int)), some (aI (h 35 0 s)), some (aI (3 * (c : Int))), some (aJ (h 33 s (3 * c))), none, none, none, none, none, none, none] [aJ (h 33 s ((3 * c) + 1))] h Q
        have hl5 := (hs s (by omega)).2.2 ((3 * c) + 1) (by omega)
        refine w_lstore [some (aR 10 0), some (aI (s : Int)), some (aI (h 35 0 s)), some (aI (3 * (c : Int))), some (aJ (h 33 s (3 * c))), none, some (aJ (h 33 s ((3 * c) + 1))), none, none, none, none, none] dX6_isSighting_46 rfl (by decide) ?_
        refine w_aload_n dX6_isSighting_48 rfl ?_
        refine w_getr 11 0 dX6_isSighting_49 fl_X6_25 rfl (by decide) ?_
        refine w_iload_n dX6_isSighting_52 rfl ?_
        refine w_iload_n dX6_isSighting_53 rfl ?_
        refine w_iconst dX6_isSighting_54 ?_
        refine w_iadd dX6_isSighting_55 ?_
        refine w_callV (d := d + 1) (S := []) [aI (s : Int), aI ((3 * (c : Int)) + 2)] dX6_isSighting_56 ml_X6_82 ok_X8_numberAt vi_X8_numberAt rfl rfl (by decide) rfl (Nat.le_of_ble_eq_true rfl) ?_
        refine c_X8_numberN (d := d) s ((3 * c) + 2) (s : Int) ((3 * (c : Int)) + 2) (by omega) (by omega) (by first | assumption | omega | decide) (by first | assumption | omega | decide) ?_
        show fwWP mX6_isSighting (d + 2) 59 [some (aR 10 0), some (aI (s : Int)), some (aI (h 35 0 s)), some (aI (3 * (c : Int))), some (aJ (h 33 s (3 * c))), none, some (aJ (h 33 s ((3 * c) + 1))), none, none, none, none, none] [aJ (h 33 s ((3 * c) + 2))] h Q
        have hl6 := (hs s (by omega)).2.2 ((3 * c) + 2) (by omega)
        refine w_lstore [some (aR 10 0), some (aI (s : Int)), some (aI (h 35 0 s)), some (aI (3 * (c : Int))), some (aJ (h 33 s (3 * c))), none, some (aJ (h 33 s ((3 * c) + 1))), none, some (aJ (h 33 s ((3 * c) + 2))), none, none, none] dX6_isSighting_59 rfl (by decide) ?_
        have J90 : ∀ v : Int, v = fwB (0 ≤ h 33 s (3 * c) ∧ h 33 s (3 * c) < h 4 0 1) → fwWP mX6_isSighting (d + 2) 90 [some (aR 10 0), some (aI (s : Int)), some (aI (h 35 0 s)), some (aI (3 * (c : Int))), some (aJ (h 33 s (3 * c))), none, some (aJ (h 33 s ((3 * c) + 1))), none, some (aJ (h 33 s ((3 * c) + 2))), none, none, none] [aI v] h Q := by
          intro v ev
          subst ev
          refine w_istore [some (aR 10 0), some (aI (s : Int)), some (aI (h 35 0 s)), some (aI (3 * (c : Int))), some (aJ (h 33 s (3 * c))), none, some (aJ (h 33 s ((3 * c) + 1))), none, some (aJ (h 33 s ((3 * c) + 2))), none, some (aI (fwB (0 ≤ h 33 s (3 * c) ∧ h 33 s (3 * c) < h 4 0 1))), none] dX6_isSighting_90 rfl (by decide) ?_
          have J122 : ∀ v : Int, v = fwB (h 33 s (3 * c + 1) ≠ 0 ∧ -9 ≤ h 33 s (3 * c + 1) ∧ h 33 s (3 * c + 1) ≤ 9) → fwWP mX6_isSighting (d + 2) 122 [some (aR 10 0), some (aI (s : Int)), some (aI (h 35 0 s)), some (aI (3 * (c : Int))), some (aJ (h 33 s (3 * c))), none, some (aJ (h 33 s ((3 * c) + 1))), none, some (aJ (h 33 s ((3 * c) + 2))), none, some (aI (fwB (0 ≤ h 33 s (3 * c) ∧ h 33 s (3 * c) < h 4 0 1))), none] [aI v] h Q := by
            intro v ev
            subst ev
            refine w_istore [some (aR 10 0), some (aI (s : Int)), some (aI (h 35 0 s)), some (aI (3 * (c : Int))), some (aJ (h 33 s (3 * c))), none, some (aJ (h 33 s ((3 * c) + 1))), none, some (aJ (h 33 s ((3 * c) + 2))), none, some (aI (fwB (0 ≤ h 33 s (3 * c) ∧ h 33 s (3 * c) < h 4 0 1))), some (aI (fwB (h 33 s (3 * c + 1) ≠ 0 ∧ -9 ≤ h 33 s (3 * c + 1) ∧ h 33 s (3 * c + 1) ≤ 9)))] dX6_isSighting_122 rfl (by decide) ?_
            refine w_iload dX6_isSighting_124 rfl ?_
            refine w_ifB_eq 148 dX6_isSighting_126 (by decide) (fun c126 => ?_) (fun c126 => ?_)
            · refine w_iconst dX6_isSighting_148 ?_
              exact w_zretE (P := mSi (h 33 s) (h 35 0 s) (h 4 0 1)) dX6_isSighting_149 rfl (by rw [fwB_f (fun q => by have := (mAll_iff _ _).mp q.2 c hlt; unfold mSiP at this; simp only [decide_eq_true_eq] at this; omega)]) k
            · refine w_iload dX6_isSighting_129 rfl ?_
              refine w_ifB_eq 148 dX6_isSighting_131 (by decide) (fun c131 => ?_) (fun c131 => ?_)
              · refine w_iconst dX6_isSighting_148 ?_
                exact w_zretE (P := mSi (h 33 s) (h 35 0 s) (h 4 0 1)) dX6_isSighting_149 rfl (by rw [fwB_f (fun q => by have := (mAll_iff _ _).mp q.2 c hlt; unfold mSiP at this; simp only [decide_eq_true_eq] at this; omega)]) k
              · refine w_lload dX6_isSighting_134 rfl ?_
                refine w_lconst (z := 0) dX6_isSighting_136 rfl ?_
                refine w_lc_lt 148 dX6_isSighting_137 dX6_isSighting_138 (by decide) (by omega) (by omega) (fun c138 => ?_) (fun c138 => ?_)
                · refine w_iconst dX6_isSighting_148 ?_
                  exact w_zretE (P := mSi (h 33 s) (h 35 0 s) (h 4 0 1)) dX6_isSighting_149 rfl (by rw [fwB_f (fun q => by have := (mAll_iff _ _).mp q.2 c hlt; unfold mSiP at this; simp only [decide_eq_true_eq] at this; omega)]) k
                · refine w_lload dX6_isSighting_141 rfl ?_
                  refine w_lconst (z := 1) dX6_isSighting_143 rfl ?_
                  refine w_lc_le 150 dX6_isSighting_144 dX6_isSighting_145 (by decide) (by omega) (by omega) (fun c145 => ?_) (fun c145 => ?_)
                  · refine w_iinc [some (aR 10 0), some (aI (s : Int)), some (aI (h 35 0 s)), some (aI ((3 * (c : Int)) + 3)), some (aJ (h 33 s (3 * c))), none, some (aJ (h 33 s ((3 * c) + 1))), none, some (aJ (h 33 s ((3 * c) + 2))), none, some (aI (fwB (0 ≤ h 33 s (3 * c) ∧ h 33 s (3 * c) < h 4 0 1))), some (aI (fwB (h 33 s (3 * c + 1) ≠ 0 ∧ -9 ≤ h 33 s (3 * c + 1) ∧ h 33 s (3 * c + 1) ≤ 9)))] dX6_isSighting_150 rfl rfl (by decide) ?_
                    refine w_goto 19 dX6_isSighting_153 (by decide) ?_
                    refine w_drop [4, 6, 8, 10, 11] [some (aR 10 0), some (aI (s : Int)), some (aI (h 35 0 s)), some (aI ((3 * (c : Int)) + 3)), none, none, none, none, none, none, none, none] rfl ?_
                    refine ih19 (by omega) _ ?_ ?_
                    · exact (by omega)
                    · exact (by rw [mAll, iv19_0, Bool.true_and]; unfold mSiP; simp only [decide_eq_true_eq]; omega)
                  · refine w_iconst dX6_isSighting_148 ?_
                    exact w_zretE (P := mSi (h 33 s) (h 35 0 s) (h 4 0 1)) dX6_isSighting_149 rfl (by rw [fwB_f (fun q => by have := (mAll_iff _ _).mp q.2 c hlt; unfold mSiP at this; simp only [decide_eq_true_eq] at this; omega)]) k
          refine w_lload dX6_isSighting_92 rfl ?_
          refine w_lconst (z := 0) dX6_isSighting_94 rfl ?_
          refine w_lc_eq 121 dX6_isSighting_95 dX6_isSighting_96 (by decide) (by omega) (by omega) (fun c96 => ?_) (fun c96 => ?_)
          · refine w_iconst dX6_isSighting_121 ?_
            exact J122 _ (by first | omega | (rw [fwB_t (by omega)]) | (rw [fwB_f (by omega)]))
          · refine w_lload dX6_isSighting_99 rfl ?_
            refine w_ldc2 (n := -9) dX6_isSighting_101 cs_X6_89 ?_
            refine w_lc_lt 121 dX6_isSighting_104 dX6_isSighting_105 (by decide) (by omega) (by omega) (fun c105 => ?_) (fun c105 => ?_)
            · refine w_iconst dX6_isSighting_121 ?_
              exact J122 _ (by first | omega | (rw [fwB_t (by omega)]) | (rw [fwB_f (by omega)]))
            · refine w_lload dX6_isSighting_108 rfl ?_
              refine w_ldc2 (n := 9) dX6_isSighting_110 cs_X6_91 ?_
              refine w_lc_gt 121 dX6_isSighting_113 dX6_isSighting_114 (by decide) (by omega) (by omega) (fun c114 => ?_) (fun c114 => ?_)
              · refine w_iconst dX6_isSighting_121 ?_
                exact J122 _ (by first | omega | (rw [fwB_t (by omega)]) | (rw [fwB_f (by omega)]))
              · refine w_iconst dX6_isSighting_117 ?_
                refine w_goto 122 dX6_isSighting_118 (by decide) ?_
                exact J122 _ (by first | omega | (rw [fwB_t (by omega)]) | (rw [fwB_f (by omega)]))
        refine w_lload dX6_isSighting_61 rfl ?_
        refine w_lconst (z := 0) dX6_isSighting_63 rfl ?_
        refine w_lc_lt 89 dX6_isSighting_64 dX6_isSighting_65 (by decide) (by omega) (by omega) (fun c65 => ?_) (fun c65 => ?_)
        · refine w_iconst dX6_isSighting_89 ?_
          exact J90 _ (by first | omega | (rw [fwB_t (by omega)]) | (rw [fwB_f (by omega)]))
        · refine w_lload dX6_isSighting_68 rfl ?_
          refine w_aload_n dX6_isSighting_70 rfl ?_
          refine w_getr 3 0 dX6_isSighting_71 fl_X6_21 rfl (by decide) ?_
          refine w_getr 4 0 dX6_isSighting_74 fl_X6_62 rfl (by decide) ?_
          refine w_geti dX6_isSighting_77 fl_X6_86 rfl (by decide) ?_
          refine w_i2l dX6_isSighting_80 (by omega) ?_
          refine w_lc_ge 89 dX6_isSighting_81 dX6_isSighting_82 (by decide) (by omega) (by omega) (fun c82 => ?_) (fun c82 => ?_)
          · refine w_iconst dX6_isSighting_89 ?_
            exact J90 _ (by first | omega | (rw [fwB_t (by omega)]) | (rw [fwB_f (by omega)]))
          · refine w_iconst dX6_isSighting_85 ?_
            refine w_goto 90 dX6_isSighting_86 (by decide) ?_
            exact J90 _ (by first | omega | (rw [fwB_t (by omega)]) | (rw [fwB_f (by omega)]))
    refine lp19 0 (Nat.zero_le _) _ ?_ ?_
    · exact (by omega)
    · exact rfl
  · refine w_iconst dX6_isSighting_15 ?_
    exact w_zretE (P := mSi (h 33 s) (h 35 0 s) (h 4 0 1)) dX6_isSighting_16 rfl (by rw [fwB_f (fun q => by have := q.1; omega)]) k
def mMis (p : Nat → Bool) : Nat → Int × Int
  | 0 => (0, -1)
  | r + 1 => if p r = true then ((mMis p r).1 + 1, (r : Int)) else mMis p r
theorem mMis_rng (p : Nat → Bool) : ∀ r : Nat, (0 ≤ (mMis p r).1 ∧ (mMis p r).1 ≤ r) ∧ -1 ≤ (mMis p r).2 ∧ (mMis p r).2 < r := by
  intro r
  induction r with
  | zero => simp [mMis]
  | succ r ih =>
    rw [mMis]
    split
    · dsimp only; omega
    · omega
/-- a row of three does not hold, with n CELLS of heights H -/
def mMiP (n : Int) (H N : Nat → Int) (r : Nat) : Bool := decide (¬ (mShadeB n H (N (3 * r)) (N (3 * r + 1)) = true ↔ N (3 * r + 2) = 1))
theorem fwMis2 (h : fwH) (k : Nat) (f g : Nat → Int) (a b a' b' : Int) : fwUp (fwUp (fwUc (fwUc h 29 0 (fwFu f k a)) 30 0 (fwFu g k b)) 29 0 k a') 30 0 k b' = fwUc (fwUc h 29 0 (fwFu f k a')) 30 0 (fwFu g k b') := by
  have e : ∀ (f : Nat → Int) (a b : Int), fwFu (fwFu f k a) k b = fwFu f k b := by
    intro f a b
    funext s
    unfold fwFu
    split <;> rfl
  rw [fwUp_fu (fwUc (fwUc h 29 0 (fwFu f k a)) 30 0 (fwFu g k b)) 29 0 k a', fwUp_fu]
  show fwUc (fwUc (fwUc (fwUc h 29 0 (fwFu f k a)) 30 0 (fwFu g k b)) 29 0 (fwFu (fwFu f k a) k a')) 30 0 (fwFu (fwFu g k b) k b') = _
  rw [e, e]
  funext a b
  simp only [fwUc]
  (repeat' split)
  all_goals first | rfl | (exfalso; omega)
theorem fwMis1 (h : fwH) (k : Nat) (a b : Int) : fwUp (fwUp h 29 0 k a) 30 0 k b = fwUc (fwUc h 29 0 (fwFu (h 29 0) k a)) 30 0 (fwFu (h 30 0) k b) := by
  rw [fwUp_fu h 29 0 k a, fwUp_fu]
  rfl
theorem fwFu_fu (g : Nat → Int) (j : Nat) (a b : Int) : fwFu (fwFu g j a) j b = fwFu g j b := by
  funext s
  unfold fwFu
  split <;> rfl
theorem fwB_iff {P Q : Prop} [Decidable P] [Decidable Q] : fwB P = fwB Q ↔ (P ↔ Q) := by
  unfold fwB
  by_cases hp : P <;> by_cases hq : Q <;> simp [hp, hq]
set_option maxRecDepth 100000 in
set_option maxHeartbeats 4000000 in
theorem c_X6_countMisses {d : Nat} {h : fwH} {Q : Option fwV → fwH → Prop} (s m : Nat) (hG : gOk h 5) (hs : sOk h) (hsl : s < 4) (hm : m < 21) (hr : 0 ≤ h 10 0 6 ∧ h 10 0 6 ≤ 20) (hS : mAll (mSiP (h 33 s) (h 4 5 1)) (h 10 0 6).toNat = true) (k : Q none (fwUc (fwUc h 29 0 (fwFu (h 29 0) m (mMis (mMiP (h 4 5 1) (h 17 5) (h 33 s)) (h 10 0 6).toNat).1)) 30 0 (fwFu (h 30 0) m (mMis (mMiP (h 4 5 1) (h 17 5) (h 33 s)) (h 10 0 6).toNat).2))) : fwCt mX6_countMisses (d + 2) [aR 10 0, aI (s : Int), aI (m : Int)] h Q := by
  refine fwCt_of [some (aR 10 0), some (aI (s : Int)), some (aI (m : Int)), none, none, none, none] rfl rfl rfl ?_
  have hgz := hG.1
  refine w_iload_n dX6_countMisses_0 rfl ?_
  refine w_if_lt 13 dX6_countMisses_1 (by decide) (by omega) (fun c1 => ?_) (fun c1 => ?_)
  · (exfalso; omega)
  · refine w_iload_n dX6_countMisses_4 rfl ?_
    refine w_aload_n dX6_countMisses_5 rfl ?_
    refine w_getr 29 0 dX6_countMisses_6 fl_X6_9 rfl (by decide) ?_
    refine w_alen dX6_countMisses_9 rfl (by decide) (by decide) ?_
    refine w_icmp_lt 14 dX6_countMisses_10 (by decide) (by omega) (by omega) (fun c10 => ?_) (fun c10 => ?_)
    · refine w_aload_n dX6_countMisses_14 rfl ?_
      refine w_getr 29 0 dX6_countMisses_15 fl_X6_9 rfl (by decide) ?_
      refine w_iload_n dX6_countMisses_18 rfl ?_
      refine w_iconst dX6_countMisses_19 ?_
      refine w_iast dX6_countMisses_20 rfl (by decide) (by omega) (by omega) ?_
      refine w_aload_n dX6_countMisses_21 rfl ?_
      refine w_getr 30 0 dX6_countMisses_22 fl_X6_15 rfl (by decide) ?_
      refine w_iload_n dX6_countMisses_25 rfl ?_
      refine w_iconst dX6_countMisses_26 ?_
      refine w_iast dX6_countMisses_27 rfl (by decide) (by omega) (by omega) ?_
      refine w_iconst dX6_countMisses_28 ?_
      refine w_istore_n [some (aR 10 0), some (aI (s : Int)), some (aI (m : Int)), some (aI 0), none, none, none] dX6_countMisses_29 rfl (by decide) ?_
      have lp30 : ∀ c : Nat, c ≤ (h 10 0 6).toNat → ∀ (y30  : Int) (hh30 : fwH), y30 = (c : Int) → hh30 = (fwUc (fwUc h 29 0 (fwFu (h 29 0) m (mMis (mMiP (h 4 5 1) (h 17 5) (h 33 s)) c).1)) 30 0 (fwFu (h 30 0) m (mMis (mMiP (h 4 5 1) (h 17 5) (h 33 s)) c).2)) → fwWP mX6_countMisses (d + 2) 30 [some (aR 10 0), some (aI (s : Int)), some (aI (m : Int)), some (aI y30), none, none, none] [] hh30 Q := by
        refine fw_up (fun c hc30 ih30 => ?_)
        intro y30  hh30 ey30 eh30
        subst ey30
        subst eh30
        show fwWP mX6_countMisses (d + 2) 30 [some (aR 10 0), some (aI (s : Int)), some (aI (m : Int)), some (aI (c : Int)), none, none, none] [] (fwUc (fwUc h 29 0 (fwFu (h 29 0) m (mMis (mMiP (h 4 5 1) (h 17 5) (h 33 s)) c).1)) 30 0 (fwFu (h 30 0) m (mMis (mMiP (h 4 5 1) (h 17 5) (h 33 s)) c).2)) Q
        refine w_iload_n dX6_countMisses_30 rfl ?_
        refine w_aload_n dX6_countMisses_31 rfl ?_
        refine w_getiE (v := h 10 0 6) dX6_countMisses_32 fl_X6_55 rfl (by decide) (by first | rfl | simp [fwUp, fwUc]) ?_
        refine w_icmp_ge 132 dX6_countMisses_35 (by decide) (by omega) (by omega) (fun c35 => ?_) (fun c35 => ?_)
        · have ec30 : (h 10 0 6).toNat = c := by omega
          subst ec30
          exact w_vret dX6_countMisses_132 rfl (k)
        · have hsi := (mAll_iff _ _).mp hS c (by omega)
          unfold mSiP at hsi
          simp only [decide_eq_true_eq] at hsi
          have hmr := mMis_rng (mMiP (h 4 5 1) (h 17 5) (h 33 s)) c
          refine w_aload_n dX6_countMisses_38 rfl ?_
          refine w_getr 11 0 dX6_countMisses_39 fl_X6_25 rfl (by decide) ?_
          refine w_iload_n dX6_countMisses_42 rfl ?_
          refine w_iconst dX6_countMisses_43 ?_
          refine w_iload_n dX6_countMisses_44 rfl ?_
          refine w_imul dX6_countMisses_45 ?_
          refine w_callV (d := d + 1) (S := []) [aI (s : Int), aI (3 * (c : Int))] dX6_countMisses_46 ml_X6_82 ok_X8_numberAt vi_X8_numberAt rfl rfl (by decide) rfl (Nat.le_of_ble_eq_true rfl) ?_
          refine c_X8_numberN (d := d) s (3 * c) (s : Int) (3 * (c : Int)) (by omega) (by omega) (by first | assumption | omega | decide) (by first | assumption | omega | decide) ?_
          show fwWP mX6_countMisses (d + 2) 49 [some (aR 10 0), some (aI (s : Int)), some (aI (m : Int)), some (aI (c : Int)), none, none, none] [aJ (h 33 s (3 * c))] (fwUc (fwUc h 29 0 (fwFu (h 29 0) m (mMis (mMiP (h 4 5 1) (h 17 5) (h 33 s)) c).1)) 30 0 (fwFu (h 30 0) m (mMis (mMiP (h 4 5 1) (h 17 5) (h 33 s)) c).2)) Q
          have hl4 := (hs s (by omega)).2.2 (3 * c) (by omega)
          refine w_l2i dX6_countMisses_49 ?_
          refine w_istore [some (aR 10 0), some (aI (s : Int)), some (aI (m : Int)), some (aI (c : Int)), some (aI (h 33 s (3 * c))), none, none] dX6_countMisses_50 rfl (by decide) ?_
          refine w_aload_n dX6_countMisses_52 rfl ?_
          refine w_getr 11 0 dX6_countMisses_53 fl_X6_25 rfl (by decide) ?_
          refine w_iload_n dX6_countMisses_56 rfl ?_
          refine w_iconst dX6_countMisses_57 ?_
          refine w_iload_n dX6_countMisses_58 rfl ?_
          refine w_imul dX6_countMisses_59 ?_
          refine w_iconst dX6_countMisses_60 ?_
          refine w_iadd dX6_countMisses_61 ?_
          refine w_callV (d := d + 1) (S := []) [aI (s : Int), aI ((3 * (c : Int)) + 1)] dX6_countMisses_62 ml_X6_82 ok_X8_numberAt vi_X8_numberAt rfl rfl (by decide) rfl (Nat.le_of_ble_eq_true rfl) ?_
          refine c_X8_numberN (d := d) s ((3 * c) + 1) (s : Int) ((3 * (c : Int)) + 1) (by omega) (by omega) (by first | assumption | omega | decide) (by first | assumption | omega | decide) ?_
          show fwWP mX6_countMisses (d + 2) 65 [some (aR 10 0), some (aI (s : Int)), some (aI (m : Int)), some (aI (c : Int)), some (aI (h 33 s (3 * c))), none, none] [aJ (h 33 s ((3 * c) + 1))] (fwUc (fwUc h 29 0 (fwFu (h 29 0) m (mMis (mMiP (h 4 5 1) (h 17 5) (h 33 s)) c).1)) 30 0 (fwFu (h 30 0) m (mMis (mMiP (h 4 5 1) (h 17 5) (h 33 s)) c).2)) Q
          have hl5 := (hs s (by omega)).2.2 ((3 * c) + 1) (by omega)
          refine w_l2i dX6_countMisses_65 ?_
          refine w_istore [some (aR 10 0), some (aI (s : Int)), some (aI (m : Int)), some (aI (c : Int)), some (aI (h 33 s (3 * c))), some (aI (h 33 s ((3 * c) + 1))), none] dX6_countMisses_66 rfl (by decide) ?_
          have J91 : ∀ v : Int, v = fwB (h 33 s (3 * c + 2) = 1) → fwWP mX6_countMisses (d + 2) 91 [some (aR 10 0), some (aI (s : Int)), some (aI (m : Int)), some (aI (c : Int)), some (aI (h 33 s (3 * c))), some (aI (h 33 s ((3 * c) + 1))), none] [aI v] (fwUc (fwUc h 29 0 (fwFu (h 29 0) m (mMis (mMiP (h 4 5 1) (h 17 5) (h 33 s)) c).1)) 30 0 (fwFu (h 30 0) m (mMis (mMiP (h 4 5 1) (h 17 5) (h 33 s)) c).2)) Q := by
            intro v ev
            subst ev
            refine w_istore [some (aR 10 0), some (aI (s : Int)), some (aI (m : Int)), some (aI (c : Int)), some (aI (h 33 s (3 * c))), some (aI (h 33 s ((3 * c) + 1))), some (aI (fwB (h 33 s (3 * c + 2) = 1)))] dX6_countMisses_91 rfl (by decide) ?_
            have hG6 : gOk (fwUc (fwUc h 29 0 (fwFu (h 29 0) m (mMis (mMiP (h 4 5 1) (h 17 5) (h 33 s)) c).1)) 30 0 (fwFu (h 30 0) m (mMis (mMiP (h 4 5 1) (h 17 5) (h 33 s)) c).2)) 5 := ⟨hG.1, hG.2.1, hG.2.2.1, hG.2.2.2.1, hG.2.2.2.2⟩
            refine w_aload_n dX6_countMisses_93 rfl ?_
            refine w_getr 4 5 dX6_countMisses_94 fl_X6_29 rfl (by decide) ?_
            refine w_iload dX6_countMisses_97 rfl ?_
            refine w_iload dX6_countMisses_99 rfl ?_
            refine w_callV (d := d + 1) (S := []) [aI (h 33 s (3 * c)), aI (h 33 s ((3 * c) + 1))] dX6_countMisses_101 ml_X6_93 ok_X1_isShaded vi_X1_isShaded rfl rfl (by decide) rfl (Nat.le_of_ble_eq_true rfl) ?_
            refine c_X1_isShaded (d := d) 5 (h 33 s (3 * c)) (h 33 s ((3 * c) + 1)) (by decide) (by first | assumption | omega | decide) (by first | assumption | omega | decide) (by first | assumption | omega | decide) ?_
            show fwWP mX6_countMisses (d + 2) 104 [some (aR 10 0), some (aI (s : Int)), some (aI (m : Int)), some (aI (c : Int)), some (aI (h 33 s (3 * c))), some (aI (h 33 s ((3 * c) + 1))), some (aI (fwB (h 33 s (3 * c + 2) = 1)))] [aI (fwB (mShadeB (h 4 5 1) (h 17 5) (h 33 s (3 * c)) (h 33 s ((3 * c) + 1)) = true))] (fwUc (fwUc h 29 0 (fwFu (h 29 0) m (mMis (mMiP (h 4 5 1) (h 17 5) (h 33 s)) c).1)) 30 0 (fwFu (h 30 0) m (mMis (mMiP (h 4 5 1) (h 17 5) (h 33 s)) c).2)) Q
            have hf1 := fwB_rng (mShadeB (h 4 5 1) (h 17 5) (h 33 s (3 * c)) (h 33 s (3 * c + 1)) = true)
            have hf2 := fwB_rng (h 33 s (3 * c + 2) = 1)
            refine w_iload dX6_countMisses_104 rfl ?_
            refine w_icmp_eq 126 dX6_countMisses_106 (by decide) (by omega) (by omega) (fun c106 => ?_) (fun c106 => ?_)
            · refine w_iinc [some (aR 10 0), some (aI (s : Int)), some (aI (m : Int)), some (aI ((c : Int) + 1)), some (aI (h 33 s (3 * c))), some (aI (h 33 s ((3 * c) + 1))), some (aI (fwB (h 33 s (3 * c + 2) = 1)))] dX6_countMisses_126 rfl rfl (by decide) ?_
              refine w_goto 30 dX6_countMisses_129 (by decide) ?_
              refine w_drop [4, 5, 6] [some (aR 10 0), some (aI (s : Int)), some (aI (m : Int)), some (aI ((c : Int) + 1)), none, none, none] rfl ?_
              refine ih30 (by omega) _ _ ?_ ?_
              · exact (by omega)
              · exact (by rw [mMis, if_neg (show ¬ (mMiP (h 4 5 1) (h 17 5) (h 33 s)) c = true from fun q => (of_decide_eq_true q) (fwB_iff.mp c106))])
            · refine w_aload_n dX6_countMisses_109 rfl ?_
              refine w_getr 29 0 dX6_countMisses_110 fl_X6_9 rfl (by decide) ?_
              refine w_iload_n dX6_countMisses_113 rfl ?_
              refine w_dup2 dX6_countMisses_114 rfl rfl ?_
              refine w_ialdE (v := (mMis (mMiP (h 4 5 1) (h 17 5) (h 33 s)) c).1) dX6_countMisses_115 rfl (by decide) (by omega) (by omega) (by rw [Int.toNat_natCast]; exact if_pos rfl) ?_
              refine w_iconst dX6_countMisses_116 ?_
              refine w_iadd dX6_countMisses_117 ?_
              refine w_iast dX6_countMisses_118 rfl (by decide) (by omega) (by omega) ?_
              refine w_aload_n dX6_countMisses_119 rfl ?_
              refine w_getr 30 0 dX6_countMisses_120 fl_X6_15 rfl (by decide) ?_
              refine w_iload_n dX6_countMisses_123 rfl ?_
              refine w_iload_n dX6_countMisses_124 rfl ?_
              refine w_iast dX6_countMisses_125 rfl (by decide) (by omega) (by omega) ?_
              refine w_iinc [some (aR 10 0), some (aI (s : Int)), some (aI (m : Int)), some (aI ((c : Int) + 1)), some (aI (h 33 s (3 * c))), some (aI (h 33 s ((3 * c) + 1))), some (aI (fwB (h 33 s (3 * c + 2) = 1)))] dX6_countMisses_126 rfl rfl (by decide) ?_
              refine w_goto 30 dX6_countMisses_129 (by decide) ?_
              refine w_drop [4, 5, 6] [some (aR 10 0), some (aI (s : Int)), some (aI (m : Int)), some (aI ((c : Int) + 1)), none, none, none] rfl ?_
              refine ih30 (by omega) _ _ ?_ ?_
              · exact (by omega)
              · exact (by rw [Int.toNat_natCast, fwMis2, mMis, if_pos (show (mMiP (h 4 5 1) (h 17 5) (h 33 s)) c = true from decide_eq_true (fun q => c106 (fwB_iff.mpr q)))])
          refine w_aload_n dX6_countMisses_68 rfl ?_
          refine w_getr 11 0 dX6_countMisses_69 fl_X6_25 rfl (by decide) ?_
          refine w_iload_n dX6_countMisses_72 rfl ?_
          refine w_iconst dX6_countMisses_73 ?_
          refine w_iload_n dX6_countMisses_74 rfl ?_
          refine w_imul dX6_countMisses_75 ?_
          refine w_iconst dX6_countMisses_76 ?_
          refine w_iadd dX6_countMisses_77 ?_
          refine w_callV (d := d + 1) (S := []) [aI (s : Int), aI ((3 * (c : Int)) + 2)] dX6_countMisses_78 ml_X6_82 ok_X8_numberAt vi_X8_numberAt rfl rfl (by decide) rfl (Nat.le_of_ble_eq_true rfl) ?_
          refine c_X8_numberN (d := d) s ((3 * c) + 2) (s : Int) ((3 * (c : Int)) + 2) (by omega) (by omega) (by first | assumption | omega | decide) (by first | assumption | omega | decide) ?_
          show fwWP mX6_countMisses (d + 2) 81 [some (aR 10 0), some (aI (s : Int)), some (aI (m : Int)), some (aI (c : Int)), some (aI (h 33 s (3 * c))), some (aI (h 33 s ((3 * c) + 1))), none] [aJ (h 33 s ((3 * c) + 2))] (fwUc (fwUc h 29 0 (fwFu (h 29 0) m (mMis (mMiP (h 4 5 1) (h 17 5) (h 33 s)) c).1)) 30 0 (fwFu (h 30 0) m (mMis (mMiP (h 4 5 1) (h 17 5) (h 33 s)) c).2)) Q
          have hl7 := (hs s (by omega)).2.2 ((3 * c) + 2) (by omega)
          refine w_lconst (z := 1) dX6_countMisses_81 rfl ?_
          refine w_lc_ne 90 dX6_countMisses_82 dX6_countMisses_83 (by decide) (by omega) (by omega) (fun c83 => ?_) (fun c83 => ?_)
          · refine w_iconst dX6_countMisses_90 ?_
            exact J91 _ (by first | omega | (rw [fwB_t (by omega)]) | (rw [fwB_f (by omega)]))
          · refine w_iconst dX6_countMisses_86 ?_
            refine w_goto 91 dX6_countMisses_87 (by decide) ?_
            exact J91 _ (by first | omega | (rw [fwB_t (by omega)]) | (rw [fwB_f (by omega)]))
      refine lp30 0 (Nat.zero_le _) _ _ ?_ ?_
      · exact (by omega)
      · exact (by rw [Int.toNat_natCast]; exact fwMis1 h m 0 (-1))
    · (exfalso; omega)
/-- the heights with so many FEET more on TOP -/
def mOH (h : fwH) (k : Nat) : Nat → Int := fwFu (h 17 0) (mTop (h 17 0) (h 4 0 4) (h 4 0 1).toNat).toNat (h 17 0 (mTop (h 17 0) (h 4 0 4) (h 4 0 1).toNat).toNat + k)
theorem mOH_0 (h : fwH) : mOH h 0 = h 17 0 := by
  funext s
  unfold mOH fwFu
  split
  · rename_i e; subst e; simp
  · rfl
theorem mOH_up (h : fwH) (k : Nat) : fwFu (mOH h k) (mTop (h 17 0) (h 4 0 4) (h 4 0 1).toNat).toNat (mOH h k (mTop (h 17 0) (h 4 0 4) (h 4 0 1).toNat).toNat + 1) = mOH h (k + 1) := by
  unfold mOH
  rw [fwFu_fu]
  refine congrArg (fwFu (h 17 0) _) ?_
  unfold fwFu
  rw [if_pos rfl]
  omega
theorem mOH_rng {h : fwH} (hM : ∀ c : Nat, c < 10 → 0 ≤ h 17 0 c ∧ h 17 0 c ≤ 900) {k : Nat} (hk : k ≤ 50) (hn : h 4 0 1 ≤ 10) : ∀ c : Nat, c < 10 → 0 ≤ mOH h k c ∧ mOH h k c ≤ 1000 := by
  intro c hc
  have h1 := hM c hc
  unfold mOH fwFu
  split
  · rename_i e
    rw [← e]
    omega
  · omega
def mMs (h : fwH) (s k : Nat) : Int × Int := mMis (mMiP (h 4 0 1) (mOH h k) (h 33 s)) (h 35 0 s / 3).toNat
/-- the FEET more by which all rows of three hold -/
def mPos (h : fwH) (s : Nat) : Nat → Int := mBits (fun k => decide ((mMs h s k).1 = 0))
def ldH (h : fwH) (s c : Nat) : fwH := fwUc (fwUc (fwUc (fwUc (fwUc h 4 5 (h 4 0)) 10 0 (fwFu (fwFu (h 10 0) 6 (h 35 0 s / 3)) 7 (mPos h s c))) 17 5 (mOH h c)) 29 0 (fun k => (mMs h s k).1)) 30 0 (fun k => (mMs h s k).2)
theorem ldE0 (h : fwH) (s : Nat) : (fwUc (fwUc (fwUc h 4 5 (h 4 0)) 10 0 (fwFu (fwFu (h 10 0) 6 (h 35 0 s / 3)) 7 0)) 17 5 (h 17 0)) = (fwUc (fwUc (fwUc (fwUc (fwUc h 4 5 (h 4 0)) 10 0 (fwFu (fwFu (h 10 0) 6 (h 35 0 s / 3)) 7 (mPos h s 0))) 17 5 (h 17 0)) 29 0 (h 29 0)) 30 0 (h 30 0)) := by
  rw [show fwUc (fwUc (fwUc (fwUc h 4 5 (h 4 0)) 10 0 (fwFu (fwFu (h 10 0) 6 (h 35 0 s / 3)) 7 (mPos h s 0))) 17 5 (h 17 0)) 29 0 (h 29 0) = (fwUc (fwUc (fwUc h 4 5 (h 4 0)) 10 0 (fwFu (fwFu (h 10 0) 6 (h 35 0 s / 3)) 7 (mPos h s 0))) 17 5 (h 17 0)) from fwUc_self (fwUc (fwUc (fwUc h 4 5 (h 4 0)) 10 0 (fwFu (fwFu (h 10 0) 6 (h 35 0 s / 3)) 7 (mPos h s 0))) 17 5 (h 17 0)) 29 0]
  exact (fwUc_self (fwUc (fwUc (fwUc h 4 5 (h 4 0)) 10 0 (fwFu (fwFu (h 10 0) 6 (h 35 0 s / 3)) 7 (mPos h s 0))) 17 5 (h 17 0)) 30 0).symm
set_option maxRecDepth 100000 in
set_option maxHeartbeats 4000000 in
theorem c_X6_load {d : Nat} {h : fwH} {Q : Option fwV → fwH → Prop} (s : Nat) (hP : pOk h 0) (hG : gOk h 0) (hn : 1 ≤ h 4 0 1) (hM : ∀ c : Nat, c < 10 → h 17 0 c ≤ 999) (hs : sOk h) (hM9 : ∀ c : Nat, c < 10 → 0 ≤ h 17 0 c ∧ h 17 0 c ≤ 900) (hl : 0 ≤ h 3 0 6 ∧ h 3 0 6 ≤ 1000) (hto : 0 < h 3 0 6) (hsl : s < 4) (hz : 0 ≤ h 35 0 s) (hSi : mSi (h 33 s) (h 35 0 s) (h 4 0 1)) (k : Q (some (aI 0)) (ldH h s 21)) : fwCt mX6_load (d + 4) [aR 10 0, aI (s : Int)] h Q := by
  refine fwCt_of [some (aR 10 0), some (aI (s : Int)), none, none] rfl rfl rfl ?_
  obtain ⟨⟨g1, g2⟩, ⟨g3, g4⟩, ⟨g5, g6⟩, g7, g8⟩ := id hG
  have hss := hs s hsl
  refine w_aload_n dX6_load_0 rfl ?_
  refine w_getr 11 0 dX6_load_1 fl_X6_25 rfl (by decide) ?_
  refine w_iload_n dX6_load_4 rfl ?_
  refine w_callV (d := d + 3) (S := []) [aI (s : Int)] dX6_load_5 ml_X6_33 ok_X8_has vi_X8_has rfl rfl (by decide) rfl (Nat.le_of_ble_eq_true rfl) ?_
  refine c_X8_has (d := (d + 3)) (s : Int) (by first | assumption | omega | decide) ?_
  show fwWP mX6_load (d + 4) 8 [some (aR 10 0), some (aI (s : Int)), none, none] [aI (fwB (0 ≤ (s : Int) ∧ (s : Int) < 4))] h Q
  refine w_ifB_eq 21 dX6_load_8 (by decide) (fun c8 => ?_) (fun c8 => ?_)
  · (exfalso; omega)
  · refine w_aload_n dX6_load_11 rfl ?_
    refine w_getr 3 0 dX6_load_12 fl_X6_21 rfl (by decide) ?_
    refine w_callV (d := d + 3) (S := []) [] dX6_load_15 ml_X6_39 ok_X2_isTold vi_X2_isTold rfl rfl (by decide) rfl (Nat.le_of_ble_eq_true rfl) ?_
    refine c_X2_isTold (d := (d + 3)) (show 0 ≤ h 3 0 6 ∧ h 3 0 6 ≤ 1000 by first | assumption | omega | decide) ?_
    show fwWP mX6_load (d + 4) 18 [some (aR 10 0), some (aI (s : Int)), none, none] [aI (fwB (0 < h 3 0 6))] h Q
    refine w_ifB_ne 24 dX6_load_18 (by decide) (fun c18 => ?_) (fun c18 => ?_)
    · refine w_aload_n dX6_load_24 rfl ?_
      refine w_getr 11 0 dX6_load_25 fl_X6_25 rfl (by decide) ?_
      refine w_iload_n dX6_load_28 rfl ?_
      refine w_callV (d := d + 3) (S := []) [aI (s : Int)] dX6_load_29 ml_X6_45 ok_X8_isLaid vi_X8_isLaid rfl rfl (by decide) rfl (Nat.le_of_ble_eq_true rfl) ?_
      refine c_X8_isLaid (d := (d + 2)) (s : Int) (by first | assumption | omega | decide) (by first | assumption | omega | decide) ?_
      show fwWP mX6_load (d + 4) 32 [some (aR 10 0), some (aI (s : Int)), none, none] [aI (fwB (mSz (h 35 0) (s : Int) ≠ -1))] h Q
      rw [mSz_in (h 35 0) hsl]
      refine w_ifB_ne 38 dX6_load_32 (by decide) (fun c32 => ?_) (fun c32 => ?_)
      · refine w_aload_n dX6_load_38 rfl ?_
        refine w_iload_n dX6_load_39 rfl ?_
        refine w_callV (d := d + 3) (S := []) [aI (s : Int)] dX6_load_40 ml_X6_48 ok_X6_isSighting vi_X6_isSighting rfl rfl (by decide) rfl (Nat.le_of_ble_eq_true rfl) ?_
        refine c_X6_isSighting (d := (d + 1)) s (by first | assumption | omega | decide) (by first | assumption | omega | decide) (by first | assumption | omega | decide) (by first | assumption | omega | decide) ?_
        show fwWP mX6_load (d + 4) 43 [some (aR 10 0), some (aI (s : Int)), none, none] [aI (fwB (mSi (h 33 s) (h 35 0 s) (h 4 0 1)))] h Q
        refine w_ifB_ne 49 dX6_load_43 (by decide) (fun c43 => ?_) (fun c43 => ?_)
        · refine w_aload_n dX6_load_49 rfl ?_
          refine w_aload_n dX6_load_50 rfl ?_
          refine w_getr 11 0 dX6_load_51 fl_X6_25 rfl (by decide) ?_
          refine w_iload_n dX6_load_54 rfl ?_
          refine w_callV (d := d + 3) (S := [aR 10 0]) [aI (s : Int)] dX6_load_55 ml_X6_51 ok_X8_sizeOf vi_X8_sizeOf rfl rfl (by decide) rfl (Nat.le_of_ble_eq_true rfl) ?_
          refine c_X8_sizeOf (d := (d + 3)) (s : Int) (by first | assumption | omega | decide) ?_
          show fwWP mX6_load (d + 4) 58 [some (aR 10 0), some (aI (s : Int)), none, none] [aI (mSz (h 35 0) (s : Int)), aR 10 0] h Q
          have hz5 := mSz_rng hs (s : Int)
          rw [mSz_in (h 35 0) hsl]
          refine w_iconst dX6_load_58 ?_
          refine w_idiv dX6_load_59 (by omega) (by omega) ?_
          rw [fwDiv_nn (x := h 35 0 s) (y := 3) (by omega) (by omega)]
          refine w_puti dX6_load_60 fl_X6_55 fp_10_6 rfl (by decide) ?_
          rw [show (fwUp h 10 0 6 (h 35 0 s / 3)) = (fwUc h 10 0 (fwFu (h 10 0) 6 (h 35 0 s / 3))) from fwUp_fu _ _ _ _ _]
          refine w_aload_n dX6_load_63 rfl ?_
          refine w_iconst dX6_load_64 ?_
          refine w_puti dX6_load_65 fl_X6_59 fp_10_7 rfl (by decide) ?_
          rw [show (fwUp (fwUc h 10 0 (fwFu (h 10 0) 6 (h 35 0 s / 3))) 10 0 7 0) = (fwUc (fwUc h 10 0 (fwFu (h 10 0) 6 (h 35 0 s / 3))) 10 0 (fwFu ((fwFu (h 10 0) 6 (h 35 0 s / 3))) 7 0)) from fwUp_fu _ _ _ _ _]
          rw [show (fwUc (fwUc h 10 0 (fwFu (h 10 0) 6 (h 35 0 s / 3))) 10 0 (fwFu ((fwFu (h 10 0) 6 (h 35 0 s / 3))) 7 0)) = (fwUc h 10 0 (fwFu ((fwFu (h 10 0) 6 (h 35 0 s / 3))) 7 0)) from by funext a b; simp only [fwUc]; (repeat' split); all_goals first | rfl | (exfalso; omega)]
          refine w_aload_n dX6_load_68 rfl ?_
          refine w_getr 4 5 dX6_load_69 fl_X6_29 rfl (by decide) ?_
          refine w_aload_n dX6_load_72 rfl ?_
          refine w_getr 3 0 dX6_load_73 fl_X6_21 rfl (by decide) ?_
          refine w_getr 4 0 dX6_load_76 fl_X6_62 rfl (by decide) ?_
          refine w_callV (d := d + 3) (S := []) [aR 4 0] dX6_load_79 ml_X6_65 ok_X1_copyFrom vi_X1_copyFrom rfl rfl (by decide) rfl (Nat.le_of_ble_eq_true rfl) ?_
          refine c_X1_copyFrom (d := (d + 3)) 5 0 (by decide) (by decide) (by first | assumption | omega | decide) (by first | assumption | omega | decide) ?_
          show fwWP mX6_load (d + 4) 82 [some (aR 10 0), some (aI (s : Int)), none, none] [] (fwUc (fwUc (fwUc h 10 0 (fwFu ((fwFu (h 10 0) 6 (h 35 0 s / 3))) 7 0)) 17 5 (h 17 0)) 4 5 (h 4 0)) Q
          rw [show fwUc (fwUc (fwUc h 10 0 (fwFu ((fwFu (h 10 0) 6 (h 35 0 s / 3))) 7 0)) 17 5 (h 17 0)) 4 5 (h 4 0) = (fwUc (fwUc (fwUc h 4 5 (h 4 0)) 10 0 (fwFu ((fwFu (h 10 0) 6 (h 35 0 s / 3))) 7 0)) 17 5 (h 17 0)) from by funext a b; simp only [fwUc]; (repeat' split); all_goals first | rfl | (exfalso; omega)]
          have hG5 : gOk (fwUc (fwUc (fwUc h 4 5 (h 4 0)) 10 0 (fwFu ((fwFu (h 10 0) 6 (h 35 0 s / 3))) 7 0)) 17 5 (h 17 0)) 5 := ⟨hG.1, hG.2.1, hG.2.2.1, hG.2.2.2.1, hG.2.2.2.2⟩
          have ht := mTop_rng (h 17 0) (h 4 0 4) (h 4 0 1).toNat
          refine w_aload_n dX6_load_82 rfl ?_
          refine w_getr 4 5 dX6_load_83 fl_X6_29 rfl (by decide) ?_
          refine w_callV (d := d + 3) (S := []) [] dX6_load_86 ml_X6_71 ok_X1_topCell vi_X1_topCell rfl rfl (by decide) rfl (Nat.le_of_ble_eq_true rfl) ?_
          refine c_X1_topCell (d := (d + 2)) 5 (by decide) (by first | assumption | omega | decide) ?_
          show fwWP mX6_load (d + 4) 89 [some (aR 10 0), some (aI (s : Int)), none, none] [aI (mTop (h 17 0) ((h 4 0) 4) ((h 4 0) 1).toNat)] (fwUc (fwUc (fwUc h 4 5 (h 4 0)) 10 0 (fwFu ((fwFu (h 10 0) 6 (h 35 0 s / 3))) 7 0)) 17 5 (h 17 0)) Q
          refine w_istore_n [some (aR 10 0), some (aI (s : Int)), some (aI (mTop (h 17 0) ((h 4 0) 4) ((h 4 0) 1).toNat)), none] dX6_load_89 rfl (by decide) ?_
          refine w_iconst dX6_load_90 ?_
          refine w_istore_n [some (aR 10 0), some (aI (s : Int)), some (aI (mTop (h 17 0) ((h 4 0) 4) ((h 4 0) 1).toNat)), some (aI 0)] dX6_load_91 rfl (by decide) ?_
          have lp92 : ∀ c : Nat, c ≤ 21 → ∀ (y92  : Int) (hh92 : fwH), y92 = (c : Int) → hh92 = (fwUc (fwUc (fwUc (fwUc (fwUc h 4 5 (h 4 0)) 10 0 (fwFu (fwFu (h 10 0) 6 (h 35 0 s / 3)) 7 (mPos h s c))) 17 5 (mOH h c)) 29 0 (fwFl (fun k => (mMs h s k).1) (h 29 0) c)) 30 0 (fwFl (fun k => (mMs h s k).2) (h 30 0) c)) → fwWP mX6_load (d + 4) 92 [some (aR 10 0), some (aI (s : Int)), some (aI (mTop (h 17 0) ((h 4 0) 4) ((h 4 0) 1).toNat)), some (aI y92)] [] hh92 Q := by
            refine fw_up (fun c hc92 ih92 => ?_)
            intro y92  hh92 ey92 eh92
            subst ey92
            subst eh92
            show fwWP mX6_load (d + 4) 92 [some (aR 10 0), some (aI (s : Int)), some (aI (mTop (h 17 0) ((h 4 0) 4) ((h 4 0) 1).toNat)), some (aI (c : Int))] [] (fwUc (fwUc (fwUc (fwUc (fwUc h 4 5 (h 4 0)) 10 0 (fwFu (fwFu (h 10 0) 6 (h 35 0 s / 3)) 7 (mPos h s c))) 17 5 (mOH h c)) 29 0 (fwFl (fun k => (mMs h s k).1) (h 29 0) c)) 30 0 (fwFl (fun k => (mMs h s k).2) (h 30 0) c)) Q
            refine w_iload_n dX6_load_92 rfl ?_
            refine w_bipush dX6_load_93 rfl ?_
            refine w_icmp_gt 140 dX6_load_95 (by decide) (by omega) (by omega) (fun c95 => ?_) (fun c95 => ?_)
            · have ec92 : 21 = c := by omega
              subst ec92
              refine w_iconst dX6_load_140 ?_
              refine w_heq (ldH h s 21) ?_ ?_
              · exact fwE.tr (fwE.uc (fwFl_all (by decide)) 30 0 _) (fwFl_all (by decide))
              · exact w_iret dX6_load_141 rfl k
            · have hor := mOH_rng hM9 (k := c) (by omega) g2
              have hG6 : gOk (fwUc (fwUc (fwUc (fwUc (fwUc h 4 5 (h 4 0)) 10 0 (fwFu (fwFu (h 10 0) 6 (h 35 0 s / 3)) 7 (mPos h s c))) 17 5 (mOH h c)) 29 0 (fwFl (fun k => (mMs h s k).1) (h 29 0) c)) 30 0 (fwFl (fun k => (mMs h s k).2) (h 30 0) c)) 5 := ⟨hG.1, hG.2.1, hG.2.2.1, hG.2.2.2.1, hor⟩
              refine w_aload_n dX6_load_98 rfl ?_
              refine w_iload_n dX6_load_99 rfl ?_
              refine w_iload_n dX6_load_100 rfl ?_
              refine w_callV (d := d + 3) (S := []) [aI (s : Int), aI (c : Int)] dX6_load_101 ml_X6_75 ok_X6_countMisses vi_X6_countMisses rfl rfl (by decide) rfl (Nat.le_of_ble_eq_true rfl) ?_
              refine c_X6_countMisses (d := (d + 1)) s c (by first | assumption | omega | decide) (by first | assumption | omega | decide) (by first | assumption | omega | decide) (by omega) (show 0 ≤ h 35 0 s / 3 ∧ h 35 0 s / 3 ≤ 20 by omega) hSi.2 ?_
              show fwWP mX6_load (d + 4) 104 [some (aR 10 0), some (aI (s : Int)), some (aI (mTop (h 17 0) ((h 4 0) 4) ((h 4 0) 1).toNat)), some (aI (c : Int))] [] (fwUc (fwUc (fwUc (fwUc (fwUc (fwUc (fwUc h 4 5 (h 4 0)) 10 0 (fwFu (fwFu (h 10 0) 6 (h 35 0 s / 3)) 7 (mPos h s c))) 17 5 (mOH h c)) 29 0 (fwFl (fun k => (mMs h s k).1) (h 29 0) c)) 30 0 (fwFl (fun k => (mMs h s k).2) (h 30 0) c)) 29 0 (fwFu (fwFl (fun k => (mMs h s k).1) (h 29 0) c) c (mMs h s c).1)) 30 0 (fwFu (fwFl (fun k => (mMs h s k).2) (h 30 0) c) c (mMs h s c).2)) Q
              rw [show fwUc (fwUc (fwUc (fwUc (fwUc (fwUc (fwUc h 4 5 (h 4 0)) 10 0 (fwFu (fwFu (h 10 0) 6 (h 35 0 s / 3)) 7 (mPos h s c))) 17 5 (mOH h c)) 29 0 (fwFl (fun k => (mMs h s k).1) (h 29 0) c)) 30 0 (fwFl (fun k => (mMs h s k).2) (h 30 0) c)) 29 0 (fwFu (fwFl (fun k => (mMs h s k).1) (h 29 0) c) c (mMs h s c).1)) 30 0 (fwFu (fwFl (fun k => (mMs h s k).2) (h 30 0) c) c (mMs h s c).2) = (fwUc (fwUc (fwUc (fwUc (fwUc h 4 5 (h 4 0)) 10 0 (fwFu (fwFu (h 10 0) 6 (h 35 0 s / 3)) 7 (mPos h s c))) 17 5 (mOH h c)) 29 0 (fwFu (fwFl (fun k => (mMs h s k).1) (h 29 0) c) c (mMs h s c).1)) 30 0 (fwFu (fwFl (fun k => (mMs h s k).2) (h 30 0) c) c (mMs h s c).2)) from by funext a b; simp only [fwUc]; (repeat' split); all_goals first | rfl | (exfalso; omega)]
              rw [fwFl_succ (fun k => (mMs h s k).1) (h 29 0) c, fwFl_succ (fun k => (mMs h s k).2) (h 30 0) c]
              have hmr := mMis_rng (mMiP (h 4 0 1) (mOH h c) (h 33 s)) (h 35 0 s / 3).toNat
              have hmr2 : 0 ≤ (mMs h s c).1 ∧ (mMs h s c).1 ≤ 20 := by have e : (mMs h s c).1 = (mMis (mMiP (h 4 0 1) (mOH h c) (h 33 s)) (h 35 0 s / 3).toNat).1 := rfl; omega
              refine w_aload_n dX6_load_104 rfl ?_
              refine w_getr 29 0 dX6_load_105 fl_X6_9 rfl (by decide) ?_
              refine w_iload_n dX6_load_108 rfl ?_
              refine w_ialdE (v := (mMs h s c).1) dX6_load_109 rfl (by decide) (by omega) (by omega) (by rw [Int.toNat_natCast]; exact fwFl_lt (g := fun k => (mMs h s k).1) (f := h 29 0) (c := c + 1) (s := c) (by omega)) ?_
              refine w_if_ne 125 dX6_load_110 (by decide) (by omega) (fun c110 => ?_) (fun c110 => ?_)
              · rw [show mPos h s c = mPos h s (c + 1) from by unfold mPos; rw [mBits, if_neg (fun q => c110 (of_decide_eq_true q))]]
                have hG7 : gOk (fwUc (fwUc (fwUc (fwUc (fwUc h 4 5 (h 4 0)) 10 0 (fwFu (fwFu (h 10 0) 6 (h 35 0 s / 3)) 7 (mPos h s (c + 1)))) 17 5 (mOH h c)) 29 0 (fwFl (fun k => (mMs h s k).1) (h 29 0) (c + 1))) 30 0 (fwFl (fun k => (mMs h s k).2) (h 30 0) (c + 1))) 5 := ⟨hG.1, hG.2.1, hG.2.2.1, hG.2.2.2.1, hor⟩
                refine w_aload_n dX6_load_125 rfl ?_
                refine w_getr 4 5 dX6_load_126 fl_X6_29 rfl (by decide) ?_
                refine w_iload_n dX6_load_129 rfl ?_
                refine w_iconst dX6_load_130 ?_
                refine w_callV (d := d + 3) (S := []) [aI (mTop (h 17 0) ((h 4 0) 4) ((h 4 0) 1).toNat), aI 1] dX6_load_131 ml_X6_79 ok_X1_change vi_X1_change rfl rfl (by decide) rfl (Nat.le_of_ble_eq_true rfl) ?_
                refine c_X1_changeE (d := (d + 2)) 5 (mTop (h 17 0) ((h 4 0) 4) ((h 4 0) 1).toNat) 1 (by decide) (by first | assumption | omega | decide) (by first | assumption | omega | decide) (show mTop (h 17 0) ((h 4 0) 4) ((h 4 0) 1).toNat < (h 4 0) 1 by first | assumption | omega | decide) ?_
                show fwWP mX6_load (d + 4) 134 [some (aR 10 0), some (aI (s : Int)), some (aI (mTop (h 17 0) ((h 4 0) 4) ((h 4 0) 1).toNat)), some (aI (c : Int))] [] (fwUc (fwUc (fwUc (fwUc (fwUc (fwUc h 4 5 (h 4 0)) 10 0 (fwFu (fwFu (h 10 0) 6 (h 35 0 s / 3)) 7 (mPos h s (c + 1)))) 17 5 (mOH h c)) 29 0 (fwFl (fun k => (mMs h s k).1) (h 29 0) (c + 1))) 30 0 (fwFl (fun k => (mMs h s k).2) (h 30 0) (c + 1))) 17 5 (fwFu ((mOH h c)) (mTop (h 17 0) ((h 4 0) 4) ((h 4 0) 1).toNat).toNat ((mOH h c) (mTop (h 17 0) ((h 4 0) 4) ((h 4 0) 1).toNat).toNat + 1))) Q
                rw [show fwUc (fwUc (fwUc (fwUc (fwUc (fwUc h 4 5 (h 4 0)) 10 0 (fwFu (fwFu (h 10 0) 6 (h 35 0 s / 3)) 7 (mPos h s (c + 1)))) 17 5 (mOH h c)) 29 0 (fwFl (fun k => (mMs h s k).1) (h 29 0) (c + 1))) 30 0 (fwFl (fun k => (mMs h s k).2) (h 30 0) (c + 1))) 17 5 (fwFu ((mOH h c)) (mTop (h 17 0) ((h 4 0) 4) ((h 4 0) 1).toNat).toNat ((mOH h c) (mTop (h 17 0) ((h 4 0) 4) ((h 4 0) 1).toNat).toNat + 1)) = (fwUc (fwUc (fwUc (fwUc (fwUc h 4 5 (h 4 0)) 10 0 (fwFu (fwFu (h 10 0) 6 (h 35 0 s / 3)) 7 (mPos h s (c + 1)))) 17 5 (fwFu ((mOH h c)) (mTop (h 17 0) ((h 4 0) 4) ((h 4 0) 1).toNat).toNat ((mOH h c) (mTop (h 17 0) ((h 4 0) 4) ((h 4 0) 1).toNat).toNat + 1))) 29 0 (fwFl (fun k => (mMs h s k).1) (h 29 0) (c + 1))) 30 0 (fwFl (fun k => (mMs h s k).2) (h 30 0) (c + 1))) from by funext a b; simp only [fwUc]; (repeat' split); all_goals first | rfl | (exfalso; omega)]
                rw [mOH_up]
                refine w_iinc [some (aR 10 0), some (aI (s : Int)), some (aI (mTop (h 17 0) ((h 4 0) 4) ((h 4 0) 1).toNat)), some (aI ((c : Int) + 1))] dX6_load_134 rfl rfl (by decide) ?_
                refine w_goto 92 dX6_load_137 (by decide) ?_
                refine ih92 (by omega) _ _ ?_ ?_
                · exact (by omega)
                · exact rfl
              · refine w_aload_n dX6_load_113 rfl ?_
                refine w_dup dX6_load_114 rfl ?_
                refine w_getiE (v := mPos h s c) dX6_load_115 fl_X6_59 rfl (by decide) rfl ?_
                refine w_iconst dX6_load_118 ?_
                refine w_iload_n dX6_load_119 rfl ?_
                refine w_ishl dX6_load_120 ?_
                refine w_ior dX6_load_121 ?_
                refine w_puti dX6_load_122 fl_X6_59 fp_10_7 rfl (by decide) ?_
                rw [show (fwUp (fwUc (fwUc (fwUc (fwUc (fwUc h 4 5 (h 4 0)) 10 0 (fwFu (fwFu (h 10 0) 6 (h 35 0 s / 3)) 7 (mPos h s c))) 17 5 (mOH h c)) 29 0 (fwFl (fun k => (mMs h s k).1) (h 29 0) (c + 1))) 30 0 (fwFl (fun k => (mMs h s k).2) (h 30 0) (c + 1))) 10 0 7 (fwOr (mPos h s c) (fwShl 1 (c : Int)))) = (fwUc (fwUc (fwUc (fwUc (fwUc (fwUc h 4 5 (h 4 0)) 10 0 (fwFu (fwFu (h 10 0) 6 (h 35 0 s / 3)) 7 (mPos h s c))) 17 5 (mOH h c)) 29 0 (fwFl (fun k => (mMs h s k).1) (h 29 0) (c + 1))) 30 0 (fwFl (fun k => (mMs h s k).2) (h 30 0) (c + 1))) 10 0 (fwFu ((fwFu (fwFu (h 10 0) 6 (h 35 0 s / 3)) 7 (mPos h s c))) 7 (fwOr (mPos h s c) (fwShl 1 (c : Int))))) from fwUp_fu _ _ _ _ _]
                rw [show (fwUc (fwUc (fwUc (fwUc (fwUc (fwUc h 4 5 (h 4 0)) 10 0 (fwFu (fwFu (h 10 0) 6 (h 35 0 s / 3)) 7 (mPos h s c))) 17 5 (mOH h c)) 29 0 (fwFl (fun k => (mMs h s k).1) (h 29 0) (c + 1))) 30 0 (fwFl (fun k => (mMs h s k).2) (h 30 0) (c + 1))) 10 0 (fwFu ((fwFu (fwFu (h 10 0) 6 (h 35 0 s / 3)) 7 (mPos h s c))) 7 (fwOr (mPos h s c) (fwShl 1 (c : Int))))) = (fwUc (fwUc (fwUc (fwUc (fwUc h 4 5 (h 4 0)) 10 0 (fwFu ((fwFu (fwFu (h 10 0) 6 (h 35 0 s / 3)) 7 (mPos h s c))) 7 (fwOr (mPos h s c) (fwShl 1 (c : Int))))) 17 5 (mOH h c)) 29 0 (fwFl (fun k => (mMs h s k).1) (h 29 0) (c + 1))) 30 0 (fwFl (fun k => (mMs h s k).2) (h 30 0) (c + 1))) from by funext a b; simp only [fwUc]; (repeat' split); all_goals first | rfl | (exfalso; omega)]
                rw [fwFu_fu]
                rw [show fwOr (mPos h s c) (fwShl 1 (c : Int)) = mPos h s (c + 1) from by unfold mPos; rw [mBits, if_pos (decide_eq_true c110)]]
                have hG7 : gOk (fwUc (fwUc (fwUc (fwUc (fwUc h 4 5 (h 4 0)) 10 0 (fwFu (fwFu (h 10 0) 6 (h 35 0 s / 3)) 7 (mPos h s (c + 1)))) 17 5 (mOH h c)) 29 0 (fwFl (fun k => (mMs h s k).1) (h 29 0) (c + 1))) 30 0 (fwFl (fun k => (mMs h s k).2) (h 30 0) (c + 1))) 5 := ⟨hG.1, hG.2.1, hG.2.2.1, hG.2.2.2.1, hor⟩
                refine w_aload_n dX6_load_125 rfl ?_
                refine w_getr 4 5 dX6_load_126 fl_X6_29 rfl (by decide) ?_
                refine w_iload_n dX6_load_129 rfl ?_
                refine w_iconst dX6_load_130 ?_
                refine w_callV (d := d + 3) (S := []) [aI (mTop (h 17 0) ((h 4 0) 4) ((h 4 0) 1).toNat), aI 1] dX6_load_131 ml_X6_79 ok_X1_change vi_X1_change rfl rfl (by decide) rfl (Nat.le_of_ble_eq_true rfl) ?_
                refine c_X1_changeE (d := (d + 2)) 5 (mTop (h 17 0) ((h 4 0) 4) ((h 4 0) 1).toNat) 1 (by decide) (by first | assumption | omega | decide) (by first | assumption | omega | decide) (show mTop (h 17 0) ((h 4 0) 4) ((h 4 0) 1).toNat < (h 4 0) 1 by first | assumption | omega | decide) ?_
                show fwWP mX6_load (d + 4) 134 [some (aR 10 0), some (aI (s : Int)), some (aI (mTop (h 17 0) ((h 4 0) 4) ((h 4 0) 1).toNat)), some (aI (c : Int))] [] (fwUc (fwUc (fwUc (fwUc (fwUc (fwUc h 4 5 (h 4 0)) 10 0 (fwFu (fwFu (h 10 0) 6 (h 35 0 s / 3)) 7 (mPos h s (c + 1)))) 17 5 (mOH h c)) 29 0 (fwFl (fun k => (mMs h s k).1) (h 29 0) (c + 1))) 30 0 (fwFl (fun k => (mMs h s k).2) (h 30 0) (c + 1))) 17 5 (fwFu ((mOH h c)) (mTop (h 17 0) ((h 4 0) 4) ((h 4 0) 1).toNat).toNat ((mOH h c) (mTop (h 17 0) ((h 4 0) 4) ((h 4 0) 1).toNat).toNat + 1))) Q
                rw [show fwUc (fwUc (fwUc (fwUc (fwUc (fwUc h 4 5 (h 4 0)) 10 0 (fwFu (fwFu (h 10 0) 6 (h 35 0 s / 3)) 7 (mPos h s (c + 1)))) 17 5 (mOH h c)) 29 0 (fwFl (fun k => (mMs h s k).1) (h 29 0) (c + 1))) 30 0 (fwFl (fun k => (mMs h s k).2) (h 30 0) (c + 1))) 17 5 (fwFu ((mOH h c)) (mTop (h 17 0) ((h 4 0) 4) ((h 4 0) 1).toNat).toNat ((mOH h c) (mTop (h 17 0) ((h 4 0) 4) ((h 4 0) 1).toNat).toNat + 1)) = (fwUc (fwUc (fwUc (fwUc (fwUc h 4 5 (h 4 0)) 10 0 (fwFu (fwFu (h 10 0) 6 (h 35 0 s / 3)) 7 (mPos h s (c + 1)))) 17 5 (fwFu ((mOH h c)) (mTop (h 17 0) ((h 4 0) 4) ((h 4 0) 1).toNat).toNat ((mOH h c) (mTop (h 17 0) ((h 4 0) 4) ((h 4 0) 1).toNat).toNat + 1))) 29 0 (fwFl (fun k => (mMs h s k).1) (h 29 0) (c + 1))) 30 0 (fwFl (fun k => (mMs h s k).2) (h 30 0) (c + 1))) from by funext a b; simp only [fwUc]; (repeat' split); all_goals first | rfl | (exfalso; omega)]
                rw [mOH_up]
                refine w_iinc [some (aR 10 0), some (aI (s : Int)), some (aI (mTop (h 17 0) ((h 4 0) 4) ((h 4 0) 1).toNat)), some (aI ((c : Int) + 1))] dX6_load_134 rfl rfl (by decide) ?_
                refine w_goto 92 dX6_load_137 (by decide) ?_
                refine ih92 (by omega) _ _ ?_ ?_
                · exact (by omega)
                · exact rfl
          refine lp92 0 (Nat.zero_le _) _ _ ?_ ?_
          · exact (by omega)
          · exact (by rw [fwFl_0, fwFl_0, mOH_0]; exact ldE0 h s)
        · (exact absurd hSi c43)
      · (exfalso; omega)
    · (exfalso; omega)
def mLdR (h : fwH) (x : Int) : Int := if (0 ≤ x ∧ x < 4) ∧ 0 < h 3 0 6 ∧ h 35 0 x.toNat = -1 then -6 else -2
theorem c_sightX {d : Nat} {h : fwH} {Q : Option fwV → fwH → Prop} (x : Int) (hx : 0 ≤ x ∧ x < 4) (hG : gOk h 0) (hs : sOk h) (hz : 0 ≤ h 35 0 x.toNat) (k : Q (some (aI (fwB (mSi (h 33 x.toNat) (h 35 0 x.toNat) (h 4 0 1))))) h) : fwCt mX6_isSighting (d + 2) [aR 10 0, aI x] h Q := by
  obtain ⟨n, rfl⟩ : ∃ n : Nat, x = n := ⟨x.toNat, by omega⟩
  exact c_X6_isSighting n hG hs (by omega) hz k
set_option maxRecDepth 100000 in
set_option maxHeartbeats 4000000 in
theorem c_X6_loadNo {d : Nat} {h : fwH} {Q : Option fwV → fwH → Prop} (x : Int) (hG : gOk h 0) (hs : sOk h)  (hl : 0 ≤ h 3 0 6 ∧ h 3 0 6 ≤ 1000) (hx : -2147483648 ≤ x ∧ x < 2147483648) (hno : ¬ ((0 ≤ x ∧ x < 4) ∧ 0 < h 3 0 6 ∧ h 35 0 x.toNat ≠ -1 ∧ mSi (h 33 x.toNat) (h 35 0 x.toNat) (h 4 0 1))) (k : Q (some (aI (mLdR h x))) h) : fwCt mX6_load (d + 4) [aR 10 0, aI x] h Q := by
  refine fwCt_of [some (aR 10 0), some (aI x), none, none] rfl rfl rfl ?_
  refine w_aload_n dX6_load_0 rfl ?_
  refine w_getr 11 0 dX6_load_1 fl_X6_25 rfl (by decide) ?_
  refine w_iload_n dX6_load_4 rfl ?_
  refine w_callV (d := d + 3) (S := []) [aI x] dX6_load_5 ml_X6_33 ok_X8_has vi_X8_has rfl rfl (by decide) rfl (Nat.le_of_ble_eq_true rfl) ?_
  refine c_X8_has (d := (d + 3)) x (by first | assumption | omega | decide) ?_
  show fwWP mX6_load (d + 4) 8 [some (aR 10 0), some (aI x), none, none] [aI (fwB (0 ≤ x ∧ x < 4))] h Q
  refine w_ifB_eq 21 dX6_load_8 (by decide) (fun c8 => ?_) (fun c8 => ?_)
  · refine w_bipush dX6_load_21 rfl ?_
    exact w_iretE dX6_load_23 rfl (by rw [mLdR]; first | rw [if_pos (by omega)] | rw [if_neg (by omega)]) k
  · refine w_aload_n dX6_load_11 rfl ?_
    refine w_getr 3 0 dX6_load_12 fl_X6_21 rfl (by decide) ?_
    refine w_callV (d := d + 3) (S := []) [] dX6_load_15 ml_X6_39 ok_X2_isTold vi_X2_isTold rfl rfl (by decide) rfl (Nat.le_of_ble_eq_true rfl) ?_
    refine c_X2_isTold (d := (d + 3)) (show 0 ≤ h 3 0 6 ∧ h 3 0 6 ≤ 1000 by first | assumption | omega | decide) ?_
    show fwWP mX6_load (d + 4) 18 [some (aR 10 0), some (aI x), none, none] [aI (fwB (0 < h 3 0 6))] h Q
    refine w_ifB_ne 24 dX6_load_18 (by decide) (fun c18 => ?_) (fun c18 => ?_)
    · refine w_aload_n dX6_load_24 rfl ?_
      refine w_getr 11 0 dX6_load_25 fl_X6_25 rfl (by decide) ?_
      refine w_iload_n dX6_load_28 rfl ?_
      refine w_callV (d := d + 3) (S := []) [aI x] dX6_load_29 ml_X6_45 ok_X8_isLaid vi_X8_isLaid rfl rfl (by decide) rfl (Nat.le_of_ble_eq_true rfl) ?_
      refine c_X8_isLaid (d := (d + 2)) x (by first | assumption | omega | decide) (by first | assumption | omega | decide) ?_
      show fwWP mX6_load (d + 4) 32 [some (aR 10 0), some (aI x), none, none] [aI (fwB (mSz (h 35 0) x ≠ -1))] h Q
      have ez : mSz (h 35 0) x = h 35 0 x.toNat := by unfold mSz; rw [if_pos (by omega)]
      have hzr := (hs x.toNat (by omega)).1
      rw [ez]
      refine w_ifB_ne 38 dX6_load_32 (by decide) (fun c32 => ?_) (fun c32 => ?_)
      · refine w_aload_n dX6_load_38 rfl ?_
        refine w_iload_n dX6_load_39 rfl ?_
        refine w_callV (d := d + 3) (S := []) [aI x] dX6_load_40 ml_X6_48 ok_X6_isSighting vi_X6_isSighting rfl rfl (by decide) rfl (Nat.le_of_ble_eq_true rfl) ?_
        refine c_sightX (d := (d + 1)) x (by omega) (by first | assumption | omega | decide) (by first | assumption | omega | decide) (by omega) ?_
        show fwWP mX6_load (d + 4) 43 [some (aR 10 0), some (aI x), none, none] [aI (fwB (mSi (h 33 x.toNat) (h 35 0 x.toNat) (h 4 0 1)))] h Q
        refine w_ifB_ne 49 dX6_load_43 (by decide) (fun c43 => ?_) (fun c43 => ?_)
        · (exact absurd ⟨by omega, by omega, c32, c43⟩ hno)
        · refine w_bipush dX6_load_46 rfl ?_
          exact w_iretE dX6_load_48 rfl (by rw [mLdR]; first | rw [if_pos (by omega)] | rw [if_neg (by omega)]) k
      · refine w_bipush dX6_load_35 rfl ?_
        exact w_iretE dX6_load_37 rfl (by rw [mLdR]; first | rw [if_pos (by omega)] | rw [if_neg (by omega)]) k
    · refine w_bipush dX6_load_21 rfl ?_
      exact w_iretE dX6_load_23 rfl (by rw [mLdR]; first | rw [if_pos (by omega)] | rw [if_neg (by omega)]) k
def mAdd (f : Nat → Int) (a m : Nat) : Nat → Int := fun s => if a < s ∧ s ≤ a + m then f s + 1 else f s
theorem mAdd_0 (f : Nat → Int) (a : Nat) : mAdd f a 0 = f := by
  funext s
  unfold mAdd
  rw [if_neg (by omega)]
theorem mAdd_up (f : Nat → Int) (a m : Nat) : fwFu (mAdd f a m) (a + 1 + m) (mAdd f a m (a + 1 + m) + 1) = mAdd f a (m + 1) := by
  funext s
  unfold fwFu
  by_cases e : s = a + 1 + m
  · subst e
    rw [if_pos rfl]
    unfold mAdd
    rw [if_neg (by omega), if_pos (by omega)]
  · rw [if_neg e]
    unfold mAdd
    by_cases q : a < s ∧ s ≤ a + m
    · rw [if_pos q, if_pos (by omega)]
    · rw [if_neg q, if_neg (by omega)]
set_option maxRecDepth 100000 in
set_option maxHeartbeats 4000000 in
theorem c_X6_addShaded {d : Nat} {h : fwH} {Q : Option fwV → fwH → Prop} (m a : Nat) (hm : a + m < 19) (k : Q none (fwUc h 31 0 (mAdd (h 31 0) a m))) : fwCt mX6_addShaded (d + 0) [aR 10 0, aI (m : Int), aI (a : Int)] h Q := by
  refine fwCt_of [some (aR 10 0), some (aI (m : Int)), some (aI (a : Int)), none] rfl rfl rfl ?_
  refine w_iload_n dX6_addShaded_0 rfl ?_
  refine w_iconst dX6_addShaded_1 ?_
  refine w_iadd dX6_addShaded_2 ?_
  refine w_istore_n [some (aR 10 0), some (aI (m : Int)), some (aI (a : Int)), some (aI ((a : Int) + 1))] dX6_addShaded_3 rfl (by decide) ?_
  have lp4 : ∀ c : Nat, c ≤ m → ∀ (y4  : Int) (hh4 : fwH), y4 = (a : Int) + 1 + (c : Int) → hh4 = (fwUc h 31 0 (mAdd (h 31 0) a c)) → fwWP mX6_addShaded (d + 0) 4 [some (aR 10 0), some (aI (m : Int)), some (aI (a : Int)), some (aI y4)] [] hh4 Q := by
    refine fw_up (fun c hc4 ih4 => ?_)
    intro y4  hh4 ey4 eh4
    subst ey4
    subst eh4
    show fwWP mX6_addShaded (d + 0) 4 [some (aR 10 0), some (aI (m : Int)), some (aI (a : Int)), some (aI ((a : Int) + 1 + (c : Int)))] [] (fwUc h 31 0 (mAdd (h 31 0) a c)) Q
    refine w_iload_n dX6_addShaded_4 rfl ?_
    refine w_iload_n dX6_addShaded_5 rfl ?_
    refine w_iload_n dX6_addShaded_6 rfl ?_
    refine w_iadd dX6_addShaded_7 ?_
    refine w_icmp_gt 40 dX6_addShaded_8 (by decide) (by omega) (by omega) (fun c8 => ?_) (fun c8 => ?_)
    · have ec4 : m = c := by omega
      subst ec4
      exact w_vret dX6_addShaded_40 rfl (k)
    · refine w_iload_n dX6_addShaded_11 rfl ?_
      refine w_if_lt 34 dX6_addShaded_12 (by decide) (by omega) (fun c12 => ?_) (fun c12 => ?_)
      · (exfalso; omega)
      · refine w_iload_n dX6_addShaded_15 rfl ?_
        refine w_aload_n dX6_addShaded_16 rfl ?_
        refine w_getr 31 0 dX6_addShaded_17 fl_X6_18 rfl (by decide) ?_
        refine w_alen dX6_addShaded_20 rfl (by decide) (by decide) ?_
        refine w_icmp_ge 34 dX6_addShaded_21 (by decide) (by omega) (by omega) (fun c21 => ?_) (fun c21 => ?_)
        · (exfalso; omega)
        · refine w_aload_n dX6_addShaded_24 rfl ?_
          refine w_getr 31 0 dX6_addShaded_25 fl_X6_18 rfl (by decide) ?_
          refine w_iload_n dX6_addShaded_28 rfl ?_
          refine w_dup2 dX6_addShaded_29 rfl rfl ?_
          refine w_ialdE (v := mAdd (h 31 0) a c (a + 1 + c)) dX6_addShaded_30 rfl (by decide) (by omega) (by omega) (by rw [show ((a : Int) + 1 + (c : Int)).toNat = a + 1 + c by omega, fwUc_at]) ?_
          refine w_iconst dX6_addShaded_31 ?_
          refine w_iadd dX6_addShaded_32 ?_
          refine w_iast dX6_addShaded_33 rfl (by decide) (by omega) (by omega) ?_
          refine w_iinc [some (aR 10 0), some (aI (m : Int)), some (aI (a : Int)), some (aI (((a : Int) + 1 + (c : Int)) + 1))] dX6_addShaded_34 rfl rfl (by decide) ?_
          refine w_goto 4 dX6_addShaded_37 (by decide) ?_
          refine ih4 (by omega) _ _ ?_ ?_
          · exact (by omega)
          · exact (by rw [fwUp_uc, show ((a : Int) + 1 + (c : Int)).toNat = a + 1 + c by omega, mAdd_up])
  refine lp4 0 (Nat.zero_le _) _ _ ?_ ?_
  · exact (by omega)
  · exact (by rw [mAdd_0, fwUc_self])
theorem c_addShX {d : Nat} {h : fwH} {Q : Option fwV → fwH → Prop} (x : Int) (a : Nat) (hx : 0 ≤ x ∧ x ≤ 9) (ha : a ≤ 9) (k : Q none (fwUc h 31 0 (mAdd (h 31 0) a x.toNat))) : fwCt mX6_addShaded d [aR 10 0, aI x, aI (a : Int)] h Q := by
  obtain ⟨n, rfl⟩ : ∃ n : Nat, x = n := ⟨x.toNat, by omega⟩
  exact c_X6_addShaded n a (by omega) k
/-- by how many of the first k (of the set x) the CELL c is in SHADE, for each HOUR's number -/
def mDk (h : fwH) (p : Int) (x : Nat) : Nat → (Nat → Int)
  | 0 => fun _ => 0
  | k + 1 => if fwAnd (fwShr p k) 1 = 1 then mAdd (mAdd (mDk h p x k) 0 (mSh (h 4 0 1) (mOH h k) (x : Int) (-1)).toNat) 9 (mSh (h 4 0 1) (mOH h k) (x : Int) 1).toNat else mDk h p x k
theorem mDk_rng (h : fwH) (p : Int) (x : Nat) (s : Nat) : ∀ k : Nat, 0 ≤ mDk h p x k s ∧ mDk h p x k s ≤ 2 * k := by
  intro k
  induction k with
  | zero => simp [mDk]
  | succ k ih =>
    rw [mDk]
    split
    · unfold mAdd
      split <;> split <;> omega
    · omega
set_option maxRecDepth 100000 in
set_option maxHeartbeats 4000000 in
theorem c_X6_countShaded {d : Nat} {h : fwH} {Q : Option fwV → fwH → Prop} (x : Nat) (hP : pOk h 0) (hG : gOk h 0) (hn : 1 ≤ h 4 0 1) (hM : ∀ c : Nat, c < 10 → h 17 0 c ≤ 999) (hM9 : ∀ c : Nat, c < 10 → 0 ≤ h 17 0 c ∧ h 17 0 c ≤ 900) (hx : (x : Int) < h 4 0 1) (k : Q none (fwUc (fwUc (fwUc h 4 5 (h 4 0)) 17 5 (mOH h 21)) 31 0 (mDk h (h 10 0 7) x 21))) : fwCt mX6_countShaded (d + 2) [aR 10 0, aI (x : Int)] h Q := by
  refine fwCt_of [some (aR 10 0), some (aI (x : Int)), none, none] rfl rfl rfl ?_
  obtain ⟨⟨g1, g2⟩, ⟨g3, g4⟩, ⟨g5, g6⟩, g7, g8⟩ := id hG
  refine w_iconst dX6_countShaded_0 ?_
  refine w_istore_n [some (aR 10 0), some (aI (x : Int)), some (aI 0), none] dX6_countShaded_1 rfl (by decide) ?_
  have lp2 : ∀ c : Nat, c ≤ 19 → ∀ (y2  : Int) (hh2 : fwH), y2 = (c : Int) → hh2 = (fwUc h 31 0 (fwFl (fun _ => 0) (h 31 0) c)) → fwWP mX6_countShaded (d + 2) 2 [some (aR 10 0), some (aI (x : Int)), some (aI y2), none] [] hh2 Q := by
    refine fw_up (fun c hc2 ih2 => ?_)
    intro y2  hh2 ey2 eh2
    subst ey2
    subst eh2
    show fwWP mX6_countShaded (d + 2) 2 [some (aR 10 0), some (aI (x : Int)), some (aI (c : Int)), none] [] (fwUc h 31 0 (fwFl (fun _ => 0) (h 31 0) c)) Q
    refine w_iload_n dX6_countShaded_2 rfl ?_
    refine w_aload_n dX6_countShaded_3 rfl ?_
    refine w_getr 31 0 dX6_countShaded_4 fl_X6_18 rfl (by decide) ?_
    refine w_alen dX6_countShaded_7 rfl (by decide) (by decide) ?_
    refine w_icmp_ge 24 dX6_countShaded_8 (by decide) (by omega) (by omega) (fun c8 => ?_) (fun c8 => ?_)
    · have ec2 : 19 = c := by omega
      subst ec2
      refine w_heq (fwUc h 31 0 (fun _ => 0)) (fwFl_all (by decide)) ?_
      refine w_aload_n dX6_countShaded_24 rfl ?_
      refine w_getr 4 5 dX6_countShaded_25 fl_X6_29 rfl (by decide) ?_
      refine w_aload_n dX6_countShaded_28 rfl ?_
      refine w_getr 3 0 dX6_countShaded_29 fl_X6_21 rfl (by decide) ?_
      refine w_getr 4 0 dX6_countShaded_32 fl_X6_62 rfl (by decide) ?_
      refine w_callV (d := d + 1) (S := []) [aR 4 0] dX6_countShaded_35 ml_X6_65 ok_X1_copyFrom vi_X1_copyFrom rfl rfl (by decide) rfl (Nat.le_of_ble_eq_true rfl) ?_
      refine c_X1_copyFrom (d := (d + 1)) 5 0 (by decide) (by decide) (by first | assumption | omega | decide) (by first | assumption | omega | decide) ?_
      show fwWP mX6_countShaded (d + 2) 38 [some (aR 10 0), some (aI (x : Int)), some (aI ((19 : Nat) : Int)), none] [] (fwUc (fwUc (fwUc h 31 0 (fun _ => 0)) 17 5 (h 17 0)) 4 5 (h 4 0)) Q
      rw [show fwUc (fwUc (fwUc h 31 0 (fun _ => 0)) 17 5 (h 17 0)) 4 5 (h 4 0) = (fwUc (fwUc (fwUc h 4 5 (h 4 0)) 17 5 (h 17 0)) 31 0 (fun _ => 0)) from by funext a b; simp only [fwUc]; (repeat' split); all_goals first | rfl | (exfalso; omega)]
      have hG5 : gOk (fwUc (fwUc (fwUc h 4 5 (h 4 0)) 17 5 (h 17 0)) 31 0 (fun _ => 0)) 5 := ⟨hG.1, hG.2.1, hG.2.2.1, hG.2.2.2.1, hG.2.2.2.2⟩
      have ht := mTop_rng (h 17 0) (h 4 0 4) (h 4 0 1).toNat
      refine w_aload_n dX6_countShaded_38 rfl ?_
      refine w_getr 4 5 dX6_countShaded_39 fl_X6_29 rfl (by decide) ?_
      refine w_callV (d := d + 1) (S := []) [] dX6_countShaded_42 ml_X6_71 ok_X1_topCell vi_X1_topCell rfl rfl (by decide) rfl (Nat.le_of_ble_eq_true rfl) ?_
      refine c_X1_topCell (d := d) 5 (by decide) (by first | assumption | omega | decide) ?_
      show fwWP mX6_countShaded (d + 2) 45 [some (aR 10 0), some (aI (x : Int)), some (aI ((19 : Nat) : Int)), none] [aI (mTop (h 17 0) ((h 4 0) 4) ((h 4 0) 1).toNat)] (fwUc (fwUc (fwUc h 4 5 (h 4 0)) 17 5 (h 17 0)) 31 0 (fun _ => 0)) Q
      refine w_istore_n [some (aR 10 0), some (aI (x : Int)), some (aI (mTop (h 17 0) ((h 4 0) 4) ((h 4 0) 1).toNat)), none] dX6_countShaded_45 rfl (by decide) ?_
      refine w_iconst dX6_countShaded_46 ?_
      refine w_istore_n [some (aR 10 0), some (aI (x : Int)), some (aI (mTop (h 17 0) ((h 4 0) 4) ((h 4 0) 1).toNat)), some (aI 0)] dX6_countShaded_47 rfl (by decide) ?_
      have lp48 : ∀ q : Nat, q ≤ 21 → ∀ (y48  : Int) (hh48 : fwH), y48 = (q : Int) → hh48 = (fwUc (fwUc (fwUc h 4 5 (h 4 0)) 17 5 (mOH h q)) 31 0 (mDk h (h 10 0 7) x q)) → fwWP mX6_countShaded (d + 2) 48 [some (aR 10 0), some (aI (x : Int)), some (aI (mTop (h 17 0) ((h 4 0) 4) ((h 4 0) 1).toNat)), some (aI y48)] [] hh48 Q := by
        refine fw_up (fun q hc48 ih48 => ?_)
        intro y48  hh48 ey48 eh48
        subst ey48
        subst eh48
        show fwWP mX6_countShaded (d + 2) 48 [some (aR 10 0), some (aI (x : Int)), some (aI (mTop (h 17 0) ((h 4 0) 4) ((h 4 0) 1).toNat)), some (aI (q : Int))] [] (fwUc (fwUc (fwUc h 4 5 (h 4 0)) 17 5 (mOH h q)) 31 0 (mDk h (h 10 0 7) x q)) Q
        refine w_iload_n dX6_countShaded_48 rfl ?_
        refine w_bipush dX6_countShaded_49 rfl ?_
        refine w_icmp_gt 110 dX6_countShaded_51 (by decide) (by omega) (by omega) (fun c51 => ?_) (fun c51 => ?_)
        · have ec48 : 21 = q := by omega
          subst ec48
          exact w_vret dX6_countShaded_110 rfl (k)
        · have hor := mOH_rng hM9 (k := q) (by omega) g2
          have hG6 : gOk (fwUc (fwUc (fwUc h 4 5 (h 4 0)) 17 5 (mOH h q)) 31 0 (mDk h (h 10 0 7) x q)) 5 := ⟨hG.1, hG.2.1, hG.2.2.1, hG.2.2.2.1, hor⟩
          refine w_aload_n dX6_countShaded_54 rfl ?_
          refine w_getiE (v := h 10 0 7) dX6_countShaded_55 fl_X6_59 rfl (by decide) rfl ?_
          refine w_iload_n dX6_countShaded_58 rfl ?_
          refine w_ishr dX6_countShaded_59 ?_
          refine w_iconst dX6_countShaded_60 ?_
          refine w_iand dX6_countShaded_61 ?_
          have hb := fwAnd_rng1 (fwShr (h 10 0 7) (q : Int))
          refine w_iconst dX6_countShaded_62 ?_
          refine w_icmp_ne 95 dX6_countShaded_63 (by decide) (by omega) (by omega) (fun c63 => ?_) (fun c63 => ?_)
          · rw [show (fwUc (fwUc (fwUc h 4 5 (h 4 0)) 17 5 (mOH h q)) 31 0 (mDk h (h 10 0 7) x q)) = (fwUc (fwUc (fwUc h 4 5 (h 4 0)) 17 5 (mOH h q)) 31 0 (mDk h (h 10 0 7) x (q + 1))) from by rw [mDk]; first | rw [if_pos (by omega)] | rw [if_neg (by omega)]]
            have hG8 : gOk (fwUc (fwUc (fwUc h 4 5 (h 4 0)) 17 5 (mOH h q)) 31 0 (mDk h (h 10 0 7) x (q + 1))) 5 := ⟨hG.1, hG.2.1, hG.2.2.1, hG.2.2.2.1, hor⟩
            refine w_aload_n dX6_countShaded_95 rfl ?_
            refine w_getr 4 5 dX6_countShaded_96 fl_X6_29 rfl (by decide) ?_
            refine w_iload_n dX6_countShaded_99 rfl ?_
            refine w_iconst dX6_countShaded_100 ?_
            refine w_callV (d := d + 1) (S := []) [aI (mTop (h 17 0) ((h 4 0) 4) ((h 4 0) 1).toNat), aI 1] dX6_countShaded_101 ml_X6_79 ok_X1_change vi_X1_change rfl rfl (by decide) rfl (Nat.le_of_ble_eq_true rfl) ?_
            refine c_X1_changeE (d := d) 5 (mTop (h 17 0) ((h 4 0) 4) ((h 4 0) 1).toNat) 1 (by decide) (by first | assumption | omega | decide) (by first | assumption | omega | decide) (show mTop (h 17 0) ((h 4 0) 4) ((h 4 0) 1).toNat < (h 4 0) 1 by first | assumption | omega | decide) ?_
            show fwWP mX6_countShaded (d + 2) 104 [some (aR 10 0), some (aI (x : Int)), some (aI (mTop (h 17 0) ((h 4 0) 4) ((h 4 0) 1).toNat)), some (aI (q : Int))] [] (fwUc (fwUc (fwUc (fwUc h 4 5 (h 4 0)) 17 5 (mOH h q)) 31 0 (mDk h (h 10 0 7) x (q + 1))) 17 5 (fwFu ((mOH h q)) (mTop (h 17 0) ((h 4 0) 4) ((h 4 0) 1).toNat).toNat ((mOH h q) (mTop (h 17 0) ((h 4 0) 4) ((h 4 0) 1).toNat).toNat + 1))) Q
            rw [show fwUc (fwUc (fwUc (fwUc h 4 5 (h 4 0)) 17 5 (mOH h q)) 31 0 (mDk h (h 10 0 7) x (q + 1))) 17 5 (fwFu ((mOH h q)) (mTop (h 17 0) ((h 4 0) 4) ((h 4 0) 1).toNat).toNat ((mOH h q) (mTop (h 17 0) ((h 4 0) 4) ((h 4 0) 1).toNat).toNat + 1)) = (fwUc (fwUc (fwUc h 4 5 (h 4 0)) 17 5 (fwFu ((mOH h q)) (mTop (h 17 0) ((h 4 0) 4) ((h 4 0) 1).toNat).toNat ((mOH h q) (mTop (h 17 0) ((h 4 0) 4) ((h 4 0) 1).toNat).toNat + 1))) 31 0 (mDk h (h 10 0 7) x (q + 1))) from by funext a b; simp only [fwUc]; (repeat' split); all_goals first | rfl | (exfalso; omega)]
            rw [mOH_up]
            refine w_iinc [some (aR 10 0), some (aI (x : Int)), some (aI (mTop (h 17 0) ((h 4 0) 4) ((h 4 0) 1).toNat)), some (aI ((q : Int) + 1))] dX6_countShaded_104 rfl rfl (by decide) ?_
            refine w_goto 48 dX6_countShaded_107 (by decide) ?_
            refine ih48 (by omega) _ _ ?_ ?_
            · exact (by omega)
            · exact rfl
          · refine w_aload_n dX6_countShaded_66 rfl ?_
            refine w_aload_n dX6_countShaded_67 rfl ?_
            refine w_getr 4 5 dX6_countShaded_68 fl_X6_29 rfl (by decide) ?_
            refine w_iload_n dX6_countShaded_71 rfl ?_
            refine w_iconst dX6_countShaded_72 ?_
            refine w_callV (d := d + 1) (S := [aR 10 0]) [aI (x : Int), aI (-1)] dX6_countShaded_73 ml_X6_115 ok_X1_shadedHours vi_X1_shadedHours rfl rfl (by decide) rfl (Nat.le_of_ble_eq_true rfl) ?_
            refine c_X1_shadedHours (d := (d + 1)) 5 (x : Int) (-1) (by decide) (by first | assumption | omega | decide) (by first | assumption | omega | decide) (by first | assumption | omega | decide) ?_
            show fwWP mX6_countShaded (d + 2) 76 [some (aR 10 0), some (aI (x : Int)), some (aI (mTop (h 17 0) ((h 4 0) 4) ((h 4 0) 1).toNat)), some (aI (q : Int))] [aI (mSh ((h 4 0) 1) (mOH h q) (x : Int) (-1)), aR 10 0] (fwUc (fwUc (fwUc h 4 5 (h 4 0)) 17 5 (mOH h q)) 31 0 (mDk h (h 10 0 7) x q)) Q
            have hs4 := mSh_rng (n := ((h 4 0) 1)) (H := (mOH h q)) (x := (x : Int)) (st := (-1)) (by omega) (by assumption)
            refine w_iconst dX6_countShaded_76 ?_
            refine w_callV (d := d + 1) (S := []) [aI (mSh ((h 4 0) 1) (mOH h q) (x : Int) (-1)), aI 0] dX6_countShaded_77 ml_X6_118 ok_X6_addShaded vi_X6_addShaded rfl rfl (by decide) rfl (Nat.le_of_ble_eq_true rfl) ?_
            refine c_addShX (d := (d + 1)) (mSh ((h 4 0) 1) (mOH h q) (x : Int) (-1)) 0 (by first | assumption | omega | decide) (by first | assumption | omega | decide) ?_
            show fwWP mX6_countShaded (d + 2) 80 [some (aR 10 0), some (aI (x : Int)), some (aI (mTop (h 17 0) ((h 4 0) 4) ((h 4 0) 1).toNat)), some (aI (q : Int))] [] (fwUc (fwUc (fwUc (fwUc h 4 5 (h 4 0)) 17 5 (mOH h q)) 31 0 (mDk h (h 10 0 7) x q)) 31 0 (mAdd ((mDk h (h 10 0 7) x q)) 0 (mSh ((h 4 0) 1) (mOH h q) (x : Int) (-1)).toNat)) Q
            rw [show fwUc (fwUc (fwUc (fwUc h 4 5 (h 4 0)) 17 5 (mOH h q)) 31 0 (mDk h (h 10 0 7) x q)) 31 0 (mAdd ((mDk h (h 10 0 7) x q)) 0 (mSh ((h 4 0) 1) (mOH h q) (x : Int) (-1)).toNat) = (fwUc (fwUc (fwUc h 4 5 (h 4 0)) 17 5 (mOH h q)) 31 0 (mAdd ((mDk h (h 10 0 7) x q)) 0 (mSh ((h 4 0) 1) (mOH h q) (x : Int) (-1)).toNat)) from by funext a b; simp only [fwUc]; (repeat' split); all_goals first | rfl | (exfalso; omega)]
            have hG7 : gOk (fwUc (fwUc (fwUc h 4 5 (h 4 0)) 17 5 (mOH h q)) 31 0 (mAdd ((mDk h (h 10 0 7) x q)) 0 (mSh ((h 4 0) 1) (mOH h q) (x : Int) (-1)).toNat)) 5 := ⟨hG.1, hG.2.1, hG.2.2.1, hG.2.2.2.1, hor⟩
            refine w_aload_n dX6_countShaded_80 rfl ?_
            refine w_aload_n dX6_countShaded_81 rfl ?_
            refine w_getr 4 5 dX6_countShaded_82 fl_X6_29 rfl (by decide) ?_
            refine w_iload_n dX6_countShaded_85 rfl ?_
            refine w_iconst dX6_countShaded_86 ?_
            refine w_callV (d := d + 1) (S := [aR 10 0]) [aI (x : Int), aI 1] dX6_countShaded_87 ml_X6_115 ok_X1_shadedHours vi_X1_shadedHours rfl rfl (by decide) rfl (Nat.le_of_ble_eq_true rfl) ?_
            refine c_X1_shadedHours (d := (d + 1)) 5 (x : Int) 1 (by decide) (by first | assumption | omega | decide) (by first | assumption | omega | decide) (by first | assumption | omega | decide) ?_
            show fwWP mX6_countShaded (d + 2) 90 [some (aR 10 0), some (aI (x : Int)), some (aI (mTop (h 17 0) ((h 4 0) 4) ((h 4 0) 1).toNat)), some (aI (q : Int))] [aI (mSh ((h 4 0) 1) (mOH h q) (x : Int) 1), aR 10 0] (fwUc (fwUc (fwUc h 4 5 (h 4 0)) 17 5 (mOH h q)) 31 0 (mAdd ((mDk h (h 10 0 7) x q)) 0 (mSh ((h 4 0) 1) (mOH h q) (x : Int) (-1)).toNat)) Q
            have hs5 := mSh_rng (n := ((h 4 0) 1)) (H := (mOH h q)) (x := (x : Int)) (st := 1) (by omega) (by assumption)
            refine w_bipush dX6_countShaded_90 rfl ?_
            refine w_callV (d := d + 1) (S := []) [aI (mSh ((h 4 0) 1) (mOH h q) (x : Int) 1), aI 9] dX6_countShaded_92 ml_X6_118 ok_X6_addShaded vi_X6_addShaded rfl rfl (by decide) rfl (Nat.le_of_ble_eq_true rfl) ?_
            refine c_addShX (d := (d + 1)) (mSh ((h 4 0) 1) (mOH h q) (x : Int) 1) 9 (by first | assumption | omega | decide) (by first | assumption | omega | decide) ?_
            show fwWP mX6_countShaded (d + 2) 95 [some (aR 10 0), some (aI (x : Int)), some (aI (mTop (h 17 0) ((h 4 0) 4) ((h 4 0) 1).toNat)), some (aI (q : Int))] [] (fwUc (fwUc (fwUc (fwUc h 4 5 (h 4 0)) 17 5 (mOH h q)) 31 0 (mAdd ((mDk h (h 10 0 7) x q)) 0 (mSh ((h 4 0) 1) (mOH h q) (x : Int) (-1)).toNat)) 31 0 (mAdd ((mAdd ((mDk h (h 10 0 7) x q)) 0 (mSh ((h 4 0) 1) (mOH h q) (x : Int) (-1)).toNat)) 9 (mSh ((h 4 0) 1) (mOH h q) (x : Int) 1).toNat)) Q
            rw [show fwUc (fwUc (fwUc (fwUc h 4 5 (h 4 0)) 17 5 (mOH h q)) 31 0 (mAdd ((mDk h (h 10 0 7) x q)) 0 (mSh ((h 4 0) 1) (mOH h q) (x : Int) (-1)).toNat)) 31 0 (mAdd ((mAdd ((mDk h (h 10 0 7) x q)) 0 (mSh ((h 4 0) 1) (mOH h q) (x : Int) (-1)).toNat)) 9 (mSh ((h 4 0) 1) (mOH h q) (x : Int) 1).toNat) = (fwUc (fwUc (fwUc h 4 5 (h 4 0)) 17 5 (mOH h q)) 31 0 (mAdd ((mAdd ((mDk h (h 10 0 7) x q)) 0 (mSh ((h 4 0) 1) (mOH h q) (x : Int) (-1)).toNat)) 9 (mSh ((h 4 0) 1) (mOH h q) (x : Int) 1).toNat)) from by funext a b; simp only [fwUc]; (repeat' split); all_goals first | rfl | (exfalso; omega)]
            rw [show (fwUc (fwUc (fwUc h 4 5 (h 4 0)) 17 5 (mOH h q)) 31 0 (mAdd ((mAdd ((mDk h (h 10 0 7) x q)) 0 (mSh ((h 4 0) 1) (mOH h q) (x : Int) (-1)).toNat)) 9 (mSh ((h 4 0) 1) (mOH h q) (x : Int) 1).toNat)) = (fwUc (fwUc (fwUc h 4 5 (h 4 0)) 17 5 (mOH h q)) 31 0 (mDk h (h 10 0 7) x (q + 1))) from by rw [mDk]; first | rw [if_pos (by omega)] | rw [if_neg (by omega)]]
            have hG8 : gOk (fwUc (fwUc (fwUc h 4 5 (h 4 0)) 17 5 (mOH h q)) 31 0 (mDk h (h 10 0 7) x (q + 1))) 5 := ⟨hG.1, hG.2.1, hG.2.2.1, hG.2.2.2.1, hor⟩
            refine w_aload_n dX6_countShaded_95 rfl ?_
            refine w_getr 4 5 dX6_countShaded_96 fl_X6_29 rfl (by decide) ?_
            refine w_iload_n dX6_countShaded_99 rfl ?_
            refine w_iconst dX6_countShaded_100 ?_
            refine w_callV (d := d + 1) (S := []) [aI (mTop (h 17 0) ((h 4 0) 4) ((h 4 0) 1).toNat), aI 1] dX6_countShaded_101 ml_X6_79 ok_X1_change vi_X1_change rfl rfl (by decide) rfl (Nat.le_of_ble_eq_true rfl) ?_
            refine c_X1_changeE (d := d) 5 (mTop (h 17 0) ((h 4 0) 4) ((h 4 0) 1).toNat) 1 (by decide) (by first | assumption | omega | decide) (by first | assumption | omega | decide) (show mTop (h 17 0) ((h 4 0) 4) ((h 4 0) 1).toNat < (h 4 0) 1 by first | assumption | omega | decide) ?_
            show fwWP mX6_countShaded (d + 2) 104 [some (aR 10 0), some (aI (x : Int)), some (aI (mTop (h 17 0) ((h 4 0) 4) ((h 4 0) 1).toNat)), some (aI (q : Int))] [] (fwUc (fwUc (fwUc (fwUc h 4 5 (h 4 0)) 17 5 (mOH h q)) 31 0 (mDk h (h 10 0 7) x (q + 1))) 17 5 (fwFu ((mOH h q)) (mTop (h 17 0) ((h 4 0) 4) ((h 4 0) 1).toNat).toNat ((mOH h q) (mTop (h 17 0) ((h 4 0) 4) ((h 4 0) 1).toNat).toNat + 1))) Q
            rw [show fwUc (fwUc (fwUc (fwUc h 4 5 (h 4 0)) 17 5 (mOH h q)) 31 0 (mDk h (h 10 0 7) x (q + 1))) 17 5 (fwFu ((mOH h q)) (mTop (h 17 0) ((h 4 0) 4) ((h 4 0) 1).toNat).toNat ((mOH h q) (mTop (h 17 0) ((h 4 0) 4) ((h 4 0) 1).toNat).toNat + 1)) = (fwUc (fwUc (fwUc h 4 5 (h 4 0)) 17 5 (fwFu ((mOH h q)) (mTop (h 17 0) ((h 4 0) 4) ((h 4 0) 1).toNat).toNat ((mOH h q) (mTop (h 17 0) ((h 4 0) 4) ((h 4 0) 1).toNat).toNat + 1))) 31 0 (mDk h (h 10 0 7) x (q + 1))) from by funext a b; simp only [fwUc]; (repeat' split); all_goals first | rfl | (exfalso; omega)]
            rw [mOH_up]
            refine w_iinc [some (aR 10 0), some (aI (x : Int)), some (aI (mTop (h 17 0) ((h 4 0) 4) ((h 4 0) 1).toNat)), some (aI ((q : Int) + 1))] dX6_countShaded_104 rfl rfl (by decide) ?_
            refine w_goto 48 dX6_countShaded_107 (by decide) ?_
            refine ih48 (by omega) _ _ ?_ ?_
            · exact (by omega)
            · exact rfl
      refine lp48 0 (Nat.zero_le _) _ _ ?_ ?_
      · exact (by omega)
      · exact (by rw [mOH_0]; rfl)
    · refine w_aload_n dX6_countShaded_11 rfl ?_
      refine w_getr 31 0 dX6_countShaded_12 fl_X6_18 rfl (by decide) ?_
      refine w_iload_n dX6_countShaded_15 rfl ?_
      refine w_iconst dX6_countShaded_16 ?_
      refine w_iast dX6_countShaded_17 rfl (by decide) (by omega) (by omega) ?_
      refine w_iinc [some (aR 10 0), some (aI (x : Int)), some (aI ((c : Int) + 1)), none] dX6_countShaded_18 rfl rfl (by decide) ?_
      refine w_goto 2 dX6_countShaded_21 (by decide) ?_
      refine ih2 (by omega) _ _ ?_ ?_
      · exact (by omega)
      · exact (by rw [fwUp_uc, Int.toNat_natCast]; exact congrArg _ (fwFl_succ (fun _ => 0) (h 31 0) c))
  refine lp2 0 (Nat.zero_le _) _ _ ?_ ?_
  · exact (by omega)
  · exact (by rw [fwFl_0, fwUc_self])
def mAsk (D : Nat → Int) (a : Int) : Nat → Int × Int
  | 0 => (0, a)
  | j + 1 => if max (D (j + 1)) (a - D (j + 1)) < (mAsk D a j).2 then ((j : Int) + 1, max (D (j + 1)) (a - D (j + 1))) else mAsk D a j
theorem mAsk_rng {D : Nat → Int} {a : Int} (hD : ∀ s, 0 ≤ D s ∧ D s ≤ 42) (ha : 0 ≤ a ∧ a < 64) : ∀ j, 0 ≤ (mAsk D a j).2 ∧ (mAsk D a j).2 < 64 := by
  intro j
  induction j with
  | zero => exact ha
  | succ j ih =>
    have h1 := hD (j + 1)
    rw [mAsk]
    split
    · dsimp only; omega
    · exact ih
def mAskF (h : fwH) (p : Int) (x j : Nat) : Int × Int := mAsk (mDk h p x 21) (fwPop p) j
/-- the heap when the HOUR to measure was looked for -/
def askH (h : fwH) (x j : Nat) : fwH := fwUc (fwUc (fwUc (fwUc h 4 5 (h 4 0)) 10 0 (fwFu (h 10 0) 8 (mAskF h (h 10 0 7) x j).2)) 17 5 (mOH h 21)) 31 0 (mDk h (h 10 0 7) x 21)
set_option maxRecDepth 100000 in
set_option maxHeartbeats 4000000 in
theorem c_X6_hourToMeasure {d : Nat} {h : fwH} {Q : Option fwV → fwH → Prop} (x : Nat) (hP : pOk h 0) (hG : gOk h 0) (hn : 1 ≤ h 4 0 1) (hM : ∀ c : Nat, c < 10 → h 17 0 c ≤ 999) (hM9 : ∀ c : Nat, c < 10 → 0 ≤ h 17 0 c ∧ h 17 0 c ≤ 900) (hx : (x : Int) < h 4 0 1) (k : Q (some (aI (mAskF h (h 10 0 7) x 18).1)) (askH h x 18)) : fwCt mX6_hourToMeasure (d + 3) [aR 10 0, aI (x : Int)] h Q := by
  refine fwCt_of [some (aR 10 0), some (aI (x : Int)), none, none, none, none] rfl rfl rfl ?_
  obtain ⟨⟨g1, g2⟩, ⟨g3, g4⟩, ⟨g5, g6⟩, g7, g8⟩ := id hG
  refine w_aload_n dX6_hourToMeasure_0 rfl ?_
  refine w_iload_n dX6_hourToMeasure_1 rfl ?_
  refine w_callV (d := d + 2) (S := []) [aI (x : Int)] dX6_hourToMeasure_2 ml_X6_97 ok_X6_countShaded vi_X6_countShaded rfl rfl (by decide) rfl (Nat.le_of_ble_eq_true rfl) ?_
  refine c_X6_countShaded (d := d) x (by first | assumption | omega | decide) (by first | assumption | omega | decide) (by first | assumption | omega | decide) (by first | assumption | omega | decide) (by first | assumption | omega | decide) (by first | assumption | omega | decide) ?_
  show fwWP mX6_hourToMeasure (d + 3) 5 [some (aR 10 0), some (aI (x : Int)), none, none, none, none] [] (fwUc (fwUc (fwUc h 4 5 (h 4 0)) 17 5 (mOH h 21)) 31 0 (mDk h (h 10 0 7) x 21)) Q
  refine w_aload_n dX6_hourToMeasure_5 rfl ?_
  refine w_getiE (v := h 10 0 7) dX6_hourToMeasure_6 fl_X6_59 rfl (by decide) rfl ?_
  refine w_callS (d := d + 2) (S := []) [aI (h 10 0 7)] dX6_hourToMeasure_9 ml_X6_101 ok_J6_bitCount_0f7a4 st_J6_bitCount_0f7a4 rfl (Nat.le_of_ble_eq_true rfl) ?_
  refine c_bitCount (d := (d + 2)) (h 10 0 7) ?_
  show fwWP mX6_hourToMeasure (d + 3) 12 [some (aR 10 0), some (aI (x : Int)), none, none, none, none] [aI (fwPop (h 10 0 7))] (fwUc (fwUc (fwUc h 4 5 (h 4 0)) 17 5 (mOH h 21)) 31 0 (mDk h (h 10 0 7) x 21)) Q
  have hpp := fwPop_rng (h 10 0 7)
  refine w_istore_n [some (aR 10 0), some (aI (x : Int)), some (aI (fwPop (h 10 0 7))), none, none, none] dX6_hourToMeasure_12 rfl (by decide) ?_
  refine w_iconst dX6_hourToMeasure_13 ?_
  refine w_istore_n [some (aR 10 0), some (aI (x : Int)), some (aI (fwPop (h 10 0 7))), some (aI 0), none, none] dX6_hourToMeasure_14 rfl (by decide) ?_
  refine w_aload_n dX6_hourToMeasure_15 rfl ?_
  refine w_iload_n dX6_hourToMeasure_16 rfl ?_
  refine w_puti dX6_hourToMeasure_17 fl_X6_106 fp_10_8 rfl (by decide) ?_
  rw [show (fwUp (fwUc (fwUc (fwUc h 4 5 (h 4 0)) 17 5 (mOH h 21)) 31 0 (mDk h (h 10 0 7) x 21)) 10 0 8 (fwPop (h 10 0 7))) = (fwUc (fwUc (fwUc (fwUc h 4 5 (h 4 0)) 17 5 (mOH h 21)) 31 0 (mDk h (h 10 0 7) x 21)) 10 0 (fwFu (h 10 0) 8 (fwPop (h 10 0 7)))) from fwUp_fu _ _ _ _ _]
  rw [show (fwUc (fwUc (fwUc (fwUc h 4 5 (h 4 0)) 17 5 (mOH h 21)) 31 0 (mDk h (h 10 0 7) x 21)) 10 0 (fwFu (h 10 0) 8 (fwPop (h 10 0 7)))) = (fwUc (fwUc (fwUc (fwUc h 4 5 (h 4 0)) 10 0 (fwFu (h 10 0) 8 (fwPop (h 10 0 7)))) 17 5 (mOH h 21)) 31 0 (mDk h (h 10 0 7) x 21)) from by funext a b; simp only [fwUc]; (repeat' split); all_goals first | rfl | (exfalso; omega)]
  refine w_iconst dX6_hourToMeasure_20 ?_
  refine w_istore [some (aR 10 0), some (aI (x : Int)), some (aI (fwPop (h 10 0 7))), some (aI 0), some (aI 1), none] dX6_hourToMeasure_21 rfl (by decide) ?_
  have lp23 : ∀ c : Nat, c ≤ 18 → ∀ (y23 fo : Int) (hh23 : fwH), y23 = (c : Int) + 1 → fo = (mAskF h (h 10 0 7) x c).1 → hh23 = (fwUc (fwUc (fwUc (fwUc h 4 5 (h 4 0)) 10 0 (fwFu (h 10 0) 8 (mAskF h (h 10 0 7) x c).2)) 17 5 (mOH h 21)) 31 0 (mDk h (h 10 0 7) x 21)) → fwWP mX6_hourToMeasure (d + 3) 23 [some (aR 10 0), some (aI (x : Int)), some (aI (fwPop (h 10 0 7))), some (aI fo), some (aI y23), none] [] hh23 Q := by
    refine fw_up (fun c hc23 ih23 => ?_)
    intro y23 fo hh23 ey23 e_fo eh23
    subst ey23
    subst e_fo
    subst eh23
    have hdr := mDk_rng h (h 10 0 7) x (c + 1) 21
    have har : 0 ≤ (mAskF h (h 10 0 7) x c).2 ∧ (mAskF h (h 10 0 7) x c).2 < 64 := mAsk_rng (fun s => mDk_rng h (h 10 0 7) x s 21) hpp c
    show fwWP mX6_hourToMeasure (d + 3) 23 [some (aR 10 0), some (aI (x : Int)), some (aI (fwPop (h 10 0 7))), some (aI ((mAskF h (h 10 0 7) x c).1)), some (aI ((c : Int) + 1)), none] [] (fwUc (fwUc (fwUc (fwUc h 4 5 (h 4 0)) 10 0 (fwFu (h 10 0) 8 (mAskF h (h 10 0 7) x c).2)) 17 5 (mOH h 21)) 31 0 (mDk h (h 10 0 7) x 21)) Q
    refine w_iload dX6_hourToMeasure_23 rfl ?_
    refine w_aload_n dX6_hourToMeasure_25 rfl ?_
    refine w_getr 31 0 dX6_hourToMeasure_26 fl_X6_18 rfl (by decide) ?_
    refine w_alen dX6_hourToMeasure_29 rfl (by decide) (by decide) ?_
    refine w_icmp_ge 78 dX6_hourToMeasure_30 (by decide) (by omega) (by omega) (fun c30 => ?_) (fun c30 => ?_)
    · have ec23 : 18 = c := by omega
      subst ec23
      refine w_iload_n dX6_hourToMeasure_78 rfl ?_
      exact w_iretE dX6_hourToMeasure_79 rfl (by rfl) k
    · refine w_aload_n dX6_hourToMeasure_33 rfl ?_
      refine w_getr 31 0 dX6_hourToMeasure_34 fl_X6_18 rfl (by decide) ?_
      refine w_iload dX6_hourToMeasure_37 rfl ?_
      refine w_ialdE (v := mDk h (h 10 0 7) x 21 (c + 1)) dX6_hourToMeasure_39 rfl (by decide) (by omega) (by omega) (by rw [show ((c : Int) + 1).toNat = c + 1 by omega]; rfl) ?_
      refine w_iload_n dX6_hourToMeasure_40 rfl ?_
      refine w_aload_n dX6_hourToMeasure_41 rfl ?_
      refine w_getr 31 0 dX6_hourToMeasure_42 fl_X6_18 rfl (by decide) ?_
      refine w_iload dX6_hourToMeasure_45 rfl ?_
      refine w_ialdE (v := mDk h (h 10 0 7) x 21 (c + 1)) dX6_hourToMeasure_47 rfl (by decide) (by omega) (by omega) (by rw [show ((c : Int) + 1).toNat = c + 1 by omega]; rfl) ?_
      refine w_isub dX6_hourToMeasure_48 ?_
      refine w_max (d := d + 2) (S := []) dX6_hourToMeasure_49 ml_X6_109 (by omega) (by omega) (Nat.le_of_ble_eq_true rfl) ?_
      refine w_istore [some (aR 10 0), some (aI (x : Int)), some (aI (fwPop (h 10 0 7))), some (aI ((mAskF h (h 10 0 7) x c).1)), some (aI ((c : Int) + 1)), some (aI (max (mDk h (h 10 0 7) x 21 (c + 1)) ((fwPop (h 10 0 7)) - (mDk h (h 10 0 7) x 21 (c + 1)))))] dX6_hourToMeasure_52 rfl (by decide) ?_
      refine w_iload dX6_hourToMeasure_54 rfl ?_
      refine w_aload_n dX6_hourToMeasure_56 rfl ?_
      refine w_getiE (v := (mAskF h (h 10 0 7) x c).2) dX6_hourToMeasure_57 fl_X6_106 rfl (by decide) rfl ?_
      refine w_icmp_ge 72 dX6_hourToMeasure_60 (by decide) (by omega) (by omega) (fun c60 => ?_) (fun c60 => ?_)
      · refine w_iinc [some (aR 10 0), some (aI (x : Int)), some (aI (fwPop (h 10 0 7))), some (aI ((mAskF h (h 10 0 7) x c).1)), some (aI (((c : Int) + 1) + 1)), some (aI (max (mDk h (h 10 0 7) x 21 (c + 1)) ((fwPop (h 10 0 7)) - (mDk h (h 10 0 7) x 21 (c + 1)))))] dX6_hourToMeasure_72 rfl rfl (by decide) ?_
        refine w_goto 23 dX6_hourToMeasure_75 (by decide) ?_
        refine w_drop [5] [some (aR 10 0), some (aI (x : Int)), some (aI (fwPop (h 10 0 7))), some (aI ((mAskF h (h 10 0 7) x c).1)), some (aI (((c : Int) + 1) + 1)), none] rfl ?_
        refine ih23 (by omega) _ _ _ ?_ ?_ ?_
        · exact (by omega)
        · exact (by unfold mAskF; rw [mAsk]; first | rw [if_pos (by exact c60)] | rw [if_neg (by exact Int.not_lt.mpr c60)])
        · exact (by unfold mAskF; rw [mAsk]; first | rw [if_pos (by exact c60)] | rw [if_neg (by exact Int.not_lt.mpr c60)])
      · refine w_aload_n dX6_hourToMeasure_63 rfl ?_
        refine w_iload dX6_hourToMeasure_64 rfl ?_
        refine w_puti dX6_hourToMeasure_66 fl_X6_106 fp_10_8 rfl (by decide) ?_
        refine w_iload dX6_hourToMeasure_69 rfl ?_
        refine w_istore_n [some (aR 10 0), some (aI (x : Int)), some (aI (fwPop (h 10 0 7))), some (aI ((c : Int) + 1)), some (aI ((c : Int) + 1)), some (aI (max (mDk h (h 10 0 7) x 21 (c + 1)) ((fwPop (h 10 0 7)) - (mDk h (h 10 0 7) x 21 (c + 1)))))] dX6_hourToMeasure_71 rfl (by decide) ?_
        rw [show (fwUp (fwUc (fwUc (fwUc (fwUc h 4 5 (h 4 0)) 10 0 (fwFu (h 10 0) 8 (mAskF h (h 10 0 7) x c).2)) 17 5 (mOH h 21)) 31 0 (mDk h (h 10 0 7) x 21)) 10 0 8 (max (mDk h (h 10 0 7) x 21 (c + 1)) ((fwPop (h 10 0 7)) - (mDk h (h 10 0 7) x 21 (c + 1))))) = (fwUc (fwUc (fwUc (fwUc (fwUc h 4 5 (h 4 0)) 10 0 (fwFu (h 10 0) 8 (mAskF h (h 10 0 7) x c).2)) 17 5 (mOH h 21)) 31 0 (mDk h (h 10 0 7) x 21)) 10 0 (fwFu ((fwFu (h 10 0) 8 (mAskF h (h 10 0 7) x c).2)) 8 (max (mDk h (h 10 0 7) x 21 (c + 1)) ((fwPop (h 10 0 7)) - (mDk h (h 10 0 7) x 21 (c + 1)))))) from fwUp_fu _ _ _ _ _]
        rw [show (fwUc (fwUc (fwUc (fwUc (fwUc h 4 5 (h 4 0)) 10 0 (fwFu (h 10 0) 8 (mAskF h (h 10 0 7) x c).2)) 17 5 (mOH h 21)) 31 0 (mDk h (h 10 0 7) x 21)) 10 0 (fwFu ((fwFu (h 10 0) 8 (mAskF h (h 10 0 7) x c).2)) 8 (max (mDk h (h 10 0 7) x 21 (c + 1)) ((fwPop (h 10 0 7)) - (mDk h (h 10 0 7) x 21 (c + 1)))))) = (fwUc (fwUc (fwUc (fwUc h 4 5 (h 4 0)) 10 0 (fwFu ((fwFu (h 10 0) 8 (mAskF h (h 10 0 7) x c).2)) 8 (max (mDk h (h 10 0 7) x 21 (c + 1)) ((fwPop (h 10 0 7)) - (mDk h (h 10 0 7) x 21 (c + 1)))))) 17 5 (mOH h 21)) 31 0 (mDk h (h 10 0 7) x 21)) from by funext a b; simp only [fwUc]; (repeat' split); all_goals first | rfl | (exfalso; omega)]
        rw [fwFu_fu]
        refine w_iinc [some (aR 10 0), some (aI (x : Int)), some (aI (fwPop (h 10 0 7))), some (aI ((c : Int) + 1)), some (aI (((c : Int) + 1) + 1)), some (aI (max (mDk h (h 10 0 7) x 21 (c + 1)) ((fwPop (h 10 0 7)) - (mDk h (h 10 0 7) x 21 (c + 1)))))] dX6_hourToMeasure_72 rfl rfl (by decide) ?_
        refine w_goto 23 dX6_hourToMeasure_75 (by decide) ?_
        refine w_drop [5] [some (aR 10 0), some (aI (x : Int)), some (aI (fwPop (h 10 0 7))), some (aI ((c : Int) + 1)), some (aI (((c : Int) + 1) + 1)), none] rfl ?_
        refine ih23 (by omega) _ _ _ ?_ ?_ ?_
        · exact (by omega)
        · exact (by unfold mAskF; rw [mAsk]; first | rw [if_pos (by exact c60)] | rw [if_neg (by exact Int.not_lt.mpr c60)])
        · exact (by unfold mAskF; rw [mAsk]; first | rw [if_pos (by exact c60)] | rw [if_neg (by exact Int.not_lt.mpr c60)])
  refine lp23 0 (Nat.zero_le _) _ _ _ ?_ ?_ ?_
  · exact (by omega)
  · exact rfl
  · exact rfl
def mOmB (h : fwH) (r k : Nat) : Bool := decide (¬ (h 29 0 k = 1 ∧ h 30 0 k = (r : Int)))
abbrev mOm (h : fwH) (r : Nat) : Prop := mAll (mOmB h r) 21 = false
def mCnt (p : Nat → Bool) : Nat → Int
  | 0 => 0
  | c + 1 => if p c = true then mCnt p c + 1 else mCnt p c
def mDou (h : fwH) : Int := if h 10 0 7 ≠ 0 then h 10 0 6 else mCnt (fun r => decide (mOm h r)) (h 10 0 6).toNat
set_option maxRecDepth 100000 in
set_option maxHeartbeats 4000000 in
theorem c_X6_isOnlyMiss {d : Nat} {h : fwH} {Q : Option fwV → fwH → Prop} (r : Nat) (hm : ∀ k : Nat, k < 21 → (0 ≤ h 29 0 k ∧ h 29 0 k ≤ 20) ∧ -1 ≤ h 30 0 k ∧ h 30 0 k < 20) (hr : r < 100) (k : Q (some (aI (fwB (mOm h r)))) h) : fwCt mX6_isOnlyMiss (d + 0) [aR 10 0, aI (r : Int)] h Q := by
  refine fwCt_of [some (aR 10 0), some (aI (r : Int)), none] rfl rfl rfl ?_
  refine w_iconst dX6_isOnlyMiss_0 ?_
  refine w_istore_n [some (aR 10 0), some (aI (r : Int)), some (aI 0)] dX6_isOnlyMiss_1 rfl (by decide) ?_
  have lp2 : ∀ c : Nat, c ≤ 21 → ∀ (y2  : Int), y2 = (c : Int) → (mAll (mOmB h r) c = true) → fwWP mX6_isOnlyMiss (d + 0) 2 [some (aR 10 0), some (aI (r : Int)), some (aI y2)] [] h Q := by
    refine fw_up (fun c hc2 ih2 => ?_)
    intro y2  ey2 iv2_0
    subst ey2
    show fwWP mX6_isOnlyMiss (d + 0) 2 [some (aR 10 0), some (aI (r : Int)), some (aI (c : Int))] [] h Q
    refine w_iload_n dX6_isOnlyMiss_2 rfl ?_
    refine w_bipush dX6_isOnlyMiss_3 rfl ?_
    refine w_icmp_gt 36 dX6_isOnlyMiss_5 (by decide) (by omega) (by omega) (fun c5 => ?_) (fun c5 => ?_)
    · have ec2 : 21 = c := by omega
      subst ec2
      refine w_iconst dX6_isOnlyMiss_36 ?_
      exact w_zretE (P := mOm h r) dX6_isOnlyMiss_37 rfl (by rw [fwB_f (by rw [show mOm h r ↔ mAll (mOmB h r) 21 = false from Iff.rfl, iv2_0]; decide)]) k
    · have hmk := hm c (by omega)
      refine w_aload_n dX6_isOnlyMiss_8 rfl ?_
      refine w_getr 29 0 dX6_isOnlyMiss_9 fl_X6_9 rfl (by decide) ?_
      refine w_iload_n dX6_isOnlyMiss_12 rfl ?_
      refine w_ialdE (v := h 29 0 c) dX6_isOnlyMiss_13 rfl (by decide) (by omega) (by omega) (by rw [Int.toNat_natCast]) ?_
      refine w_iconst dX6_isOnlyMiss_14 ?_
      refine w_icmp_ne 30 dX6_isOnlyMiss_15 (by decide) (by omega) (by omega) (fun c15 => ?_) (fun c15 => ?_)
      · refine w_iinc [some (aR 10 0), some (aI (r : Int)), some (aI ((c : Int) + 1))] dX6_isOnlyMiss_30 rfl rfl (by decide) ?_
        refine w_goto 2 dX6_isOnlyMiss_33 (by decide) ?_
        refine ih2 (by omega) _ ?_ ?_
        · exact (by omega)
        · exact (by rw [mAll, iv2_0, Bool.true_and]; unfold mOmB; simp only [decide_eq_true_eq]; omega)
      · refine w_aload_n dX6_isOnlyMiss_18 rfl ?_
        refine w_getr 30 0 dX6_isOnlyMiss_19 fl_X6_15 rfl (by decide) ?_
        refine w_iload_n dX6_isOnlyMiss_22 rfl ?_
        refine w_ialdE (v := h 30 0 c) dX6_isOnlyMiss_23 rfl (by decide) (by omega) (by omega) (by rw [Int.toNat_natCast]) ?_
        refine w_iload_n dX6_isOnlyMiss_24 rfl ?_
        refine w_icmp_ne 30 dX6_isOnlyMiss_25 (by decide) (by omega) (by omega) (fun c25 => ?_) (fun c25 => ?_)
        · refine w_iinc [some (aR 10 0), some (aI (r : Int)), some (aI ((c : Int) + 1))] dX6_isOnlyMiss_30 rfl rfl (by decide) ?_
          refine w_goto 2 dX6_isOnlyMiss_33 (by decide) ?_
          refine ih2 (by omega) _ ?_ ?_
          · exact (by omega)
          · exact (by rw [mAll, iv2_0, Bool.true_and]; unfold mOmB; simp only [decide_eq_true_eq]; omega)
        · refine w_iconst dX6_isOnlyMiss_28 ?_
          exact w_zretE (P := mOm h r) dX6_isOnlyMiss_29 rfl (by rw [fwB_t (by cases q : mAll (mOmB h r) 21 with | false => exact q | true => have := (mAll_iff _ _).mp q c (by omega); unfold mOmB at this; simp only [decide_eq_true_eq] at this; exact absurd ⟨by omega, by omega⟩ this)]) k
  refine lp2 0 (Nat.zero_le _) _ ?_ ?_
  · exact (by omega)
  · exact rfl
set_option maxRecDepth 100000 in
set_option maxHeartbeats 4000000 in
theorem c_X6_doubtful {d : Nat} {h : fwH} {Q : Option fwV → fwH → Prop}  (hm : ∀ k : Nat, k < 21 → (0 ≤ h 29 0 k ∧ h 29 0 k ≤ 20) ∧ -1 ≤ h 30 0 k ∧ h 30 0 k < 20) (hr : 0 ≤ h 10 0 6 ∧ h 10 0 6 ≤ 20) (hpo : -2147483648 ≤ h 10 0 7 ∧ h 10 0 7 < 2147483648) (k : Q (some (aI (mDou h))) h) : fwCt mX6_doubtful (d + 1) [aR 10 0] h Q := by
  refine fwCt_of [some (aR 10 0), none, none] rfl rfl rfl ?_
  refine w_aload_n dX6_doubtful_0 rfl ?_
  refine w_geti dX6_doubtful_1 fl_X6_59 rfl (by decide) ?_
  refine w_if_eq 12 dX6_doubtful_4 (by decide) hpo (fun c4 => ?_) (fun c4 => ?_)
  · refine w_iconst dX6_doubtful_12 ?_
    refine w_istore_n [some (aR 10 0), some (aI 0), none] dX6_doubtful_13 rfl (by decide) ?_
    refine w_iconst dX6_doubtful_14 ?_
    refine w_istore_n [some (aR 10 0), some (aI 0), some (aI 0)] dX6_doubtful_15 rfl (by decide) ?_
    have lp16 : ∀ c : Nat, c ≤ (h 10 0 6).toNat → ∀ (y16 su : Int), y16 = (c : Int) → su = mCnt (fun r => decide (mOm h r)) c → fwWP mX6_doubtful (d + 1) 16 [some (aR 10 0), some (aI su), some (aI y16)] [] h Q := by
      refine fw_up (fun c hc16 ih16 => ?_)
      intro y16 su ey16 e_su
      subst ey16
      subst e_su
      show fwWP mX6_doubtful (d + 1) 16 [some (aR 10 0), some (aI (mCnt (fun r => decide (mOm h r)) c)), some (aI (c : Int))] [] h Q
      refine w_iload_n dX6_doubtful_16 rfl ?_
      refine w_aload_n dX6_doubtful_17 rfl ?_
      refine w_geti dX6_doubtful_18 fl_X6_55 rfl (by decide) ?_
      refine w_icmp_ge 41 dX6_doubtful_21 (by decide) (by omega) (by omega) (fun c21 => ?_) (fun c21 => ?_)
      · have ec16 : (h 10 0 6).toNat = c := by omega
        subst ec16
        refine w_iload_n dX6_doubtful_41 rfl ?_
        exact w_iretE dX6_doubtful_42 rfl (by rw [mDou, if_neg (fun q => q c4)]) k
      · refine w_aload_n dX6_doubtful_24 rfl ?_
        refine w_iload_n dX6_doubtful_25 rfl ?_
        refine w_callV (d := d + 0) (S := []) [aI (c : Int)] dX6_doubtful_26 ml_X6_121 ok_X6_isOnlyMiss vi_X6_isOnlyMiss rfl rfl (by decide) rfl (Nat.le_of_ble_eq_true rfl) ?_
        refine c_X6_isOnlyMiss (d := d) c (by first | assumption | omega | decide) (by first | assumption | omega | decide) ?_
        show fwWP mX6_doubtful (d + 1) 29 [some (aR 10 0), some (aI (mCnt (fun r => decide (mOm h r)) c)), some (aI (c : Int))] [aI (fwB (mOm h c))] h Q
        refine w_ifB_eq 35 dX6_doubtful_29 (by decide) (fun c29 => ?_) (fun c29 => ?_)
        · refine w_iinc [some (aR 10 0), some (aI (mCnt (fun r => decide (mOm h r)) c)), some (aI ((c : Int) + 1))] dX6_doubtful_35 rfl rfl (by decide) ?_
          refine w_goto 16 dX6_doubtful_38 (by decide) ?_
          refine ih16 (by omega) _ _ ?_ ?_
          · exact (by omega)
          · exact (by rw [mCnt]; first | rw [if_pos (by exact decide_eq_true c29)] | rw [if_neg (by intro q; exact c29 (of_decide_eq_true q))])
        · refine w_iinc [some (aR 10 0), some (aI ((mCnt (fun r => decide (mOm h r)) c) + 1)), some (aI (c : Int))] dX6_doubtful_32 rfl rfl (by decide) ?_
          refine w_iinc [some (aR 10 0), some (aI ((mCnt (fun r => decide (mOm h r)) c) + 1)), some (aI ((c : Int) + 1))] dX6_doubtful_35 rfl rfl (by decide) ?_
          refine w_goto 16 dX6_doubtful_38 (by decide) ?_
          refine ih16 (by omega) _ _ ?_ ?_
          · exact (by omega)
          · exact (by rw [mCnt]; first | rw [if_pos (by exact decide_eq_true c29)] | rw [if_neg (by intro q; exact c29 (of_decide_eq_true q))])
    refine lp16 0 (Nat.zero_le _) _ _ ?_ ?_
    · exact (by omega)
    · exact rfl
  · refine w_aload_n dX6_doubtful_7 rfl ?_
    refine w_geti dX6_doubtful_8 fl_X6_55 rfl (by decide) ?_
    exact w_iretE dX6_doubtful_11 rfl (by rw [mDou, if_pos c4]) k

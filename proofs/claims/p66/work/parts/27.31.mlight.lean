theorem mShd_iff {n : Int} {H : Nat → Int} {x st s : Int} (hs1 : 1 ≤ s) : ∀ a : Nat, s ≤ mShd n H x st a ↔ ∃ b : Nat, b < a ∧ (0 ≤ x + st * ((b : Int) + 1) ∧ x + st * ((b : Int) + 1) < n) ∧ s * ((b : Int) + 1) < H (x + st * ((b : Int) + 1)).toNat - H x.toNat := by
  intro a
  induction a with
  | zero =>
    rw [mShd]
    constructor
    · intro q; omega
    · rintro ⟨b, hb, -⟩; omega
  | succ a ih =>
    have hdiv : ∀ z : Int, s ≤ z / ((a : Int) + 1) ↔ s * ((a : Int) + 1) ≤ z := fun z => Int.le_ediv_iff_mul_le (by omega)
    have hpos : 1 ≤ s * ((a : Int) + 1) := by
      have := Int.mul_le_mul hs1 (show (1 : Int) ≤ (a : Int) + 1 by omega) (by omega) (by omega)
      omega
    rw [mShd]
    split
    · rename_i q
      constructor
      · intro z
        exact ⟨a, by omega, q.1, by have := (hdiv _).mp z; omega⟩
      · rintro ⟨b, hb, h1, h2⟩
        rcases Nat.lt_or_ge b a with e | e
        · have := ih.mpr ⟨b, e, h1, h2⟩
          omega
        · have e2 : b = a := by omega
          subst e2
          exact (hdiv _).mpr (by omega)
    · rename_i q
      constructor
      · intro z
        obtain ⟨b, h1, h2, h3⟩ := ih.mp z
        exact ⟨b, by omega, h2, h3⟩
      · rintro ⟨b, hb, h1, h2⟩
        rcases Nat.lt_or_ge b a with e | e
        · exact ih.mpr ⟨b, e, h1, h2⟩
        · have e2 : b = a := by omega
          subst e2
          have z1 := (hdiv (H (x + st * ((b : Int) + 1)).toNat - H x.toNat - 1)).mpr (by omega)
          rcases Int.lt_or_le (mShd n H x st b) ((H (x + st * ((b : Int) + 1)).toNat - H x.toNat - 1) / ((b : Int) + 1)) with z2 | z2
          · exact absurd ⟨h1, by omega, z2⟩ q
          · omega
theorem shade_p {n : Int} {H : Nat → Int} {x y : Int} (hx : 0 ≤ x ∧ x < n) (hy : 1 ≤ y ∧ y ≤ 9) : mShadeB n H x y = true ↔ ∃ b : Nat, b < 9 ∧ (0 ≤ x + -1 * ((b : Int) + 1) ∧ x + -1 * ((b : Int) + 1) < n) ∧ y * ((b : Int) + 1) < H (x + -1 * ((b : Int) + 1)).toNat - H x.toNat := by
  rw [← mShd_iff hy.1]
  unfold mShadeB mSh
  rw [if_pos (by omega), if_pos hx, decide_eq_true_eq]
  omega
theorem shade_m {n : Int} {H : Nat → Int} {x y : Int} (hx : 0 ≤ x ∧ x < n) (hy : 1 ≤ -y ∧ -y ≤ 9) : mShadeB n H x y = true ↔ ∃ b : Nat, b < 9 ∧ (0 ≤ x + 1 * ((b : Int) + 1) ∧ x + 1 * ((b : Int) + 1) < n) ∧ -y * ((b : Int) + 1) < H (x + 1 * ((b : Int) + 1)).toNat - H x.toNat := by
  rw [← mShd_iff hy.1]
  unfold mShadeB mSh
  rw [if_neg (by omega), if_pos hx, decide_eq_true_eq]
  omega
theorem mul_rg {s a : Int} (h1 : 0 ≤ s ∧ s ≤ 9) (h2 : 0 ≤ a ∧ a ≤ 20) : 0 ≤ s * a ∧ s * a ≤ 180 := by
  refine ⟨Int.mul_nonneg h1.1 h2.1, ?_⟩
  have := Int.mul_le_mul h1.2 h2.2 h2.1 (by omega)
  omega
set_option maxRecDepth 100000 in
set_option maxHeartbeats 4000000 in
theorem c_X12_isDark {d : Nat} {h gg : fwH} {Q : Option fwV → fwH → Prop} (x y : Int) (H : Nat → Int) (J : cOk gg) (R : jF gg h) (hH : hiR (gg 4 0 1) (h 42 0) H) (hb : hB H) (hx : 0 ≤ x ∧ x < gg 4 0 1) (hy : y ≠ 0 ∧ -9 ≤ y ∧ y ≤ 9) (k : Q (some (aI (fwB (mShadeB (gg 4 0 1) H x y = true)))) h) : fwCt mX12_isDark (d + 2) [aR 12 0, aI x, aI y] h Q := by
  refine fwCt_of [some (aR 12 0), some (aI x), some (aI y), none, none, none, none] rfl rfl rfl ?_
  have g2 : gg 4 0 1 ≤ 10 := J.2.2.1.1.2
  refine w_iload_n dX12_isDark_0 rfl ?_
  refine w_if_le 8 dX12_isDark_1 (by decide) (by omega) (fun c1 => ?_) (fun c1 => ?_)
  · refine w_iconst dX12_isDark_8 ?_
    refine w_istore_n [some (aR 12 0), some (aI x), some (aI y), some (aI 1), none, none, none] dX12_isDark_9 rfl (by decide) ?_
    refine w_iload_n dX12_isDark_10 rfl ?_
    refine w_abs (d := d + 1) (S := []) dX12_isDark_11 ml_X12_214 (by omega) (Nat.le_of_ble_eq_true rfl) ?_
    rw [show (if 0 ≤ y then y else -y) = -y from if_neg (by omega)]
    refine w_istore [some (aR 12 0), some (aI x), some (aI y), some (aI 1), some (aI (-y)), none, none] dX12_isDark_14 rfl (by decide) ?_
    refine w_iload_n dX12_isDark_16 rfl ?_
    refine w_iload_n dX12_isDark_17 rfl ?_
    refine w_iadd dX12_isDark_18 ?_
    refine w_istore [some (aR 12 0), some (aI x), some (aI y), some (aI 1), some (aI (-y)), some (aI (x + 1)), none] dX12_isDark_19 rfl (by decide) ?_
    refine w_iconst dX12_isDark_21 ?_
    refine w_istore [some (aR 12 0), some (aI x), some (aI y), some (aI 1), some (aI (-y)), some (aI (x + 1)), some (aI 1)] dX12_isDark_22 rfl (by decide) ?_
    have lp24 : ∀ c : Nat, c ≤ 10 → ∀ (y24 oo : Int), y24 = (c : Int) + 1 → oo = x + 1 * ((c : Int) + 1) → (∀ b : Nat, b < c → ¬ ((0 ≤ x + 1 * ((b : Int) + 1) ∧ x + 1 * ((b : Int) + 1) < gg 4 0 1) ∧ -y * ((b : Int) + 1) < H (x + 1 * ((b : Int) + 1)).toNat - H x.toNat)) → fwWP mX12_isDark (d + 2) 24 [some (aR 12 0), some (aI x), some (aI y), some (aI 1), some (aI (-y)), some (aI oo), some (aI y24)] [] h Q := by
      refine fw_up (fun c hc24 ih24 => ?_)
      intro y24 oo ey24 e_oo iv24_0
      subst ey24
      subst e_oo
      have hml := mul_rg (s := -y) (a := (c : Int) + 1) (by omega) (by omega)
      show fwWP mX12_isDark (d + 2) 24 [some (aR 12 0), some (aI x), some (aI y), some (aI 1), some (aI (-y)), some (aI (x + 1 * ((c : Int) + 1))), some (aI ((c : Int) + 1))] [] h Q
      refine w_aload_n dX12_isDark_24 rfl ?_
      refine w_iload dX12_isDark_25 rfl ?_
      refine w_i2l dX12_isDark_27 (by omega) ?_
      refine w_callV (d := d + 1) (S := []) [aJ (x + 1 * ((c : Int) + 1))] dX12_isDark_28 ml_X12_203 ok_X12_isCell vi_X12_isCell rfl rfl (by decide) rfl (Nat.le_of_ble_eq_true rfl) ?_
      refine c_X12_isCell (d := d) (x + 1 * ((c : Int) + 1)) J R (by omega) ?_
      show fwWP mX12_isDark (d + 2) 31 [some (aR 12 0), some (aI x), some (aI y), some (aI 1), some (aI (-y)), some (aI (x + 1 * ((c : Int) + 1))), some (aI ((c : Int) + 1))] [aI (fwB (0 ≤ (x + 1 * ((c : Int) + 1)) ∧ (x + 1 * ((c : Int) + 1)) ≤ gg 4 0 1 - 1))] h Q
      refine w_ifB_eq 70 dX12_isDark_31 (by decide) (fun c31 => ?_) (fun c31 => ?_)
      · refine w_iconst dX12_isDark_70 ?_
        exact w_zretE (P := mShadeB (gg 4 0 1) H x y = true) dX12_isDark_71 rfl (by rw [fwB_f]; intro q0; obtain ⟨b0, z1, z2, z3⟩ := (shade_m hx (by omega)).mp q0; rcases Nat.lt_or_ge b0 c with e0 | e0; exact iv24_0 b0 e0 ⟨z2, z3⟩; omega) k
      · have hbo := hb (x + 1 * ((c : Int) + 1)).toNat (by omega)
        have hbx := hb x.toNat (by omega)
        refine w_aload_n dX12_isDark_34 rfl ?_
        refine w_getr 42 0 dX12_isDark_35 fl_X12_34 rfl (by decide) ?_
        refine w_iload dX12_isDark_38 rfl ?_
        refine w_ialdE (v := H (x + 1 * ((c : Int) + 1)).toNat) dX12_isDark_40 rfl (by decide) (by omega) (by omega) (hH _ (by omega)) ?_
        refine w_aload_n dX12_isDark_41 rfl ?_
        refine w_getr 42 0 dX12_isDark_42 fl_X12_34 rfl (by decide) ?_
        refine w_iload_n dX12_isDark_45 rfl ?_
        refine w_ialdE (v := H (x).toNat) dX12_isDark_46 rfl (by decide) (by omega) (by omega) (hH _ (by omega)) ?_
        refine w_isub dX12_isDark_47 ?_
        refine w_iload dX12_isDark_48 rfl ?_
        refine w_iload dX12_isDark_50 rfl ?_
        refine w_imul dX12_isDark_52 ?_
        refine w_icmp_le 58 dX12_isDark_53 (by decide) (by omega) (by omega) (fun c53 => ?_) (fun c53 => ?_)
        · refine w_iload dX12_isDark_58 rfl ?_
          refine w_iload_n dX12_isDark_60 rfl ?_
          refine w_iadd dX12_isDark_61 ?_
          refine w_istore [some (aR 12 0), some (aI x), some (aI y), some (aI 1), some (aI (-y)), some (aI ((x + 1 * ((c : Int) + 1)) + 1)), some (aI ((c : Int) + 1))] dX12_isDark_62 rfl (by decide) ?_
          refine w_iinc [some (aR 12 0), some (aI x), some (aI y), some (aI 1), some (aI (-y)), some (aI ((x + 1 * ((c : Int) + 1)) + 1)), some (aI (((c : Int) + 1) + 1))] dX12_isDark_64 rfl rfl (by decide) ?_
          refine w_goto 24 dX12_isDark_67 (by decide) ?_
          refine ih24 (by omega) _ _ ?_ ?_ ?_
          · exact (by omega)
          · exact (by omega)
          · exact (fun b hb0 => by rcases Nat.lt_or_ge b c with e0 | e0; exact iv24_0 b e0; rw [show b = c by omega]; exact fun q0 => by have := q0.2; omega)
        · refine w_iconst dX12_isDark_56 ?_
          exact w_zretE (P := mShadeB (gg 4 0 1) H x y = true) dX12_isDark_57 rfl (by rw [fwB_t ((shade_m hx (by omega)).mpr ⟨c, by omega, by omega, by omega⟩)]) k
    refine lp24 0 (Nat.zero_le _) _ _ ?_ ?_ ?_
    · exact (by omega)
    · exact (by omega)
    · exact (fun b hb0 => by omega)
  · refine w_iconst dX12_isDark_4 ?_
    refine w_goto 9 dX12_isDark_5 (by decide) ?_
    refine w_istore_n [some (aR 12 0), some (aI x), some (aI y), some (aI (-1)), none, none, none] dX12_isDark_9 rfl (by decide) ?_
    refine w_iload_n dX12_isDark_10 rfl ?_
    refine w_abs (d := d + 1) (S := []) dX12_isDark_11 ml_X12_214 (by omega) (Nat.le_of_ble_eq_true rfl) ?_
    rw [show (if 0 ≤ y then y else -y) = y from if_pos (by omega)]
    refine w_istore [some (aR 12 0), some (aI x), some (aI y), some (aI (-1)), some (aI y), none, none] dX12_isDark_14 rfl (by decide) ?_
    refine w_iload_n dX12_isDark_16 rfl ?_
    refine w_iload_n dX12_isDark_17 rfl ?_
    refine w_iadd dX12_isDark_18 ?_
    refine w_istore [some (aR 12 0), some (aI x), some (aI y), some (aI (-1)), some (aI y), some (aI (x + (-1))), none] dX12_isDark_19 rfl (by decide) ?_
    refine w_iconst dX12_isDark_21 ?_
    refine w_istore [some (aR 12 0), some (aI x), some (aI y), some (aI (-1)), some (aI y), some (aI (x + (-1))), some (aI 1)] dX12_isDark_22 rfl (by decide) ?_
    have lp24 : ∀ c : Nat, c ≤ 10 → ∀ (y24 oo : Int), y24 = (c : Int) + 1 → oo = x + -1 * ((c : Int) + 1) → (∀ b : Nat, b < c → ¬ ((0 ≤ x + -1 * ((b : Int) + 1) ∧ x + -1 * ((b : Int) + 1) < gg 4 0 1) ∧ y * ((b : Int) + 1) < H (x + -1 * ((b : Int) + 1)).toNat - H x.toNat)) → fwWP mX12_isDark (d + 2) 24 [some (aR 12 0), some (aI x), some (aI y), some (aI (-1)), some (aI y), some (aI oo), some (aI y24)] [] h Q := by
      refine fw_up (fun c hc24 ih24 => ?_)
      intro y24 oo ey24 e_oo iv24_0
      subst ey24
      subst e_oo
      have hml := mul_rg (s := y) (a := (c : Int) + 1) (by omega) (by omega)
      show fwWP mX12_isDark (d + 2) 24 [some (aR 12 0), some (aI x), some (aI y), some (aI (-1)), some (aI y), some (aI (x + -1 * ((c : Int) + 1))), some (aI ((c : Int) + 1))] [] h Q
      refine w_aload_n dX12_isDark_24 rfl ?_
      refine w_iload dX12_isDark_25 rfl ?_
      refine w_i2l dX12_isDark_27 (by omega) ?_
      refine w_callV (d := d + 1) (S := []) [aJ (x + -1 * ((c : Int) + 1))] dX12_isDark_28 ml_X12_203 ok_X12_isCell vi_X12_isCell rfl rfl (by decide) rfl (Nat.le_of_ble_eq_true rfl) ?_
      refine c_X12_isCell (d := d) (x + -1 * ((c : Int) + 1)) J R (by omega) ?_
      show fwWP mX12_isDark (d + 2) 31 [some (aR 12 0), some (aI x), some (aI y), some (aI (-1)), some (aI y), some (aI (x + -1 * ((c : Int) + 1))), some (aI ((c : Int) + 1))] [aI (fwB (0 ≤ (x + -1 * ((c : Int) + 1)) ∧ (x + -1 * ((c : Int) + 1)) ≤ gg 4 0 1 - 1))] h Q
      refine w_ifB_eq 70 dX12_isDark_31 (by decide) (fun c31 => ?_) (fun c31 => ?_)
      · refine w_iconst dX12_isDark_70 ?_
        exact w_zretE (P := mShadeB (gg 4 0 1) H x y = true) dX12_isDark_71 rfl (by rw [fwB_f]; intro q0; obtain ⟨b0, z1, z2, z3⟩ := (shade_p hx (by omega)).mp q0; rcases Nat.lt_or_ge b0 c with e0 | e0; exact iv24_0 b0 e0 ⟨z2, z3⟩; omega) k
      · have hbo := hb (x + -1 * ((c : Int) + 1)).toNat (by omega)
        have hbx := hb x.toNat (by omega)
        refine w_aload_n dX12_isDark_34 rfl ?_
        refine w_getr 42 0 dX12_isDark_35 fl_X12_34 rfl (by decide) ?_
        refine w_iload dX12_isDark_38 rfl ?_
        refine w_ialdE (v := H (x + -1 * ((c : Int) + 1)).toNat) dX12_isDark_40 rfl (by decide) (by omega) (by omega) (hH _ (by omega)) ?_
        refine w_aload_n dX12_isDark_41 rfl ?_
        refine w_getr 42 0 dX12_isDark_42 fl_X12_34 rfl (by decide) ?_
        refine w_iload_n dX12_isDark_45 rfl ?_
        refine w_ialdE (v := H (x).toNat) dX12_isDark_46 rfl (by decide) (by omega) (by omega) (hH _ (by omega)) ?_
        refine w_isub dX12_isDark_47 ?_
        refine w_iload dX12_isDark_48 rfl ?_
        refine w_iload dX12_isDark_50 rfl ?_
        refine w_imul dX12_isDark_52 ?_
        refine w_icmp_le 58 dX12_isDark_53 (by decide) (by omega) (by omega) (fun c53 => ?_) (fun c53 => ?_)
        · refine w_iload dX12_isDark_58 rfl ?_
          refine w_iload_n dX12_isDark_60 rfl ?_
          refine w_iadd dX12_isDark_61 ?_
          refine w_istore [some (aR 12 0), some (aI x), some (aI y), some (aI (-1)), some (aI y), some (aI ((x + -1 * ((c : Int) + 1)) + (-1))), some (aI ((c : Int) + 1))] dX12_isDark_62 rfl (by decide) ?_
          refine w_iinc [some (aR 12 0), some (aI x), some (aI y), some (aI (-1)), some (aI y), some (aI ((x + -1 * ((c : Int) + 1)) + (-1))), some (aI (((c : Int) + 1) + 1))] dX12_isDark_64 rfl rfl (by decide) ?_
          refine w_goto 24 dX12_isDark_67 (by decide) ?_
          refine ih24 (by omega) _ _ ?_ ?_ ?_
          · exact (by omega)
          · exact (by omega)
          · exact (fun b hb0 => by rcases Nat.lt_or_ge b c with e0 | e0; exact iv24_0 b e0; rw [show b = c by omega]; exact fun q0 => by have := q0.2; omega)
        · refine w_iconst dX12_isDark_56 ?_
          exact w_zretE (P := mShadeB (gg 4 0 1) H x y = true) dX12_isDark_57 rfl (by rw [fwB_t ((shade_p hx (by omega)).mpr ⟨c, by omega, by omega, by omega⟩)]) k
    refine lp24 0 (Nat.zero_le _) _ _ ?_ ?_ ?_
    · exact (by omega)
    · exact (by omega)
    · exact (fun b hb0 => by omega)
def mLt (n : Int) (H : Nat → Int) (x : Int) : Nat → Int
  | 0 => 0
  | c + 1 => if (c : Int) - 9 ≠ 0 ∧ ¬ mShadeB n H x ((c : Int) - 9) = true then mLt n H x c + 1 else mLt n H x c
theorem mLt_eq {n : Int} {H : Nat → Int} {x : Int} (hn : n ≤ 10) (hb : hB H) : mLt n H x 19 = 18 - mSh n H x (-1) - mSh n H x 1 := by
  have r1 := mSh_rng (x := x) (st := 1) hn hb
  have r2 := mSh_rng (x := x) (st := -1) hn hb
  have k1 : ∀ c : Nat, c ≤ 9 → mLt n H x c = min (c : Int) (9 - mSh n H x 1) := by
    intro c
    induction c with
    | zero => intro _; rw [mLt]; omega
    | succ c ih =>
      intro hc
      have e := ih (by omega)
      rw [mLt]
      unfold mShadeB
      simp only [if_neg (show ¬ 0 < (c : Int) - 9 by omega), decide_eq_true_eq]
      split <;> omega
  have k2 : mLt n H x 10 = 9 - mSh n H x 1 := by
    have e := k1 9 (by omega)
    rw [mLt.eq_2, if_neg (by omega), e]
    omega
  have k3 : ∀ k : Nat, k ≤ 9 → mLt n H x (10 + k) = (9 - mSh n H x 1) + max 0 ((k : Int) - mSh n H x (-1)) := by
    intro k
    induction k with
    | zero => intro _; rw [Nat.add_zero, k2]; omega
    | succ k ih =>
      intro hk
      have e := ih (by omega)
      rw [← Nat.add_assoc, mLt]
      unfold mShadeB
      simp only [if_pos (show 0 < ((10 + k : Nat) : Int) - 9 by omega), decide_eq_true_eq]
      split <;> omega
  have := k3 9 (by omega)
  rw [this]
  omega
theorem mLt_rng (n : Int) (H : Nat → Int) (x : Int) : ∀ c : Nat, 0 ≤ mLt n H x c ∧ mLt n H x c ≤ c := by
  intro c
  induction c with
  | zero => simp [mLt]
  | succ c ih => rw [mLt]; split <;> omega
set_option maxRecDepth 100000 in
set_option maxHeartbeats 4000000 in
theorem c_X12_lightOf {d : Nat} {h gg : fwH} {Q : Option fwV → fwH → Prop} (x : Int) (H : Nat → Int) (J : cOk gg) (R : jF gg h) (hH : hiR (gg 4 0 1) (h 42 0) H) (hb : hB H) (hx : 0 ≤ x ∧ x < gg 4 0 1) (k : Q (some (aI (18 - mSh (gg 4 0 1) H x (-1) - mSh (gg 4 0 1) H x 1))) h) : fwCt mX12_lightOf (d + 3) [aR 12 0, aI x] h Q := by
  refine fwCt_of [some (aR 12 0), some (aI x), none, none] rfl rfl rfl ?_
  have g2 : gg 4 0 1 ≤ 10 := J.2.2.1.1.2
  refine w_iconst dX12_lightOf_0 ?_
  refine w_istore_n [some (aR 12 0), some (aI x), some (aI 0), none] dX12_lightOf_1 rfl (by decide) ?_
  refine w_bipush dX12_lightOf_2 rfl ?_
  refine w_istore_n [some (aR 12 0), some (aI x), some (aI 0), some (aI (-9))] dX12_lightOf_4 rfl (by decide) ?_
  have lp5 : ∀ c : Nat, c ≤ 19 → ∀ (y5 nv : Int), y5 = (c : Int) - 9 → nv = mLt (gg 4 0 1) H x c → fwWP mX12_lightOf (d + 3) 5 [some (aR 12 0), some (aI x), some (aI nv), some (aI y5)] [] h Q := by
    refine fw_up (fun c hc5 ih5 => ?_)
    intro y5 nv ey5 e_nv
    subst ey5
    subst e_nv
    show fwWP mX12_lightOf (d + 3) 5 [some (aR 12 0), some (aI x), some (aI (mLt (gg 4 0 1) H x c)), some (aI ((c : Int) - 9))] [] h Q
    refine w_iload_n dX12_lightOf_5 rfl ?_
    refine w_bipush dX12_lightOf_6 rfl ?_
    refine w_icmp_gt 38 dX12_lightOf_8 (by decide) (by omega) (by omega) (fun c8 => ?_) (fun c8 => ?_)
    · have ec5 : 19 = c := by omega
      subst ec5
      refine w_iload_n dX12_lightOf_38 rfl ?_
      exact w_iretE dX12_lightOf_39 rfl (mLt_eq g2 hb) k
    · refine w_iload_n dX12_lightOf_11 rfl ?_
      refine w_iload_n dX12_lightOf_12 rfl ?_
      refine w_if_eq 29 dX12_lightOf_13 (by decide) (by omega) (fun c13 => ?_) (fun c13 => ?_)
      · refine w_iconst dX12_lightOf_29 ?_
        refine w_iadd dX12_lightOf_30 ?_
        refine w_istore_n [some (aR 12 0), some (aI x), some (aI ((mLt (gg 4 0 1) H x c) + 0)), some (aI ((c : Int) - 9))] dX12_lightOf_31 rfl (by decide) ?_
        refine w_iinc [some (aR 12 0), some (aI x), some (aI ((mLt (gg 4 0 1) H x c) + 0)), some (aI (((c : Int) - 9) + 1))] dX12_lightOf_32 rfl rfl (by decide) ?_
        refine w_goto 5 dX12_lightOf_35 (by decide) ?_
        refine ih5 (by omega) _ _ ?_ ?_
        · exact (by omega)
        · exact (by rw [mLt, if_neg (by omega)]; omega)
      · refine w_aload_n dX12_lightOf_16 rfl ?_
        refine w_iload_n dX12_lightOf_17 rfl ?_
        refine w_iload_n dX12_lightOf_18 rfl ?_
        refine w_callV (d := d + 2) (S := [aI (mLt (gg 4 0 1) H x c)]) [aI x, aI ((c : Int) - 9)] dX12_lightOf_19 ml_X12_217 ok_X12_isDark vi_X12_isDark rfl rfl (by decide) rfl (Nat.le_of_ble_eq_true rfl) ?_
        refine c_X12_isDark (d := d) x ((c : Int) - 9) H J R hH hb (show 0 ≤ x ∧ x < gg 4 0 1 by omega) (by omega) ?_
        show fwWP mX12_lightOf (d + 3) 22 [some (aR 12 0), some (aI x), some (aI (mLt (gg 4 0 1) H x c)), some (aI ((c : Int) - 9))] [aI (fwB (mShadeB (gg 4 0 1) H x ((c : Int) - 9) = true)), aI (mLt (gg 4 0 1) H x c)] h Q
        refine w_ifB_ne 29 dX12_lightOf_22 (by decide) (fun c22 => ?_) (fun c22 => ?_)
        · refine w_iconst dX12_lightOf_29 ?_
          refine w_iadd dX12_lightOf_30 ?_
          refine w_istore_n [some (aR 12 0), some (aI x), some (aI ((mLt (gg 4 0 1) H x c) + 0)), some (aI ((c : Int) - 9))] dX12_lightOf_31 rfl (by decide) ?_
          refine w_iinc [some (aR 12 0), some (aI x), some (aI ((mLt (gg 4 0 1) H x c) + 0)), some (aI (((c : Int) - 9) + 1))] dX12_lightOf_32 rfl rfl (by decide) ?_
          refine w_goto 5 dX12_lightOf_35 (by decide) ?_
          refine ih5 (by omega) _ _ ?_ ?_
          · exact (by omega)
          · exact (by rw [mLt, if_neg (fun q0 => q0.2 c22)]; omega)
        · refine w_iconst dX12_lightOf_25 ?_
          refine w_goto 30 dX12_lightOf_26 (by decide) ?_
          refine w_iadd dX12_lightOf_30 ?_
          refine w_istore_n [some (aR 12 0), some (aI x), some (aI ((mLt (gg 4 0 1) H x c) + 1)), some (aI ((c : Int) - 9))] dX12_lightOf_31 rfl (by decide) ?_
          refine w_iinc [some (aR 12 0), some (aI x), some (aI ((mLt (gg 4 0 1) H x c) + 1)), some (aI (((c : Int) - 9) + 1))] dX12_lightOf_32 rfl rfl (by decide) ?_
          refine w_goto 5 dX12_lightOf_35 (by decide) ?_
          refine ih5 (by omega) _ _ ?_ ?_
          · exact (by omega)
          · exact (by rw [mLt, if_pos ⟨by omega, c22⟩])
  refine lp5 0 (Nat.zero_le _) _ _ ?_ ?_
  · exact (by omega)
  · exact rfl
theorem fwOr_0 {x : Int} (hx : -2147483648 ≤ x ∧ x < 2147483648) : fwOr x 0 = x := by
  unfold fwOr
  rw [show Int32.ofInt 0 = 0 from rfl, Int32.or_zero]
  exact fwI_rt hx
theorem mBits_n {p : Nat → Bool} : ∀ n : Nat, n ≤ 20 → ∃ a : Nat, mBits p n = (a : Int) ∧ a < 2 ^ n := by
  intro n
  induction n with
  | zero => intro _; exact ⟨0, rfl, by decide⟩
  | succ n ih =>
    intro hn
    obtain ⟨a, e, ha⟩ := ih (by omega)
    have h1 : 2 ^ n < 2 ^ (n + 1) := Nat.pow_lt_pow_right (by omega) (by omega)
    have h2 : 2 ^ (n + 1) ≤ 2 ^ 21 := Nat.pow_le_pow_right (by omega) (by omega)
    rw [mBits]
    split
    · rw [e, fwShl1_nat (by omega), fwOr_nat (by omega) (by omega)]
      exact ⟨_, rfl, Nat.or_lt_two_pow (by omega) h1⟩
    · exact ⟨a, e, by omega⟩
theorem mBits_10 {p : Nat → Bool} {n : Nat} (hn : n ≤ 10) : 0 ≤ mBits p n ∧ mBits p n < 1024 := by
  obtain ⟨a, e, ha⟩ := mBits_n (p := p) n (by omega)
  have : 2 ^ n ≤ 2 ^ 10 := Nat.pow_le_pow_right (by omega) hn
  rw [e]
  omega
set_option maxRecDepth 100000 in
set_option maxHeartbeats 4000000 in
theorem c_X12_snowSet {d : Nat} {h gg : fwH} {Q : Option fwV → fwH → Prop} (H : Nat → Int) (J : cOk gg) (R : jF gg h) (hH : hiR (gg 4 0 1) (h 42 0) H) (hb : hB H) (k : Q (some (aI (mBits (fun c => decide (gg 4 0 2 ≤ H c)) (gg 4 0 1).toNat))) h) : fwCt mX12_snowSet (d + 0) [aR 12 0] h Q := by
  refine fwCt_of [some (aR 12 0), none, none] rfl rfl rfl ?_
  obtain ⟨hl, hP, hG, -, -, -, hlw, -, ha, hs, -, hsc⟩ := id J
  obtain ⟨⟨g1, g2⟩, ⟨g3, g4⟩, ⟨g5, g6⟩, g7, -⟩ := id hG
  have hpz := hP.1
  refine w_iconst dX12_snowSet_0 ?_
  refine w_istore_n [some (aR 12 0), some (aI 0), none] dX12_snowSet_1 rfl (by decide) ?_
  refine w_iconst dX12_snowSet_2 ?_
  refine w_istore_n [some (aR 12 0), some (aI 0), some (aI 0)] dX12_snowSet_3 rfl (by decide) ?_
  have lp4 : ∀ c : Nat, c ≤ (gg 4 0 1).toNat → ∀ (y4 se : Int), y4 = (c : Int) → se = mBits (fun c => decide (gg 4 0 2 ≤ H c)) c → fwWP mX12_snowSet (d + 0) 4 [some (aR 12 0), some (aI se), some (aI y4)] [] h Q := by
    refine fw_up (fun c hc4 ih4 => ?_)
    intro y4 se ey4 e_se
    subst ey4
    subst e_se
    show fwWP mX12_snowSet (d + 0) 4 [some (aR 12 0), some (aI (mBits (fun c => decide (gg 4 0 2 ≤ H c)) c)), some (aI (c : Int))] [] h Q
    refine w_iload_n dX12_snowSet_4 rfl ?_
    refine w_aload_n dX12_snowSet_5 rfl ?_
    refine w_getr 36 0 dX12_snowSet_6 fl_X12_9 rfl (by decide) ?_
    refine w_iconst dX12_snowSet_9 ?_
    refine w_ialdE (v := gg 4 0 1) dX12_snowSet_10 rfl (by decide) (by omega) (by omega) R.1 ?_
    refine w_icmp_ge 45 dX12_snowSet_11 (by decide) (by omega) (by omega) (fun c11 => ?_) (fun c11 => ?_)
    · have ec4 : (gg 4 0 1).toNat = c := by omega
      subst ec4
      refine w_iload_n dX12_snowSet_45 rfl ?_
      exact w_iretE dX12_snowSet_46 rfl (by rfl) k
    · have hb1 := hb c (by omega)
      refine w_iload_n dX12_snowSet_14 rfl ?_
      refine w_aload_n dX12_snowSet_15 rfl ?_
      refine w_getr 42 0 dX12_snowSet_16 fl_X12_34 rfl (by decide) ?_
      refine w_iload_n dX12_snowSet_19 rfl ?_
      refine w_ialdE (v := H c) dX12_snowSet_20 rfl (by decide) (by omega) (by omega) (hH _ (by omega)) ?_
      refine w_aload_n dX12_snowSet_21 rfl ?_
      refine w_getr 36 0 dX12_snowSet_22 fl_X12_9 rfl (by decide) ?_
      refine w_iconst dX12_snowSet_25 ?_
      refine w_ialdE (v := gg 4 0 2) dX12_snowSet_26 rfl (by decide) (by omega) (by omega) R.2.1 ?_
      refine w_icmp_lt 36 dX12_snowSet_27 (by decide) (by omega) (by omega) (fun c27 => ?_) (fun c27 => ?_)
      · refine w_iconst dX12_snowSet_36 ?_
        refine w_ior dX12_snowSet_37 ?_
        refine w_istore_n [some (aR 12 0), some (aI (fwOr (mBits (fun c => decide (gg 4 0 2 ≤ H c)) c) 0)), some (aI (c : Int))] dX12_snowSet_38 rfl (by decide) ?_
        refine w_iinc [some (aR 12 0), some (aI (fwOr (mBits (fun c => decide (gg 4 0 2 ≤ H c)) c) 0)), some (aI ((c : Int) + 1))] dX12_snowSet_39 rfl rfl (by decide) ?_
        refine w_goto 4 dX12_snowSet_42 (by decide) ?_
        refine ih4 (by omega) _ _ ?_ ?_
        · exact (by omega)
        · exact (by rw [mBits]; first | (rw [if_pos (decide_eq_true (by omega))]; done) | (rw [if_neg (by simp only [decide_eq_true_eq]; omega), fwOr_0 (mBits_rng _ _)]; done))
      · refine w_iconst dX12_snowSet_30 ?_
        refine w_iload_n dX12_snowSet_31 rfl ?_
        refine w_ishl dX12_snowSet_32 ?_
        refine w_goto 37 dX12_snowSet_33 (by decide) ?_
        refine w_ior dX12_snowSet_37 ?_
        refine w_istore_n [some (aR 12 0), some (aI (fwOr (mBits (fun c => decide (gg 4 0 2 ≤ H c)) c) (fwShl 1 (c : Int)))), some (aI (c : Int))] dX12_snowSet_38 rfl (by decide) ?_
        refine w_iinc [some (aR 12 0), some (aI (fwOr (mBits (fun c => decide (gg 4 0 2 ≤ H c)) c) (fwShl 1 (c : Int)))), some (aI ((c : Int) + 1))] dX12_snowSet_39 rfl rfl (by decide) ?_
        refine w_goto 4 dX12_snowSet_42 (by decide) ?_
        refine ih4 (by omega) _ _ ?_ ?_
        · exact (by omega)
        · exact (by rw [mBits]; first | (rw [if_pos (decide_eq_true (by omega))]; done) | (rw [if_neg (by simp only [decide_eq_true_eq]; omega), fwOr_0 (mBits_rng _ _)]; done))
  refine lp4 0 (Nat.zero_le _) _ _ ?_ ?_
  · exact (by omega)
  · exact rfl
set_option maxRecDepth 100000 in
set_option maxHeartbeats 4000000 in
theorem c_X12_gainOf {d : Nat} {h gg : fwH} {Q : Option fwV → fwH → Prop} (f : Nat) (H : Nat → Int) (J : cOk gg) (R : jF gg h) (hH : hiR (gg 4 0 1) (h 42 0) H) (hb : hB H) (hn : 1 ≤ gg 4 0 1) (hf : (f : Int) < gg 5 0 3) (k : Q (some (aI (mGain (gg 4 0 1) H (gg 4 0 2) (gg 18 0) f))) h) : fwCt mX12_gainOf (d + 4) [aR 12 0, aI (f : Int)] h Q := by
  refine fwCt_of [some (aR 12 0), some (aI (f : Int))] rfl rfl rfl ?_
  obtain ⟨hl, hP, hG, -, -, -, hlw, -, ha, hs, -, hsc⟩ := id J
  obtain ⟨⟨g1, g2⟩, ⟨g3, g4⟩, ⟨g5, g6⟩, g7, -⟩ := id hG
  have hpz := hP.1
  refine w_aload_n dX12_gainOf_0 rfl ?_
  refine w_iload_n dX12_gainOf_1 rfl ?_
  refine w_iconst dX12_gainOf_2 ?_
  refine w_callV (d := d + 3) (S := []) [aI (f : Int), aI 2] dX12_gainOf_3 ml_X12_220 ok_X12_of vi_X12_of rfl rfl (by decide) rfl (Nat.le_of_ble_eq_true rfl) ?_
  refine c_ofE (d := (d + 3)) f 2 (f : Int) J R (by omega) (by omega) (by omega) ?_
  show fwWP mX12_gainOf (d + 4) 6 [some (aR 12 0), some (aI (f : Int))] [aI (gg 18 0 (7 * f + 2))] h Q
  have hof1 := hP.2 f (by omega)
  have hcl := R.2.2.2.2.2.2.2.2.2.2.1 f (by omega)
  refine w_aload_n dX12_gainOf_6 rfl ?_
  refine w_aload_n dX12_gainOf_7 rfl ?_
  refine w_iload_n dX12_gainOf_8 rfl ?_
  refine w_iconst dX12_gainOf_9 ?_
  refine w_callV (d := d + 3) (S := [aR 12 0, aI (gg 18 0 (7 * f + 2))]) [aI (f : Int), aI 0] dX12_gainOf_10 ml_X12_220 ok_X12_of vi_X12_of rfl rfl (by decide) rfl (Nat.le_of_ble_eq_true rfl) ?_
  refine c_ofE (d := (d + 3)) f 0 (f : Int) J R (by omega) (by omega) (by omega) ?_
  show fwWP mX12_gainOf (d + 4) 13 [some (aR 12 0), some (aI (f : Int))] [aI (gg 18 0 (7 * f + 0)), aR 12 0, aI (gg 18 0 (7 * f + 2))] h Q
  have hof2 := hP.2 f (by omega)
  refine w_callV (d := d + 3) (S := [aI (gg 18 0 (7 * f + 2))]) [aI (gg 18 0 (7 * f + 0))] dX12_gainOf_13 ml_X12_223 ok_X12_lightOf vi_X12_lightOf rfl rfl (by decide) rfl (Nat.le_of_ble_eq_true rfl) ?_
  refine c_X12_lightOf (d := d) (gg 18 0 (7 * f + 0)) H J R hH hb ⟨(hP.2 f (by omega)).1.1, hcl⟩ ?_
  show fwWP mX12_gainOf (d + 4) 16 [some (aR 12 0), some (aI (f : Int))] [aI (18 - mSh (gg 4 0 1) H (gg 18 0 (7 * f + 0)) (-1) - mSh (gg 4 0 1) H (gg 18 0 (7 * f + 0)) 1), aI (gg 18 0 (7 * f + 2))] h Q
  refine w_imul dX12_gainOf_16 ?_
  refine w_aload_n dX12_gainOf_17 rfl ?_
  refine w_iload_n dX12_gainOf_18 rfl ?_
  refine w_iconst dX12_gainOf_19 ?_
  refine w_callV (d := d + 3) (S := [aI ((gg 18 0 (7 * f + 2)) * (18 - mSh (gg 4 0 1) H (gg 18 0 (7 * f + 0)) (-1) - mSh (gg 4 0 1) H (gg 18 0 (7 * f + 0)) 1))]) [aI (f : Int), aI 3] dX12_gainOf_20 ml_X12_220 ok_X12_of vi_X12_of rfl rfl (by decide) rfl (Nat.le_of_ble_eq_true rfl) ?_
  refine c_ofE (d := (d + 3)) f 3 (f : Int) J R (by omega) (by omega) (by omega) ?_
  show fwWP mX12_gainOf (d + 4) 23 [some (aR 12 0), some (aI (f : Int))] [aI (gg 18 0 (7 * f + 3)), aI ((gg 18 0 (7 * f + 2)) * (18 - mSh (gg 4 0 1) H (gg 18 0 (7 * f + 0)) (-1) - mSh (gg 4 0 1) H (gg 18 0 (7 * f + 0)) 1))] h Q
  have hof3 := hP.2 f (by omega)
  refine w_aload_n dX12_gainOf_23 rfl ?_
  refine w_callV (d := d + 3) (S := [aI (gg 18 0 (7 * f + 3)), aI ((gg 18 0 (7 * f + 2)) * (18 - mSh (gg 4 0 1) H (gg 18 0 (7 * f + 0)) (-1) - mSh (gg 4 0 1) H (gg 18 0 (7 * f + 0)) 1))]) [] dX12_gainOf_24 ml_X12_226 ok_X12_snowSet vi_X12_snowSet rfl rfl (by decide) rfl (Nat.le_of_ble_eq_true rfl) ?_
  refine c_X12_snowSet (d := (d + 3)) H J R hH hb ?_
  show fwWP mX12_gainOf (d + 4) 27 [some (aR 12 0), some (aI (f : Int))] [aI (mBits (fun c => decide (gg 4 0 2 ≤ H c)) (gg 4 0 1).toNat), aI (gg 18 0 (7 * f + 3)), aI ((gg 18 0 (7 * f + 2)) * (18 - mSh (gg 4 0 1) H (gg 18 0 (7 * f + 0)) (-1) - mSh (gg 4 0 1) H (gg 18 0 (7 * f + 0)) 1))] h Q
  have hmb4 := mBits_10 (p := (fun c => decide (gg 4 0 2 ≤ H c))) (n := (gg 4 0 1).toNat) (by omega)
  refine w_callS (d := d + 3) (S := [aI (gg 18 0 (7 * f + 3)), aI ((gg 18 0 (7 * f + 2)) * (18 - mSh (gg 4 0 1) H (gg 18 0 (7 * f + 0)) (-1) - mSh (gg 4 0 1) H (gg 18 0 (7 * f + 0)) 1))]) [aI (mBits (fun c => decide (gg 4 0 2 ≤ H c)) (gg 4 0 1).toNat)] dX12_gainOf_27 ml_X12_229 ok_X12_bits st_X12_bits rfl (Nat.le_of_ble_eq_true rfl) ?_
  refine c_bitsP (d := (d + 3)) (mBits (fun c => decide (gg 4 0 2 ≤ H c)) (gg 4 0 1).toNat) (by first | assumption | omega | decide) ?_
  show fwWP mX12_gainOf (d + 4) 30 [some (aR 12 0), some (aI (f : Int))] [aI (fwPop (mBits (fun c => decide (gg 4 0 2 ≤ H c)) (gg 4 0 1).toNat)), aI (gg 18 0 (7 * f + 3)), aI ((gg 18 0 (7 * f + 2)) * (18 - mSh (gg 4 0 1) H (gg 18 0 (7 * f + 0)) (-1) - mSh (gg 4 0 1) H (gg 18 0 (7 * f + 0)) 1))] h Q
  have hpp5 := fwPop_rng (mBits (fun c => decide (gg 4 0 2 ≤ H c)) (gg 4 0 1).toNat)
  refine w_imul dX12_gainOf_30 ?_
  refine w_iadd dX12_gainOf_31 ?_
  refine w_aload_n dX12_gainOf_32 rfl ?_
  refine w_iload_n dX12_gainOf_33 rfl ?_
  refine w_iconst dX12_gainOf_34 ?_
  refine w_callV (d := d + 3) (S := [aI (((gg 18 0 (7 * f + 2)) * (18 - mSh (gg 4 0 1) H (gg 18 0 (7 * f + 0)) (-1) - mSh (gg 4 0 1) H (gg 18 0 (7 * f + 0)) 1)) + ((gg 18 0 (7 * f + 3)) * (fwPop (mBits (fun c => decide (gg 4 0 2 ≤ H c)) (gg 4 0 1).toNat))))]) [aI (f : Int), aI 4] dX12_gainOf_35 ml_X12_220 ok_X12_of vi_X12_of rfl rfl (by decide) rfl (Nat.le_of_ble_eq_true rfl) ?_
  refine c_ofE (d := (d + 3)) f 4 (f : Int) J R (by omega) (by omega) (by omega) ?_
  show fwWP mX12_gainOf (d + 4) 38 [some (aR 12 0), some (aI (f : Int))] [aI (gg 18 0 (7 * f + 4)), aI (((gg 18 0 (7 * f + 2)) * (18 - mSh (gg 4 0 1) H (gg 18 0 (7 * f + 0)) (-1) - mSh (gg 4 0 1) H (gg 18 0 (7 * f + 0)) 1)) + ((gg 18 0 (7 * f + 3)) * (fwPop (mBits (fun c => decide (gg 4 0 2 ≤ H c)) (gg 4 0 1).toNat))))] h Q
  have hof6 := hP.2 f (by omega)
  refine w_aload_n dX12_gainOf_38 rfl ?_
  refine w_getr 42 0 dX12_gainOf_39 fl_X12_34 rfl (by decide) ?_
  refine w_aload_n dX12_gainOf_42 rfl ?_
  refine w_callV (d := d + 3) (S := [aR 42 0, aI (gg 18 0 (7 * f + 4)), aI (((gg 18 0 (7 * f + 2)) * (18 - mSh (gg 4 0 1) H (gg 18 0 (7 * f + 0)) (-1) - mSh (gg 4 0 1) H (gg 18 0 (7 * f + 0)) 1)) + ((gg 18 0 (7 * f + 3)) * (fwPop (mBits (fun c => decide (gg 4 0 2 ≤ H c)) (gg 4 0 1).toNat))))]) [] dX12_gainOf_43 ml_X12_200 ok_X12_topCell vi_X12_topCell rfl rfl (by decide) rfl (Nat.le_of_ble_eq_true rfl) ?_
  refine c_X12_topCell (d := (d + 3)) H J R hH hb (show 1 ≤ gg 4 0 1 by omega) ?_
  show fwWP mX12_gainOf (d + 4) 46 [some (aR 12 0), some (aI (f : Int))] [aI (mTop H (gg 4 0 4) (gg 4 0 1).toNat), aR 42 0, aI (gg 18 0 (7 * f + 4)), aI (((gg 18 0 (7 * f + 2)) * (18 - mSh (gg 4 0 1) H (gg 18 0 (7 * f + 0)) (-1) - mSh (gg 4 0 1) H (gg 18 0 (7 * f + 0)) 1)) + ((gg 18 0 (7 * f + 3)) * (fwPop (mBits (fun c => decide (gg 4 0 2 ≤ H c)) (gg 4 0 1).toNat))))] h Q
  have htp7 := mTop_r2 H (gg 4 0 4) (gg 4 0 1).toNat (by omega)
  refine w_ialdE (v := H (mTop H (gg 4 0 4) (gg 4 0 1).toNat).toNat) dX12_gainOf_46 rfl (by decide) (by omega) (by omega) (hH _ (by omega)) ?_
  refine w_imul dX12_gainOf_47 ?_
  refine w_iadd dX12_gainOf_48 ?_
  exact w_iretE dX12_gainOf_49 rfl (by unfold mGain; rw [mMax_top (ls := gg 4 0 4) (gg 4 0 1).toNat (by omega) (fun c hc => (hb c (by omega)).1)]; rfl) k
theorem mGain_r2 {h : fwH} (J : cOk h) {H : Nat → Int} (hb : hB H) (f : Nat) (hf : (f : Int) < h 5 0 3) : 0 ≤ mGain (h 4 0 1) H (h 4 0 2) (h 18 0) f ∧ mGain (h 4 0 1) H (h 4 0 2) (h 18 0) f ≤ 27000 := by
  have h1 := J.2.1.2 f (by have := J.2.1.1; omega)
  exact mGain_rng J.2.2.1.1.2 hb h1.2.2.1 h1.2.2.2.1 h1.2.2.2.2.1
theorem mSum_r2 {h : fwH} (J : cOk h) {H : Nat → Int} (hb : hB H) : ∀ n : Nat, (n : Int) ≤ h 5 0 3 → 0 ≤ mSum (mGain (h 4 0 1) H (h 4 0 2) (h 18 0)) n ∧ mSum (mGain (h 4 0 1) H (h 4 0 2) (h 18 0)) n ≤ 27000 * n := by
  intro n
  induction n with
  | zero => intro _; simp [mSum]
  | succ n ih =>
    intro hn
    have h1 := ih (by omega)
    have h2 := mGain_r2 J hb n (by omega)
    rw [mSum]
    omega
set_option maxRecDepth 100000 in
set_option maxHeartbeats 4000000 in
theorem c_X12_gainOfAll {d : Nat} {h gg : fwH} {Q : Option fwV → fwH → Prop} (H : Nat → Int) (J : cOk gg) (R : jF gg h) (hH : hiR (gg 4 0 1) (h 42 0) H) (hb : hB H) (hn : 1 ≤ gg 4 0 1) (k : Q (some (aI (mSum (mGain (gg 4 0 1) H (gg 4 0 2) (gg 18 0)) (gg 5 0 3).toNat))) h) : fwCt mX12_gainOfAll (d + 5) [aR 12 0] h Q := by
  refine fwCt_of [some (aR 12 0), none, none] rfl rfl rfl ?_
  obtain ⟨hl, hP, hG, -, -, -, hlw, -, ha, hs, -, hsc⟩ := id J
  obtain ⟨⟨g1, g2⟩, ⟨g3, g4⟩, ⟨g5, g6⟩, g7, -⟩ := id hG
  have hpz := hP.1
  refine w_iconst dX12_gainOfAll_0 ?_
  refine w_istore_n [some (aR 12 0), some (aI 0), none] dX12_gainOfAll_1 rfl (by decide) ?_
  refine w_iconst dX12_gainOfAll_2 ?_
  refine w_istore_n [some (aR 12 0), some (aI 0), some (aI 0)] dX12_gainOfAll_3 rfl (by decide) ?_
  have lp4 : ∀ c : Nat, c ≤ (gg 5 0 3).toNat → ∀ (y4 su : Int), y4 = (c : Int) → su = mSum (mGain (gg 4 0 1) H (gg 4 0 2) (gg 18 0)) c → fwWP mX12_gainOfAll (d + 5) 4 [some (aR 12 0), some (aI su), some (aI y4)] [] h Q := by
    refine fw_up (fun c hc4 ih4 => ?_)
    intro y4 su ey4 e_su
    subst ey4
    subst e_su
    show fwWP mX12_gainOfAll (d + 5) 4 [some (aR 12 0), some (aI (mSum (mGain (gg 4 0 1) H (gg 4 0 2) (gg 18 0)) c)), some (aI (c : Int))] [] h Q
    refine w_iload_n dX12_gainOfAll_4 rfl ?_
    refine w_aload_n dX12_gainOfAll_5 rfl ?_
    refine w_getr 36 0 dX12_gainOfAll_6 fl_X12_9 rfl (by decide) ?_
    refine w_bipush dX12_gainOfAll_9 rfl ?_
    refine w_ialdE (v := gg 5 0 3) dX12_gainOfAll_11 rfl (by decide) (by omega) (by omega) R.2.2.2.2.2.2.1 ?_
    refine w_icmp_ge 29 dX12_gainOfAll_12 (by decide) (by omega) (by omega) (fun c12 => ?_) (fun c12 => ?_)
    · have ec4 : (gg 5 0 3).toNat = c := by omega
      subst ec4
      refine w_iload_n dX12_gainOfAll_29 rfl ?_
      exact w_iretE dX12_gainOfAll_30 rfl (by rfl) k
    · refine w_iload_n dX12_gainOfAll_15 rfl ?_
      refine w_aload_n dX12_gainOfAll_16 rfl ?_
      refine w_iload_n dX12_gainOfAll_17 rfl ?_
      refine w_callV (d := d + 4) (S := [aI (mSum (mGain (gg 4 0 1) H (gg 4 0 2) (gg 18 0)) c)]) [aI (c : Int)] dX12_gainOfAll_18 ml_X12_232 ok_X12_gainOf vi_X12_gainOf rfl rfl (by decide) rfl (Nat.le_of_ble_eq_true rfl) ?_
      refine c_X12_gainOf (d := d) c H J R hH hb (show 1 ≤ gg 4 0 1 by omega) (show (c : Int) < gg 5 0 3 by omega) ?_
      show fwWP mX12_gainOfAll (d + 5) 21 [some (aR 12 0), some (aI (mSum (mGain (gg 4 0 1) H (gg 4 0 2) (gg 18 0)) c)), some (aI (c : Int))] [aI (mGain (gg 4 0 1) H (gg 4 0 2) (gg 18 0) c), aI (mSum (mGain (gg 4 0 1) H (gg 4 0 2) (gg 18 0)) c)] h Q
      have hgr2 := mGain_r2 J hb c (by omega)
      refine w_iadd dX12_gainOfAll_21 ?_
      refine w_istore_n [some (aR 12 0), some (aI ((mSum (mGain (gg 4 0 1) H (gg 4 0 2) (gg 18 0)) c) + (mGain (gg 4 0 1) H (gg 4 0 2) (gg 18 0) c))), some (aI (c : Int))] dX12_gainOfAll_22 rfl (by decide) ?_
      refine w_iinc [some (aR 12 0), some (aI ((mSum (mGain (gg 4 0 1) H (gg 4 0 2) (gg 18 0)) c) + (mGain (gg 4 0 1) H (gg 4 0 2) (gg 18 0) c))), some (aI ((c : Int) + 1))] dX12_gainOfAll_23 rfl rfl (by decide) ?_
      refine w_goto 4 dX12_gainOfAll_26 (by decide) ?_
      refine ih4 (by omega) _ _ ?_ ?_
      · exact (by omega)
      · exact (by rw [mSum])
  refine lp4 0 (Nat.zero_le _) _ _ ?_ ?_
  · exact (by omega)
  · exact rfl

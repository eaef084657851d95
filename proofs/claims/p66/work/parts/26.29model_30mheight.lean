section
/-! FootLowerModel: its world and the class's MOUNTAIN say the same -/
def jF (gg h : fwH) : Prop := h 36 0 0 = gg 4 0 1 ∧ h 36 0 1 = gg 4 0 2 ∧ h 36 0 2 = gg 4 0 3 ∧ h 36 0 3 = gg 3 0 4 ∧ h 36 0 4 = gg 4 0 4 ∧ h 36 0 5 = gg 3 0 5 ∧ h 36 0 6 = gg 5 0 3 ∧ h 36 0 7 = gg 3 0 6 ∧ h 36 0 8 = gg 3 0 3 ∧ (∀ j : Nat, j < 56 → h 36 0 (19 + j) = gg 18 0 j) ∧ (∀ f : Nat, (f : Int) < gg 5 0 3 → gg 18 0 (7 * f) < gg 4 0 1) ∧ (0 < gg 3 0 6 → 1 ≤ gg 4 0 3 ∧ 1 ≤ gg 3 0 4)
def hiR (n : Int) (A H : Nat → Int) : Prop := ∀ c : Nat, (c : Int) < n → A c = H c
def hB (H : Nat → Int) : Prop := ∀ c : Nat, c < 10 → 0 ≤ H c ∧ H c ≤ 1000
theorem hiR_fu {n : Int} {A H : Nat → Int} (hA : hiR n A H) (t : Nat) (x : Int) : hiR n (fwFu A t x) (fwFu H t x) := by
  intro c hc
  unfold fwFu
  split
  · rfl
  · exact hA c hc
set_option maxRecDepth 100000 in
set_option maxHeartbeats 4000000 in
theorem c_X12_in {d : Nat} {h : fwH} {Q : Option fwV → fwH → Prop} (v lo hi : Int) (hv : -9223372036854775808 ≤ v ∧ v < 9223372036854775808) (hlo : -9223372036854775808 ≤ lo ∧ lo < 9223372036854775808) (hhi : -9223372036854775808 ≤ hi ∧ hi < 9223372036854775808) (k : Q (some (aI (fwB (lo ≤ v ∧ v ≤ hi)))) h) : fwCt mX12_in (d + 0) [aJ v, aJ lo, aJ hi] h Q := by
  refine fwCt_of [some (aJ v), none, some (aJ lo), none, some (aJ hi), none] rfl rfl rfl ?_
  refine w_lload_n dX12_in_0 rfl ?_
  refine w_lload_n dX12_in_1 rfl ?_
  refine w_lc_lt 17 dX12_in_2 dX12_in_3 (by decide) (by omega) (by omega) (fun c3 => ?_) (fun c3 => ?_)
  · refine w_iconst dX12_in_17 ?_
    exact w_zretE dX12_in_18 rfl (by first | (exfalso; omega) | (rw [fwB_t (by omega)]) | (rw [fwB_f (by omega)])) k
  · refine w_lload_n dX12_in_6 rfl ?_
    refine w_lload dX12_in_7 rfl ?_
    refine w_lc_gt 17 dX12_in_9 dX12_in_10 (by decide) (by omega) (by omega) (fun c10 => ?_) (fun c10 => ?_)
    · refine w_iconst dX12_in_17 ?_
      exact w_zretE dX12_in_18 rfl (by first | (exfalso; omega) | (rw [fwB_t (by omega)]) | (rw [fwB_f (by omega)])) k
    · refine w_iconst dX12_in_13 ?_
      refine w_goto 18 dX12_in_14 (by decide) ?_
      exact w_zretE dX12_in_18 rfl (by first | (exfalso; omega) | (rw [fwB_t (by omega)]) | (rw [fwB_f (by omega)])) k
set_option maxRecDepth 100000 in
set_option maxHeartbeats 4000000 in
theorem c_X12_bit {d : Nat} {h : fwH} {Q : Option fwV → fwH → Prop} (x y : Int)  (k : Q (some (aI (fwAnd (fwShr x y) 1))) h) : fwCt mX12_bit (d + 0) [aI x, aI y] h Q := by
  refine fwCt_of [some (aI x), some (aI y)] rfl rfl rfl ?_
  refine w_iload_n dX12_bit_0 rfl ?_
  refine w_iload_n dX12_bit_1 rfl ?_
  refine w_ishr dX12_bit_2 ?_
  refine w_iconst dX12_bit_3 ?_
  refine w_iand dX12_bit_4 ?_
  exact w_iretE dX12_bit_5 rfl (by rfl) k
theorem bit_01 (x y : Int) : fwAnd (fwShr x y) 1 = 0 ∨ fwAnd (fwShr x y) 1 = 1 := by
  unfold fwAnd
  obtain ⟨j, hj, e⟩ := pk_andE (Int32.ofInt (fwShr x y)) (m := Int32.ofInt 1) 1 (by decide)
  rw [e, nI_toInt (by omega)]
  omega
def mBt (x : Int) : Nat → Int
  | 0 => 0
  | k + 1 => mBt x k + fwAnd (fwShr x (k : Int)) 1
theorem mBt_rng (x : Int) : ∀ k : Nat, 0 ≤ mBt x k ∧ mBt x k ≤ k := by
  intro k
  induction k with
  | zero => simp [mBt]
  | succ k ih => rw [mBt]; have := bit_01 x k; omega
set_option maxRecDepth 100000 in
set_option maxHeartbeats 4000000 in
theorem c_X12_bits {d : Nat} {h : fwH} {Q : Option fwV → fwH → Prop} (x : Int)  (k : Q (some (aI (mBt x 21))) h) : fwCt mX12_bits (d + 0) [aI x] h Q := by
  refine fwCt_of [some (aI x), none, none] rfl rfl rfl ?_
  refine w_iconst dX12_bits_0 ?_
  refine w_istore_n [some (aI x), some (aI 0), none] dX12_bits_1 rfl (by decide) ?_
  refine w_iconst dX12_bits_2 ?_
  refine w_istore_n [some (aI x), some (aI 0), some (aI 0)] dX12_bits_3 rfl (by decide) ?_
  have lp4 : ∀ c : Nat, c ≤ 21 → ∀ (y4 nv : Int), y4 = (c : Int) → nv = mBt x c → fwWP mX12_bits (d + 0) 4 [some (aI x), some (aI nv), some (aI y4)] [] h Q := by
    refine fw_up (fun c hc4 ih4 => ?_)
    intro y4 nv ey4 e_nv
    subst ey4
    subst e_nv
    show fwWP mX12_bits (d + 0) 4 [some (aI x), some (aI (mBt x c)), some (aI (c : Int))] [] h Q
    refine w_iload_n dX12_bits_4 rfl ?_
    refine w_bipush dX12_bits_5 rfl ?_
    refine w_icmp_ge 24 dX12_bits_7 (by decide) (by omega) (by omega) (fun c7 => ?_) (fun c7 => ?_)
    · have ec4 : 21 = c := by omega
      subst ec4
      refine w_iload_n dX12_bits_24 rfl ?_
      exact w_iretE dX12_bits_25 rfl (by rfl) k
    · refine w_iload_n dX12_bits_10 rfl ?_
      refine w_iload_n dX12_bits_11 rfl ?_
      refine w_iload_n dX12_bits_12 rfl ?_
      refine w_ishr dX12_bits_13 ?_
      refine w_iconst dX12_bits_14 ?_
      refine w_iand dX12_bits_15 ?_
      refine w_iadd dX12_bits_16 ?_
      refine w_istore_n [some (aI x), some (aI ((mBt x c) + (fwAnd (fwShr x (c : Int)) 1))), some (aI (c : Int))] dX12_bits_17 rfl (by decide) ?_
      refine w_iinc [some (aI x), some (aI ((mBt x c) + (fwAnd (fwShr x (c : Int)) 1))), some (aI ((c : Int) + 1))] dX12_bits_18 rfl rfl (by decide) ?_
      refine w_goto 4 dX12_bits_21 (by decide) ?_
      refine ih4 (by omega) _ _ ?_ ?_
      · exact (by omega)
      · exact (by rw [mBt])
  refine lp4 0 (Nat.zero_le _) _ _ ?_ ?_
  · exact (by omega)
  · exact rfl
set_option maxRecDepth 100000 in
theorem mBt_10 : ∀ a : Nat, a < 1024 → mBt (a : Int) 21 = fwPop (a : Int) := by decide +kernel
theorem mBt_pop {x : Int} (hx : 0 ≤ x ∧ x < 1024) : mBt x 21 = fwPop x := by
  obtain ⟨a, rfl⟩ : ∃ a : Nat, x = a := ⟨x.toNat, by omega⟩
  exact mBt_10 a (by omega)
theorem c_bitsP {d : Nat} {h : fwH} {Q : Option fwV → fwH → Prop} (x : Int) (hx : 0 ≤ x ∧ x < 1024) (k : Q (some (aI (fwPop x))) h) : fwCt mX12_bits d [aI x] h Q := by
  refine c_X12_bits x ?_
  rw [mBt_pop hx]
  exact k
set_option maxRecDepth 100000 in
set_option maxHeartbeats 4000000 in
theorem c_X12_isMount {d : Nat} {h gg : fwH} {Q : Option fwV → fwH → Prop}  (J : cOk gg) (R : jF gg h)  (k : Q (some (aI (fwB (0 < gg 3 0 6)))) h) : fwCt mX12_isMount (d + 0) [aR 12 0] h Q := by
  refine fwCt_of [some (aR 12 0)] rfl rfl rfl ?_
  obtain ⟨hl, hP, hG, -, -, -, hlw, -, ha, hs, -, hsc⟩ := id J
  obtain ⟨⟨g1, g2⟩, ⟨g3, g4⟩, ⟨g5, g6⟩, g7, -⟩ := id hG
  have hpz := hP.1
  refine w_aload_n dX12_isMount_0 rfl ?_
  refine w_getr 36 0 dX12_isMount_1 fl_X12_9 rfl (by decide) ?_
  refine w_bipush dX12_isMount_4 rfl ?_
  refine w_ialdE (v := gg 3 0 6) dX12_isMount_6 rfl (by decide) (by omega) (by omega) R.2.2.2.2.2.2.2.1 ?_
  refine w_if_le 14 dX12_isMount_7 (by decide) (by omega) (fun c7 => ?_) (fun c7 => ?_)
  · refine w_iconst dX12_isMount_14 ?_
    exact w_zretE dX12_isMount_15 rfl (by first | (exfalso; omega) | (rw [fwB_t (by omega)]) | (rw [fwB_f (by omega)]) | rfl) k
  · refine w_iconst dX12_isMount_10 ?_
    refine w_goto 15 dX12_isMount_11 (by decide) ?_
    exact w_zretE dX12_isMount_15 rfl (by first | (exfalso; omega) | (rw [fwB_t (by omega)]) | (rw [fwB_f (by omega)]) | rfl) k
set_option maxRecDepth 100000 in
set_option maxHeartbeats 4000000 in
theorem c_X12_isCell {d : Nat} {h gg : fwH} {Q : Option fwV → fwH → Prop} (x : Int) (J : cOk gg) (R : jF gg h) (hx : -9223372036854775808 ≤ x ∧ x < 9223372036854775808) (k : Q (some (aI (fwB (0 ≤ x ∧ x ≤ gg 4 0 1 - 1)))) h) : fwCt mX12_isCell (d + 1) [aR 12 0, aJ x] h Q := by
  refine fwCt_of [some (aR 12 0), some (aJ x), none] rfl rfl rfl ?_
  obtain ⟨hl, hP, hG, -, -, -, hlw, -, ha, hs, -, hsc⟩ := id J
  obtain ⟨⟨g1, g2⟩, ⟨g3, g4⟩, ⟨g5, g6⟩, g7, -⟩ := id hG
  have hpz := hP.1
  refine w_lload_n dX12_isCell_0 rfl ?_
  refine w_lconst (z := 0) dX12_isCell_1 rfl ?_
  refine w_aload_n dX12_isCell_2 rfl ?_
  refine w_getr 36 0 dX12_isCell_3 fl_X12_9 rfl (by decide) ?_
  refine w_iconst dX12_isCell_6 ?_
  refine w_ialdE (v := gg 4 0 1) dX12_isCell_7 rfl (by decide) (by omega) (by omega) R.1 ?_
  refine w_iconst dX12_isCell_8 ?_
  refine w_isub dX12_isCell_9 ?_
  refine w_i2l dX12_isCell_10 (by omega) ?_
  refine w_callS (d := d + 0) (S := []) [aJ x, aJ 0, aJ ((gg 4 0 1) - 1)] dX12_isCell_11 ml_X12_65 ok_X12_in st_X12_in rfl (Nat.le_of_ble_eq_true rfl) ?_
  refine c_X12_in (d := d) x 0 ((gg 4 0 1) - 1) (by omega) (by omega) (by omega) ?_
  show fwWP mX12_isCell (d + 1) 14 [some (aR 12 0), some (aJ x), none] [aI (fwB (0 ≤ x ∧ x ≤ ((gg 4 0 1) - 1)))] h Q
  exact w_zretE dX12_isCell_14 rfl (by first | (exfalso; omega) | (rw [fwB_t (by omega)]) | (rw [fwB_f (by omega)]) | rfl) k
set_option maxRecDepth 100000 in
set_option maxHeartbeats 4000000 in
theorem c_X12_isFolk {d : Nat} {h gg : fwH} {Q : Option fwV → fwH → Prop} (x : Int) (J : cOk gg) (R : jF gg h) (hx : -9223372036854775808 ≤ x ∧ x < 9223372036854775808) (k : Q (some (aI (fwB (0 ≤ x ∧ x ≤ gg 5 0 3 - 1)))) h) : fwCt mX12_isFolk (d + 1) [aR 12 0, aJ x] h Q := by
  refine fwCt_of [some (aR 12 0), some (aJ x), none] rfl rfl rfl ?_
  obtain ⟨hl, hP, hG, -, -, -, hlw, -, ha, hs, -, hsc⟩ := id J
  obtain ⟨⟨g1, g2⟩, ⟨g3, g4⟩, ⟨g5, g6⟩, g7, -⟩ := id hG
  have hpz := hP.1
  refine w_lload_n dX12_isFolk_0 rfl ?_
  refine w_lconst (z := 0) dX12_isFolk_1 rfl ?_
  refine w_aload_n dX12_isFolk_2 rfl ?_
  refine w_getr 36 0 dX12_isFolk_3 fl_X12_9 rfl (by decide) ?_
  refine w_bipush dX12_isFolk_6 rfl ?_
  refine w_ialdE (v := gg 5 0 3) dX12_isFolk_8 rfl (by decide) (by omega) (by omega) R.2.2.2.2.2.2.1 ?_
  refine w_iconst dX12_isFolk_9 ?_
  refine w_isub dX12_isFolk_10 ?_
  refine w_i2l dX12_isFolk_11 (by omega) ?_
  refine w_callS (d := d + 0) (S := []) [aJ x, aJ 0, aJ ((gg 5 0 3) - 1)] dX12_isFolk_12 ml_X12_65 ok_X12_in st_X12_in rfl (Nat.le_of_ble_eq_true rfl) ?_
  refine c_X12_in (d := d) x 0 ((gg 5 0 3) - 1) (by omega) (by omega) (by omega) ?_
  show fwWP mX12_isFolk (d + 1) 15 [some (aR 12 0), some (aJ x), none] [aI (fwB (0 ≤ x ∧ x ≤ ((gg 5 0 3) - 1)))] h Q
  exact w_zretE dX12_isFolk_15 rfl (by first | (exfalso; omega) | (rw [fwB_t (by omega)]) | (rw [fwB_f (by omega)]) | rfl) k
set_option maxRecDepth 100000 in
set_option maxHeartbeats 4000000 in
theorem c_X12_isHour {d : Nat} {h : fwH} {Q : Option fwV → fwH → Prop} (x : Int) (hx : -9223372036854775808 ≤ x ∧ x < 9223372036854775808) (k : Q (some (aI (fwB (x ≠ 0 ∧ -9 ≤ x ∧ x ≤ 9)))) h) : fwCt mX12_isHour (d + 1) [aJ x] h Q := by
  refine fwCt_of [some (aJ x), none] rfl rfl rfl ?_
  refine w_lload_n dX12_isHour_0 rfl ?_
  refine w_ldc2 (n := -9) dX12_isHour_1 cs_X12_69 ?_
  refine w_ldc2 (n := 9) dX12_isHour_4 cs_X12_71 ?_
  refine w_callS (d := d + 0) (S := []) [aJ x, aJ (-9), aJ 9] dX12_isHour_7 ml_X12_65 ok_X12_in st_X12_in rfl (Nat.le_of_ble_eq_true rfl) ?_
  refine c_X12_in (d := d) x (-9) 9 (by omega) (by omega) (by omega) ?_
  show fwWP mX12_isHour (d + 1) 10 [some (aJ x), none] [aI (fwB ((-9) ≤ x ∧ x ≤ 9))] h Q
  refine w_ifB_eq 23 dX12_isHour_10 (by decide) (fun c10 => ?_) (fun c10 => ?_)
  · refine w_iconst dX12_isHour_23 ?_
    exact w_zretE dX12_isHour_24 rfl (by first | (exfalso; omega) | (rw [fwB_t (by omega)]) | (rw [fwB_f (by omega)])) k
  · refine w_lload_n dX12_isHour_13 rfl ?_
    refine w_lconst (z := 0) dX12_isHour_14 rfl ?_
    refine w_lc_eq 23 dX12_isHour_15 dX12_isHour_16 (by decide) (by omega) (by omega) (fun c16 => ?_) (fun c16 => ?_)
    · refine w_iconst dX12_isHour_23 ?_
      exact w_zretE dX12_isHour_24 rfl (by first | (exfalso; omega) | (rw [fwB_t (by omega)]) | (rw [fwB_f (by omega)])) k
    · refine w_iconst dX12_isHour_19 ?_
      refine w_goto 24 dX12_isHour_20 (by decide) ?_
      exact w_zretE dX12_isHour_24 rfl (by first | (exfalso; omega) | (rw [fwB_t (by omega)]) | (rw [fwB_f (by omega)])) k
set_option maxRecDepth 100000 in
set_option maxHeartbeats 4000000 in
theorem c_X12_all {d : Nat} {h gg : fwH} {Q : Option fwV → fwH → Prop}  (J : cOk gg) (R : jF gg h) (k : Q (some (aI (fwShl 1 (gg 5 0 3) - 1))) h) : fwCt mX12_all (d + 0) [aR 12 0] h Q := by
  refine fwCt_of [some (aR 12 0)] rfl rfl rfl ?_
  obtain ⟨hl, hP, hG, -, -, -, hlw, -, ha, hs, -, hsc⟩ := id J
  obtain ⟨⟨g1, g2⟩, ⟨g3, g4⟩, ⟨g5, g6⟩, g7, -⟩ := id hG
  have hpz := hP.1
  refine w_iconst dX12_all_0 ?_
  refine w_aload_n dX12_all_1 rfl ?_
  refine w_getr 36 0 dX12_all_2 fl_X12_9 rfl (by decide) ?_
  refine w_bipush dX12_all_5 rfl ?_
  refine w_ialdE (v := gg 5 0 3) dX12_all_7 rfl (by decide) (by omega) (by omega) R.2.2.2.2.2.2.1 ?_
  refine w_ishl dX12_all_8 ?_
  refine w_iconst dX12_all_9 ?_
  refine w_isub dX12_all_10 ?_
  exact w_iretE dX12_all_11 rfl (by rfl) k
set_option maxRecDepth 100000 in
set_option maxHeartbeats 4000000 in
theorem c_X12_isSet {d : Nat} {h gg : fwH} {Q : Option fwV → fwH → Prop} (x : Int) (J : cOk gg) (R : jF gg h) (hx : -2147483648 ≤ x ∧ x < 2147483648) (k : Q (some (aI (fwB (0 < gg 3 0 6 ∧ 0 ≤ x ∧ x ≤ fwShl 1 (gg 5 0 3) - 1)))) h) : fwCt mX12_isSet (d + 1) [aR 12 0, aI x] h Q := by
  refine fwCt_of [some (aR 12 0), some (aI x)] rfl rfl rfl ?_
  obtain ⟨hl, hP, hG, -, -, -, hlw, -, ha, hs, -, hsc⟩ := id J
  obtain ⟨⟨g1, g2⟩, ⟨g3, g4⟩, ⟨g5, g6⟩, g7, -⟩ := id hG
  have hpz := hP.1
  refine w_aload_n dX12_isSet_0 rfl ?_
  refine w_callV (d := d + 0) (S := []) [] dX12_isSet_1 ml_X12_73 ok_X12_isMount vi_X12_isMount rfl rfl (by decide) rfl (Nat.le_of_ble_eq_true rfl) ?_
  refine c_X12_isMount (d := d) J R ?_
  show fwWP mX12_isSet (d + 1) 4 [some (aR 12 0), some (aI x)] [aI (fwB (0 < gg 3 0 6))] h Q
  refine w_ifB_eq 25 dX12_isSet_4 (by decide) (fun c4 => ?_) (fun c4 => ?_)
  · refine w_iconst dX12_isSet_25 ?_
    exact w_zretE dX12_isSet_26 rfl (by first | (exfalso; omega) | (rw [fwB_t (by omega)]) | (rw [fwB_f (by omega)]) | rfl) k
  · refine w_iload_n dX12_isSet_7 rfl ?_
    refine w_i2l dX12_isSet_8 (by omega) ?_
    refine w_lconst (z := 0) dX12_isSet_9 rfl ?_
    refine w_aload_n dX12_isSet_10 rfl ?_
    refine w_callV (d := d + 0) (S := [aJ 0, aJ x]) [] dX12_isSet_11 ml_X12_77 ok_X12_all vi_X12_all rfl rfl (by decide) rfl (Nat.le_of_ble_eq_true rfl) ?_
    refine c_X12_all (d := d) J R ?_
    show fwWP mX12_isSet (d + 1) 14 [some (aR 12 0), some (aI x)] [aI (fwShl 1 (gg 5 0 3) - 1), aJ 0, aJ x] h Q
    have hsh2 := fwShl1_rng (x := gg 5 0 3) (by omega)
    refine w_i2l dX12_isSet_14 (by omega) ?_
    refine w_callS (d := d + 0) (S := []) [aJ x, aJ 0, aJ (fwShl 1 (gg 5 0 3) - 1)] dX12_isSet_15 ml_X12_65 ok_X12_in st_X12_in rfl (Nat.le_of_ble_eq_true rfl) ?_
    refine c_X12_in (d := d) x 0 (fwShl 1 (gg 5 0 3) - 1) (by omega) (by omega) (by omega) ?_
    show fwWP mX12_isSet (d + 1) 18 [some (aR 12 0), some (aI x)] [aI (fwB (0 ≤ x ∧ x ≤ (fwShl 1 (gg 5 0 3) - 1)))] h Q
    refine w_ifB_eq 25 dX12_isSet_18 (by decide) (fun c18 => ?_) (fun c18 => ?_)
    · refine w_iconst dX12_isSet_25 ?_
      exact w_zretE dX12_isSet_26 rfl (by first | (exfalso; omega) | (rw [fwB_t (by omega)]) | (rw [fwB_f (by omega)]) | rfl) k
    · refine w_iconst dX12_isSet_21 ?_
      refine w_goto 26 dX12_isSet_22 (by decide) ?_
      exact w_zretE dX12_isSet_26 rfl (by first | (exfalso; omega) | (rw [fwB_t (by omega)]) | (rw [fwB_f (by omega)]) | rfl) k
set_option maxRecDepth 100000 in
set_option maxHeartbeats 4000000 in
theorem c_X12_of {d : Nat} {h gg : fwH} {Q : Option fwV → fwH → Prop} (f w : Nat) (J : cOk gg) (R : jF gg h) (hf : f < 8) (hw : w < 7) (k : Q (some (aI (gg 18 0 (7 * f + w)))) h) : fwCt mX12_of (d + 0) [aR 12 0, aI (f : Int), aI (w : Int)] h Q := by
  refine fwCt_of [some (aR 12 0), some (aI (f : Int)), some (aI (w : Int))] rfl rfl rfl ?_
  refine w_aload_n dX12_of_0 rfl ?_
  refine w_getr 36 0 dX12_of_1 fl_X12_9 rfl (by decide) ?_
  refine w_bipush dX12_of_4 rfl ?_
  refine w_bipush dX12_of_6 rfl ?_
  refine w_iload_n dX12_of_8 rfl ?_
  refine w_imul dX12_of_9 ?_
  refine w_iadd dX12_of_10 ?_
  refine w_iload_n dX12_of_11 rfl ?_
  refine w_iadd dX12_of_12 ?_
  refine w_ialdE (v := gg 18 0 (7 * f + w)) dX12_of_13 rfl (by decide) (by omega) (by omega) (by rw [show (((19 + (7 * (f : Int))) + (w : Int)).toNat) = 19 + (7 * f + w) by omega]; exact R.2.2.2.2.2.2.2.2.2.1 _ (by omega)) ?_
  exact w_iretE dX12_of_14 rfl (by rfl) k
theorem c_ofE {d : Nat} {h gg : fwH} {Q : Option fwV → fwH → Prop} (f w : Nat) (x : Int) (J : cOk gg) (R : jF gg h) (ex : x = (f : Int)) (hf : f < 8) (hw : w < 7) (k : Q (some (aI (gg 18 0 (7 * f + w)))) h) : fwCt mX12_of d [aR 12 0, aI x, aI (w : Int)] h Q := by
  subst ex
  exact c_X12_of f w J R hf hw k
end
section
theorem mTop_r2 (H : Nat → Int) (ls : Int) (n : Nat) (hn : 1 ≤ n) : 0 ≤ mTop H ls n ∧ mTop H ls n < (n : Int) := ⟨(mTop_rng H ls n).2.2 hn, (mTop_rng H ls n).2.1⟩
theorem mTop_1 (H : Nat → Int) (ls : Int) : mTop H ls 1 = 0 := by
  rw [mTop, mTop]
  simp
theorem mMax_top {H : Nat → Int} {ls : Int} : ∀ n : Nat, 1 ≤ n → (∀ c, c < n → 0 ≤ H c) → mMax H n = H (mTop H ls n).toNat := by
  intro n
  induction n with
  | zero => intro h; omega
  | succ n ih =>
    intro _ hp
    rcases Nat.eq_zero_or_pos n with e | e
    · subst e
      rw [mTop_1, mMax, mMax]
      have := hp 0 (by omega)
      show (if 0 < H 0 then H 0 else 0) = H 0
      split <;> omega
    · have h1 := ih e (fun c hc => hp c (by omega))
      have h2 := mTop_rng H ls n
      rw [mMax, mTop, h1]
      by_cases q : H (mTop H ls n).toNat < H n
      · rw [if_pos q, if_pos (Or.inr (Or.inl q))]
        rfl
      · rw [if_neg q]
        by_cases q2 : mTop H ls n = -1 ∨ H (mTop H ls n).toNat < H n ∨ H (mTop H ls n).toNat = H n ∧ ls ≠ 0
        · rw [if_pos q2]
          show _ = H n
          rcases q2 with q2 | q2 | q2
          · omega
          · omega
          · exact q2.1
        · rw [if_neg q2]
set_option maxRecDepth 100000 in
set_option maxHeartbeats 4000000 in
theorem c_X12_topCell {d : Nat} {h gg : fwH} {Q : Option fwV → fwH → Prop} (H : Nat → Int) (J : cOk gg) (R : jF gg h) (hH : hiR (gg 4 0 1) (h 42 0) H) (hb : hB H) (hn : 1 ≤ gg 4 0 1) (k : Q (some (aI (mTop H (gg 4 0 4) (gg 4 0 1).toNat))) h) : fwCt mX12_topCell (d + 0) [aR 12 0] h Q := by
  refine fwCt_of [some (aR 12 0), none, none] rfl rfl rfl ?_
  obtain ⟨hl, hP, hG, -, -, -, hlw, -, ha, hs, -, hsc⟩ := id J
  obtain ⟨⟨g1, g2⟩, ⟨g3, g4⟩, ⟨g5, g6⟩, g7, -⟩ := id hG
  have hpz := hP.1
  refine w_iconst dX12_topCell_0 ?_
  refine w_istore_n [some (aR 12 0), some (aI 0), none] dX12_topCell_1 rfl (by decide) ?_
  refine w_iconst dX12_topCell_2 ?_
  refine w_istore_n [some (aR 12 0), some (aI 0), some (aI 1)] dX12_topCell_3 rfl (by decide) ?_
  have lp4 : ∀ c : Nat, c ≤ (gg 4 0 1).toNat - 1 → ∀ (y4 be : Int), y4 = (c : Int) + 1 → be = mTop H (gg 4 0 4) (c + 1) → fwWP mX12_topCell (d + 0) 4 [some (aR 12 0), some (aI be), some (aI y4)] [] h Q := by
    refine fw_up (fun c hc4 ih4 => ?_)
    intro y4 be ey4 e_be
    subst ey4
    subst e_be
    show fwWP mX12_topCell (d + 0) 4 [some (aR 12 0), some (aI (mTop H (gg 4 0 4) (c + 1))), some (aI ((c : Int) + 1))] [] h Q
    refine w_iload_n dX12_topCell_4 rfl ?_
    refine w_aload_n dX12_topCell_5 rfl ?_
    refine w_getr 36 0 dX12_topCell_6 fl_X12_9 rfl (by decide) ?_
    refine w_iconst dX12_topCell_9 ?_
    refine w_ialdE (v := gg 4 0 1) dX12_topCell_10 rfl (by decide) (by omega) (by omega) R.1 ?_
    refine w_icmp_ge 62 dX12_topCell_11 (by decide) (by omega) (by omega) (fun c11 => ?_) (fun c11 => ?_)
    · refine w_iload_n dX12_topCell_62 rfl ?_
      exact w_iretE dX12_topCell_63 rfl (by rw [show (gg 4 0 1).toNat = c + 1 by omega]) k
    · have htp : 0 ≤ mTop H (gg 4 0 4) (c + 1) ∧ mTop H (gg 4 0 4) (c + 1) < ((c + 1 : Nat) : Int) := ⟨(mTop_rng H (gg 4 0 4) (c + 1)).2.2 (by omega), (mTop_rng H (gg 4 0 4) (c + 1)).2.1⟩
      have hb1 := hb (c + 1) (by omega)
      have hb2 := hb (mTop H (gg 4 0 4) (c + 1)).toNat (by omega)
      refine w_aload_n dX12_topCell_14 rfl ?_
      refine w_getr 42 0 dX12_topCell_15 fl_X12_34 rfl (by decide) ?_
      refine w_iload_n dX12_topCell_18 rfl ?_
      refine w_ialdE (v := H (c + 1)) dX12_topCell_19 rfl (by decide) (by omega) (by omega) (hH _ (by omega)) ?_
      refine w_aload_n dX12_topCell_20 rfl ?_
      refine w_getr 42 0 dX12_topCell_21 fl_X12_34 rfl (by decide) ?_
      refine w_iload_n dX12_topCell_24 rfl ?_
      refine w_ialdE (v := H (mTop H (gg 4 0 4) (c + 1)).toNat) dX12_topCell_25 rfl (by decide) (by omega) (by omega) (hH _ (by omega)) ?_
      refine w_icmp_gt 54 dX12_topCell_26 (by decide) (by omega) (by omega) (fun c26 => ?_) (fun c26 => ?_)
      · refine w_iload_n dX12_topCell_54 rfl ?_
        refine w_istore_n [some (aR 12 0), some (aI ((c : Int) + 1)), some (aI ((c : Int) + 1))] dX12_topCell_55 rfl (by decide) ?_
        refine w_iinc [some (aR 12 0), some (aI ((c : Int) + 1)), some (aI (((c : Int) + 1) + 1))] dX12_topCell_56 rfl rfl (by decide) ?_
        refine w_goto 4 dX12_topCell_59 (by decide) ?_
        refine ih4 (by omega) _ _ ?_ ?_
        · exact (by omega)
        · exact (by rw [mTop.eq_2 H (gg 4 0 4) (c + 1)]; first | (rw [if_pos (by omega)]; omega) | (rw [if_neg (by omega)]; done))
      · refine w_aload_n dX12_topCell_29 rfl ?_
        refine w_getr 42 0 dX12_topCell_30 fl_X12_34 rfl (by decide) ?_
        refine w_iload_n dX12_topCell_33 rfl ?_
        refine w_ialdE (v := H (c + 1)) dX12_topCell_34 rfl (by decide) (by omega) (by omega) (hH _ (by omega)) ?_
        refine w_aload_n dX12_topCell_35 rfl ?_
        refine w_getr 42 0 dX12_topCell_36 fl_X12_34 rfl (by decide) ?_
        refine w_iload_n dX12_topCell_39 rfl ?_
        refine w_ialdE (v := H (mTop H (gg 4 0 4) (c + 1)).toNat) dX12_topCell_40 rfl (by decide) (by omega) (by omega) (hH _ (by omega)) ?_
        refine w_icmp_ne 56 dX12_topCell_41 (by decide) (by omega) (by omega) (fun c41 => ?_) (fun c41 => ?_)
        · refine w_iinc [some (aR 12 0), some (aI (mTop H (gg 4 0 4) (c + 1))), some (aI (((c : Int) + 1) + 1))] dX12_topCell_56 rfl rfl (by decide) ?_
          refine w_goto 4 dX12_topCell_59 (by decide) ?_
          refine ih4 (by omega) _ _ ?_ ?_
          · exact (by omega)
          · exact (by rw [mTop.eq_2 H (gg 4 0 4) (c + 1)]; first | (rw [if_pos (by omega)]; omega) | (rw [if_neg (by omega)]; done))
        · refine w_aload_n dX12_topCell_44 rfl ?_
          refine w_getr 36 0 dX12_topCell_45 fl_X12_9 rfl (by decide) ?_
          refine w_iconst dX12_topCell_48 ?_
          refine w_ialdE (v := gg 4 0 4) dX12_topCell_49 rfl (by decide) (by omega) (by omega) R.2.2.2.2.1 ?_
          refine w_iconst dX12_topCell_50 ?_
          refine w_icmp_ne 56 dX12_topCell_51 (by decide) (by omega) (by omega) (fun c51 => ?_) (fun c51 => ?_)
          · refine w_iinc [some (aR 12 0), some (aI (mTop H (gg 4 0 4) (c + 1))), some (aI (((c : Int) + 1) + 1))] dX12_topCell_56 rfl rfl (by decide) ?_
            refine w_goto 4 dX12_topCell_59 (by decide) ?_
            refine ih4 (by omega) _ _ ?_ ?_
            · exact (by omega)
            · exact (by rw [mTop.eq_2 H (gg 4 0 4) (c + 1)]; first | (rw [if_pos (by omega)]; omega) | (rw [if_neg (by omega)]; done))
          · refine w_iload_n dX12_topCell_54 rfl ?_
            refine w_istore_n [some (aR 12 0), some (aI ((c : Int) + 1)), some (aI ((c : Int) + 1))] dX12_topCell_55 rfl (by decide) ?_
            refine w_iinc [some (aR 12 0), some (aI ((c : Int) + 1)), some (aI (((c : Int) + 1) + 1))] dX12_topCell_56 rfl rfl (by decide) ?_
            refine w_goto 4 dX12_topCell_59 (by decide) ?_
            refine ih4 (by omega) _ _ ?_ ?_
            · exact (by omega)
            · exact (by rw [mTop.eq_2 H (gg 4 0 4) (c + 1)]; first | (rw [if_pos (by omega)]; omega) | (rw [if_neg (by omega)]; done))
  refine lp4 0 (Nat.zero_le _) _ _ ?_ ?_
  · exact (by omega)
  · exact (mTop_1 H (gg 4 0 4)).symm
set_option maxRecDepth 100000 in
set_option maxHeartbeats 4000000 in
theorem c_X12_take0 {d : Nat} {h gg : fwH} {Q : Option fwV → fwH → Prop} (H : Nat → Int) (J : cOk gg) (R : jF gg h) (hH : hiR (gg 4 0 1) (h 42 0) H) (hb : hB H) (hn : 1 ≤ gg 4 0 1) (k : ∀ A, hiR (gg 4 0 1) A (mLow (gg 4 0 1).toNat H (gg 4 0 4)) → Q (some (aI (fwB (0 < (gg 4 0 1).toNat ∧ H (mTop H (gg 4 0 4) (gg 4 0 1).toNat).toNat ≠ 0)))) (fwUc h 42 0 A)) : fwCt mX12_take0 (d + 1) [aR 12 0] h Q := by
  refine fwCt_of [some (aR 12 0), none] rfl rfl rfl ?_
  obtain ⟨hl, hP, hG, -, -, -, hlw, -, ha, hs, -, hsc⟩ := id J
  obtain ⟨⟨g1, g2⟩, ⟨g3, g4⟩, ⟨g5, g6⟩, g7, -⟩ := id hG
  have hpz := hP.1
  refine w_aload_n dX12_take0_0 rfl ?_
  refine w_callV (d := d + 0) (S := []) [] dX12_take0_1 ml_X12_200 ok_X12_topCell vi_X12_topCell rfl rfl (by decide) rfl (Nat.le_of_ble_eq_true rfl) ?_
  refine c_X12_topCell (d := d) H J R hH hb (show 1 ≤ gg 4 0 1 by omega) ?_
  show fwWP mX12_take0 (d + 1) 4 [some (aR 12 0), none] [aI (mTop H (gg 4 0 4) (gg 4 0 1).toNat)] h Q
  have htp1 := mTop_r2 H (gg 4 0 4) (gg 4 0 1).toNat (by omega)
  refine w_istore_n [some (aR 12 0), some (aI (mTop H (gg 4 0 4) (gg 4 0 1).toNat))] dX12_take0_4 rfl (by decide) ?_
  have hbt := hb (mTop H (gg 4 0 4) (gg 4 0 1).toNat).toNat (by omega)
  refine w_aload_n dX12_take0_5 rfl ?_
  refine w_getr 42 0 dX12_take0_6 fl_X12_34 rfl (by decide) ?_
  refine w_iload_n dX12_take0_9 rfl ?_
  refine w_ialdE (v := H (mTop H (gg 4 0 4) (gg 4 0 1).toNat).toNat) dX12_take0_10 rfl (by decide) (by omega) (by omega) (hH _ (by omega)) ?_
  refine w_if_ne 16 dX12_take0_11 (by decide) (by omega) (fun c11 => ?_) (fun c11 => ?_)
  · refine w_aload_n dX12_take0_16 rfl ?_
    refine w_getr 42 0 dX12_take0_17 fl_X12_34 rfl (by decide) ?_
    refine w_iload_n dX12_take0_20 rfl ?_
    refine w_dup2 dX12_take0_21 rfl rfl ?_
    refine w_ialdE (v := H (mTop H (gg 4 0 4) (gg 4 0 1).toNat).toNat) dX12_take0_22 rfl (by decide) (by omega) (by omega) (hH _ (by omega)) ?_
    refine w_iconst dX12_take0_23 ?_
    refine w_isub dX12_take0_24 ?_
    refine w_iast dX12_take0_25 rfl (by decide) (by omega) (by omega) ?_
    refine w_iconst dX12_take0_26 ?_
    have k2 := k (fwFu (h 42 0) (mTop H (gg 4 0 4) (gg 4 0 1).toNat).toNat (H (mTop H (gg 4 0 4) (gg 4 0 1).toNat).toNat - 1)) (by unfold mLow; rw [if_pos ⟨by omega, by omega⟩]; exact hiR_fu hH _ _)
    rw [fwB_t ⟨by omega, by omega⟩, ← fwUp_fu] at k2
    exact w_zret dX12_take0_27 rfl (Or.inr rfl) k2
  · refine w_iconst dX12_take0_14 ?_
    have k2 := k (h 42 0) (by unfold mLow; rw [if_neg (fun q => q.2 (by omega))]; exact hH)
    rw [fwB_f (fun q => q.2 (by omega)), fwUc_self] at k2
    exact w_zret dX12_take0_15 rfl (Or.inl rfl) k2
set_option maxRecDepth 100000 in
set_option maxHeartbeats 4000000 in
theorem c_X12_falls {d : Nat} {h gg : fwH} {Q : Option fwV → fwH → Prop} (x y : Int) (H : Nat → Int) (J : cOk gg) (R : jF gg h) (hH : hiR (gg 4 0 1) (h 42 0) H) (hb : hB H) (hx : 0 ≤ x ∧ x < gg 4 0 1) (hy : -2147483648 ≤ y ∧ y < 2147483648) (k : Q (some (aI (fwB ((0 ≤ y ∧ y ≤ gg 4 0 1 - 1) ∧ gg 4 0 3 < H x.toNat + 1 - H y.toNat)))) h) : fwCt mX12_falls (d + 2) [aR 12 0, aI x, aI y] h Q := by
  refine fwCt_of [some (aR 12 0), some (aI x), some (aI y)] rfl rfl rfl ?_
  obtain ⟨hl, hP, hG, -, -, -, hlw, -, ha, hs, -, hsc⟩ := id J
  obtain ⟨⟨g1, g2⟩, ⟨g3, g4⟩, ⟨g5, g6⟩, g7, -⟩ := id hG
  have hpz := hP.1
  refine w_aload_n dX12_falls_0 rfl ?_
  refine w_iload_n dX12_falls_1 rfl ?_
  refine w_i2l dX12_falls_2 (by omega) ?_
  refine w_callV (d := d + 1) (S := []) [aJ y] dX12_falls_3 ml_X12_203 ok_X12_isCell vi_X12_isCell rfl rfl (by decide) rfl (Nat.le_of_ble_eq_true rfl) ?_
  refine c_X12_isCell (d := d) y J R (by omega) ?_
  show fwWP mX12_falls (d + 2) 6 [some (aR 12 0), some (aI x), some (aI y)] [aI (fwB (0 ≤ y ∧ y ≤ gg 4 0 1 - 1))] h Q
  refine w_ifB_eq 37 dX12_falls_6 (by decide) (fun c6 => ?_) (fun c6 => ?_)
  · refine w_iconst dX12_falls_37 ?_
    exact w_zretE dX12_falls_38 rfl (by first | (exfalso; omega) | (rw [fwB_t (by omega)]) | (rw [fwB_f (by omega)]) | rfl) k
  · have hbx := hb x.toNat (by omega)
    have hby := hb y.toNat (by omega)
    refine w_aload_n dX12_falls_9 rfl ?_
    refine w_getr 42 0 dX12_falls_10 fl_X12_34 rfl (by decide) ?_
    refine w_iload_n dX12_falls_13 rfl ?_
    refine w_ialdE (v := H (x).toNat) dX12_falls_14 rfl (by decide) (by omega) (by omega) (hH _ (by omega)) ?_
    refine w_iconst dX12_falls_15 ?_
    refine w_iadd dX12_falls_16 ?_
    refine w_aload_n dX12_falls_17 rfl ?_
    refine w_getr 42 0 dX12_falls_18 fl_X12_34 rfl (by decide) ?_
    refine w_iload_n dX12_falls_21 rfl ?_
    refine w_ialdE (v := H (y).toNat) dX12_falls_22 rfl (by decide) (by omega) (by omega) (hH _ (by omega)) ?_
    refine w_isub dX12_falls_23 ?_
    refine w_aload_n dX12_falls_24 rfl ?_
    refine w_getr 36 0 dX12_falls_25 fl_X12_9 rfl (by decide) ?_
    refine w_iconst dX12_falls_28 ?_
    refine w_ialdE (v := gg 4 0 3) dX12_falls_29 rfl (by decide) (by omega) (by omega) R.2.2.1 ?_
    refine w_icmp_le 37 dX12_falls_30 (by decide) (by omega) (by omega) (fun c30 => ?_) (fun c30 => ?_)
    · refine w_iconst dX12_falls_37 ?_
      exact w_zretE dX12_falls_38 rfl (by first | (exfalso; omega) | (rw [fwB_t (by omega)]) | (rw [fwB_f (by omega)]) | rfl) k
    · refine w_iconst dX12_falls_33 ?_
      refine w_goto 38 dX12_falls_34 (by decide) ?_
      exact w_zretE dX12_falls_38 rfl (by first | (exfalso; omega) | (rw [fwB_t (by omega)]) | (rw [fwB_f (by omega)]) | rfl) k
/-- a slide's way: where it is after c steps -/
def slI (n : Int) (H : Nat → Int) (rs x : Int) (c : Nat) (v : Int) : Prop := (0 ≤ v ∧ v < n) ∧ mDesc n H (rs - 1) (10 - c) v = mDesc n H (rs - 1) 10 x ∧ ((v = x - (c : Int) ∧ (c = 0 ∨ H v.toNat < H (v + 1).toNat)) ∨ (v = x + (c : Int) ∧ (c = 0 ∨ H v.toNat < H (v - 1).toNat)))
theorem hOf_p {n : Int} {H : Nat → Int} {x : Int} (h : 0 ≤ x ∧ x < n) : hOf n H x = H x.toNat := if_pos h
theorem mDown_l {n : Int} {H : Nat → Int} {v rs : Int} (hv : 0 ≤ v ∧ v < n) (h1 : (0 ≤ v - 1 ∧ v - 1 ≤ n - 1) ∧ rs < H v.toNat + 1 - H (v - 1).toNat) (h2 : ¬ ((0 ≤ v + 1 ∧ v + 1 ≤ n - 1) ∧ rs < H v.toNat + 1 - H (v + 1).toNat) ∨ ((0 ≤ v + 1 ∧ v + 1 ≤ n - 1) ∧ H (v - 1).toNat ≤ H (v + 1).toNat)) : mDown n H v (rs - 1) = v - 1 := by
  unfold mDown
  rw [hOf_p hv, hOf_p (x := v - 1) (by omega)]
  rw [if_pos]
  refine ⟨by omega, ?_⟩
  rcases h2 with h2 | h2
  · left
    intro q
    rw [hOf_p (x := v + 1) (by omega)] at q
    exact h2 (by omega)
  · right
    rw [hOf_p (x := v + 1) (by omega)]
    exact h2.2
theorem mDown_r {n : Int} {H : Nat → Int} {v rs : Int} (hv : 0 ≤ v ∧ v < n) (h1 : (0 ≤ v + 1 ∧ v + 1 ≤ n - 1) ∧ rs < H v.toNat + 1 - H (v + 1).toNat) (h2 : ¬ ((0 ≤ v - 1 ∧ v - 1 ≤ n - 1) ∧ rs < H v.toNat + 1 - H (v - 1).toNat) ∨ ((0 ≤ v - 1 ∧ v - 1 ≤ n - 1) ∧ H (v + 1).toNat < H (v - 1).toNat)) : mDown n H v (rs - 1) = v + 1 := by
  unfold mDown
  rw [hOf_p hv, hOf_p (x := v + 1) (by omega)]
  rw [if_neg, if_pos (by omega)]
  intro q
  have q1 := q.1
  rw [hOf_p (x := v - 1) (by omega)] at q1
  rcases h2 with h2 | h2
  · exact h2 (by omega)
  · have q2 := q.2
    rw [hOf_p (x := v - 1) (by omega)] at q2
    omega
theorem mDown_n {n : Int} {H : Nat → Int} {v rs : Int} (hv : 0 ≤ v ∧ v < n) (h1 : ¬ ((0 ≤ v - 1 ∧ v - 1 ≤ n - 1) ∧ rs < H v.toNat + 1 - H (v - 1).toNat)) (h2 : ¬ ((0 ≤ v + 1 ∧ v + 1 ≤ n - 1) ∧ rs < H v.toNat + 1 - H (v + 1).toNat)) : mDown n H v (rs - 1) = -1 := by
  unfold mDown
  rw [hOf_p hv]
  rw [if_neg, if_neg]
  · intro q
    rw [hOf_p (x := v + 1) (by omega)] at q
    exact h2 (by omega)
  · intro q
    have q1 := q.1
    rw [hOf_p (x := v - 1) (by omega)] at q1
    exact h1 (by omega)
theorem slI_step {n : Int} {H : Nat → Int} {rs x v v2 : Int} {c : Nat} (hc : c ≤ 9) (hi : slI n H rs x c v) (hd : mDown n H v (rs - 1) = v2) (h0 : 0 ≤ v2) : mDesc n H (rs - 1) (10 - (c + 1)) v2 = mDesc n H (rs - 1) 10 x := by
  rw [← hi.2.1, show 10 - c = (10 - (c + 1)) + 1 by omega, mDesc.eq_2, hd, if_neg (by omega)]
theorem slI_l {n : Int} {H : Nat → Int} {rs x v : Int} {c : Nat} (hn : n ≤ 10) (hx : 0 ≤ x ∧ x < n) (hrs : 1 ≤ rs) (hc : c ≤ 9) (hi : slI n H rs x c v) (h1 : (0 ≤ v - 1 ∧ v - 1 ≤ n - 1) ∧ rs < H v.toNat + 1 - H (v - 1).toNat) (h2 : ¬ ((0 ≤ v + 1 ∧ v + 1 ≤ n - 1) ∧ rs < H v.toNat + 1 - H (v + 1).toNat) ∨ ((0 ≤ v + 1 ∧ v + 1 ≤ n - 1) ∧ H (v - 1).toNat ≤ H (v + 1).toNat)) : c < 9 ∧ slI n H rs x (c + 1) (v - 1) := by
  have hd := mDown_l hi.1 h1 h2
  have hs := slI_step hc hi hd (by omega)
  obtain ⟨a, b, e⟩ := hi
  have e2 : v = x - (c : Int) := by
    rcases e with e | e
    · exact e.1
    · rcases e.2 with z | z
      · omega
      · omega
  refine ⟨by omega, ⟨by omega, hs, Or.inl ⟨by omega, Or.inr ?_⟩⟩⟩
  rw [show v - 1 + 1 = v by omega]
  omega
theorem slI_r {n : Int} {H : Nat → Int} {rs x v : Int} {c : Nat} (hn : n ≤ 10) (hx : 0 ≤ x ∧ x < n) (hrs : 1 ≤ rs) (hc : c ≤ 9) (hi : slI n H rs x c v) (h1 : (0 ≤ v + 1 ∧ v + 1 ≤ n - 1) ∧ rs < H v.toNat + 1 - H (v + 1).toNat) (h2 : ¬ ((0 ≤ v - 1 ∧ v - 1 ≤ n - 1) ∧ rs < H v.toNat + 1 - H (v - 1).toNat) ∨ ((0 ≤ v - 1 ∧ v - 1 ≤ n - 1) ∧ H (v + 1).toNat < H (v - 1).toNat)) : c < 9 ∧ slI n H rs x (c + 1) (v + 1) := by
  have hd := mDown_r hi.1 h1 h2
  have hs := slI_step hc hi hd (by omega)
  obtain ⟨a, b, e⟩ := hi
  have e2 : v = x + (c : Int) := by
    rcases e with e | e
    · rcases e.2 with z | z
      · omega
      · omega
    · exact e.1
  refine ⟨by omega, ⟨by omega, hs, Or.inr ⟨by omega, Or.inr ?_⟩⟩⟩
  rw [show v + 1 - 1 = v by omega]
  omega
theorem slI_e {n : Int} {H : Nat → Int} {rs x v : Int} {c : Nat} (hc : c ≤ 9) (hi : slI n H rs x c v) (h1 : ¬ ((0 ≤ v - 1 ∧ v - 1 ≤ n - 1) ∧ rs < H v.toNat + 1 - H (v - 1).toNat)) (h2 : ¬ ((0 ≤ v + 1 ∧ v + 1 ≤ n - 1) ∧ rs < H v.toNat + 1 - H (v + 1).toNat)) : mDesc n H (rs - 1) 10 x = v := by
  have hd := mDown_n hi.1 h1 h2
  rw [← hi.2.1, show 10 - c = (9 - c) + 1 by omega, mDesc, if_pos hd]
set_option maxRecDepth 100000 in
set_option maxHeartbeats 4000000 in
theorem c_X12_slideOf {d : Nat} {h gg : fwH} {Q : Option fwV → fwH → Prop} (x : Int) (H : Nat → Int) (J : cOk gg) (R : jF gg h) (hH : hiR (gg 4 0 1) (h 42 0) H) (hb : hB H) (h99 : ∀ c : Nat, (c : Int) < gg 4 0 1 → H c ≤ 99) (hrs : 1 ≤ gg 4 0 3) (hx : 0 ≤ x ∧ x < gg 4 0 1) (k : Q (some (aI (mStay (gg 4 0 1) H (gg 4 0 3) x))) h) : fwCt mX12_slideOf (d + 3) [aR 12 0, aI x] h Q := by
  refine fwCt_of [some (aR 12 0), some (aI x), none, none] rfl rfl rfl ?_
  have g2 : gg 4 0 1 ≤ 10 := J.2.2.1.1.2
  refine w_iload_n dX12_slideOf_0 rfl ?_
  refine w_istore_n [some (aR 12 0), some (aI x), some (aI x), none] dX12_slideOf_1 rfl (by decide) ?_
  have lp2 : ∀ c : Nat, c ≤ 9 → ∀ v : Int, slI (gg 4 0 1) H (gg 4 0 3) x c v → fwWP mX12_slideOf (d + 3) 2 [some (aR 12 0), some (aI x), some (aI v), none] [] h Q := by
    refine fw_up (fun c hc2 ih2 => ?_)
    intro v iv2
    have iv0 := iv2.1
    show fwWP mX12_slideOf (d + 3) 2 [some (aR 12 0), some (aI x), some (aI v), none] [] h Q
    refine w_aload_n dX12_slideOf_2 rfl ?_
    refine w_iload_n dX12_slideOf_3 rfl ?_
    refine w_iload_n dX12_slideOf_4 rfl ?_
    refine w_iconst dX12_slideOf_5 ?_
    refine w_isub dX12_slideOf_6 ?_
    refine w_callV (d := d + 2) (S := []) [aI v, aI (v - 1)] dX12_slideOf_7 ml_X12_207 ok_X12_falls vi_X12_falls rfl rfl (by decide) rfl (Nat.le_of_ble_eq_true rfl) ?_
    refine c_X12_falls (d := d) v (v - 1) H J R hH hb (show 0 ≤ v ∧ v < gg 4 0 1 by omega) (by omega) ?_
    show fwWP mX12_slideOf (d + 3) 10 [some (aR 12 0), some (aI x), some (aI v), none] [aI (fwB ((0 ≤ (v - 1) ∧ (v - 1) ≤ gg 4 0 1 - 1) ∧ gg 4 0 3 < H v.toNat + 1 - H (v - 1).toNat))] h Q
    refine w_ifB_ne 24 dX12_slideOf_10 (by decide) (fun c10 => ?_) (fun c10 => ?_)
    · refine w_aload_n dX12_slideOf_24 rfl ?_
      refine w_iload_n dX12_slideOf_25 rfl ?_
      refine w_iload_n dX12_slideOf_26 rfl ?_
      refine w_iconst dX12_slideOf_27 ?_
      refine w_isub dX12_slideOf_28 ?_
      refine w_callV (d := d + 2) (S := []) [aI v, aI (v - 1)] dX12_slideOf_29 ml_X12_207 ok_X12_falls vi_X12_falls rfl rfl (by decide) rfl (Nat.le_of_ble_eq_true rfl) ?_
      refine c_X12_falls (d := d) v (v - 1) H J R hH hb (show 0 ≤ v ∧ v < gg 4 0 1 by omega) (by omega) ?_
      show fwWP mX12_slideOf (d + 3) 32 [some (aR 12 0), some (aI x), some (aI v), none] [aI (fwB ((0 ≤ (v - 1) ∧ (v - 1) ≤ gg 4 0 1 - 1) ∧ gg 4 0 3 < H v.toNat + 1 - H (v - 1).toNat))] h Q
      refine w_ifB_eq 69 dX12_slideOf_32 (by decide) (fun c32 => ?_) (fun c32 => ?_)
      · exact absurd c10 c32
      · refine w_aload_n dX12_slideOf_35 rfl ?_
        refine w_iload_n dX12_slideOf_36 rfl ?_
        refine w_iload_n dX12_slideOf_37 rfl ?_
        refine w_iconst dX12_slideOf_38 ?_
        refine w_iadd dX12_slideOf_39 ?_
        refine w_callV (d := d + 2) (S := []) [aI v, aI (v + 1)] dX12_slideOf_40 ml_X12_207 ok_X12_falls vi_X12_falls rfl rfl (by decide) rfl (Nat.le_of_ble_eq_true rfl) ?_
        refine c_X12_falls (d := d) v (v + 1) H J R hH hb (show 0 ≤ v ∧ v < gg 4 0 1 by omega) (by omega) ?_
        show fwWP mX12_slideOf (d + 3) 43 [some (aR 12 0), some (aI x), some (aI v), none] [aI (fwB ((0 ≤ (v + 1) ∧ (v + 1) ≤ gg 4 0 1 - 1) ∧ gg 4 0 3 < H v.toNat + 1 - H (v + 1).toNat))] h Q
        refine w_ifB_eq 65 dX12_slideOf_43 (by decide) (fun c43 => ?_) (fun c43 => ?_)
        · refine w_iconst dX12_slideOf_65 ?_
          refine w_goto 70 dX12_slideOf_66 (by decide) ?_
          refine w_istore_n [some (aR 12 0), some (aI x), some (aI v), some (aI 1)] dX12_slideOf_70 rfl (by decide) ?_
          refine w_iload_n dX12_slideOf_71 rfl ?_
          refine w_if_eq 81 dX12_slideOf_72 (by decide) (by omega) (fun c72 => ?_) (fun c72 => ?_)
          · (exfalso; omega)
          · refine w_iload_n dX12_slideOf_75 rfl ?_
            refine w_iconst dX12_slideOf_76 ?_
            refine w_isub dX12_slideOf_77 ?_
            refine w_goto 84 dX12_slideOf_78 (by decide) ?_
            refine w_istore_n [some (aR 12 0), some (aI x), some (aI (v - 1)), some (aI 1)] dX12_slideOf_84 rfl (by decide) ?_
            refine w_goto 2 dX12_slideOf_85 (by decide) ?_
            refine w_drop [3] [some (aR 12 0), some (aI x), some (aI (v - 1)), none] rfl ?_
            have hq := slI_l g2 hx hrs hc2 iv2 c32 (by first | exact Or.inl c43 | exact Or.inr ⟨c43.1, by omega⟩)
            exact ih2 hq.1 _ hq.2
        · have hbl := hb (v - 1).toNat (by omega)
          have hbr := hb (v + 1).toNat (by omega)
          refine w_aload_n dX12_slideOf_46 rfl ?_
          refine w_getr 42 0 dX12_slideOf_47 fl_X12_34 rfl (by decide) ?_
          refine w_iload_n dX12_slideOf_50 rfl ?_
          refine w_iconst dX12_slideOf_51 ?_
          refine w_isub dX12_slideOf_52 ?_
          refine w_ialdE (v := H (v - 1).toNat) dX12_slideOf_53 rfl (by decide) (by omega) (by omega) (hH _ (by omega)) ?_
          refine w_aload_n dX12_slideOf_54 rfl ?_
          refine w_getr 42 0 dX12_slideOf_55 fl_X12_34 rfl (by decide) ?_
          refine w_iload_n dX12_slideOf_58 rfl ?_
          refine w_iconst dX12_slideOf_59 ?_
          refine w_iadd dX12_slideOf_60 ?_
          refine w_ialdE (v := H (v + 1).toNat) dX12_slideOf_61 rfl (by decide) (by omega) (by omega) (hH _ (by omega)) ?_
          refine w_icmp_gt 69 dX12_slideOf_62 (by decide) (by omega) (by omega) (fun c62 => ?_) (fun c62 => ?_)
          · refine w_iconst dX12_slideOf_69 ?_
            refine w_istore_n [some (aR 12 0), some (aI x), some (aI v), some (aI 0)] dX12_slideOf_70 rfl (by decide) ?_
            refine w_iload_n dX12_slideOf_71 rfl ?_
            refine w_if_eq 81 dX12_slideOf_72 (by decide) (by omega) (fun c72 => ?_) (fun c72 => ?_)
            · refine w_iload_n dX12_slideOf_81 rfl ?_
              refine w_iconst dX12_slideOf_82 ?_
              refine w_iadd dX12_slideOf_83 ?_
              refine w_istore_n [some (aR 12 0), some (aI x), some (aI (v + 1)), some (aI 0)] dX12_slideOf_84 rfl (by decide) ?_
              refine w_goto 2 dX12_slideOf_85 (by decide) ?_
              refine w_drop [3] [some (aR 12 0), some (aI x), some (aI (v + 1)), none] rfl ?_
              have hq := slI_r g2 hx hrs hc2 iv2 c43 (Or.inr ⟨c32.1, by omega⟩)
              exact ih2 hq.1 _ hq.2
            · (exfalso; omega)
          · refine w_iconst dX12_slideOf_65 ?_
            refine w_goto 70 dX12_slideOf_66 (by decide) ?_
            refine w_istore_n [some (aR 12 0), some (aI x), some (aI v), some (aI 1)] dX12_slideOf_70 rfl (by decide) ?_
            refine w_iload_n dX12_slideOf_71 rfl ?_
            refine w_if_eq 81 dX12_slideOf_72 (by decide) (by omega) (fun c72 => ?_) (fun c72 => ?_)
            · (exfalso; omega)
            · refine w_iload_n dX12_slideOf_75 rfl ?_
              refine w_iconst dX12_slideOf_76 ?_
              refine w_isub dX12_slideOf_77 ?_
              refine w_goto 84 dX12_slideOf_78 (by decide) ?_
              refine w_istore_n [some (aR 12 0), some (aI x), some (aI (v - 1)), some (aI 1)] dX12_slideOf_84 rfl (by decide) ?_
              refine w_goto 2 dX12_slideOf_85 (by decide) ?_
              refine w_drop [3] [some (aR 12 0), some (aI x), some (aI (v - 1)), none] rfl ?_
              have hq := slI_l g2 hx hrs hc2 iv2 c32 (by first | exact Or.inl c43 | exact Or.inr ⟨c43.1, by omega⟩)
              exact ih2 hq.1 _ hq.2
    · refine w_aload_n dX12_slideOf_13 rfl ?_
      refine w_iload_n dX12_slideOf_14 rfl ?_
      refine w_iload_n dX12_slideOf_15 rfl ?_
      refine w_iconst dX12_slideOf_16 ?_
      refine w_iadd dX12_slideOf_17 ?_
      refine w_callV (d := d + 2) (S := []) [aI v, aI (v + 1)] dX12_slideOf_18 ml_X12_207 ok_X12_falls vi_X12_falls rfl rfl (by decide) rfl (Nat.le_of_ble_eq_true rfl) ?_
      refine c_X12_falls (d := d) v (v + 1) H J R hH hb (show 0 ≤ v ∧ v < gg 4 0 1 by omega) (by omega) ?_
      show fwWP mX12_slideOf (d + 3) 21 [some (aR 12 0), some (aI x), some (aI v), none] [aI (fwB ((0 ≤ (v + 1) ∧ (v + 1) ≤ gg 4 0 1 - 1) ∧ gg 4 0 3 < H v.toNat + 1 - H (v + 1).toNat))] h Q
      refine w_ifB_eq 88 dX12_slideOf_21 (by decide) (fun c21 => ?_) (fun c21 => ?_)
      · have hbv := hb v.toNat (by omega)
        have h99v := h99 v.toNat (by omega)
        have hds := slI_e hc2 iv2 c10 c21
        refine w_aload_n dX12_slideOf_88 rfl ?_
        refine w_getr 42 0 dX12_slideOf_89 fl_X12_34 rfl (by decide) ?_
        refine w_iload_n dX12_slideOf_92 rfl ?_
        refine w_ialdE (v := H (v).toNat) dX12_slideOf_93 rfl (by decide) (by omega) (by omega) (hH _ (by omega)) ?_
        refine w_bipush dX12_slideOf_94 rfl ?_
        refine w_icmp_ne 103 dX12_slideOf_96 (by decide) (by omega) (by omega) (fun c96 => ?_) (fun c96 => ?_)
        · refine w_iload_n dX12_slideOf_103 rfl ?_
          exact w_iretE dX12_slideOf_104 rfl (by unfold mStay; rw [hds, hOf_p iv0]; first | rw [if_pos (by omega)] | rw [if_neg (by omega)]) k
        · refine w_iconst dX12_slideOf_99 ?_
          refine w_goto 104 dX12_slideOf_100 (by decide) ?_
          exact w_iretE dX12_slideOf_104 rfl (by unfold mStay; rw [hds, hOf_p iv0]; first | rw [if_pos (by omega)] | rw [if_neg (by omega)]) k
      · refine w_aload_n dX12_slideOf_24 rfl ?_
        refine w_iload_n dX12_slideOf_25 rfl ?_
        refine w_iload_n dX12_slideOf_26 rfl ?_
        refine w_iconst dX12_slideOf_27 ?_
        refine w_isub dX12_slideOf_28 ?_
        refine w_callV (d := d + 2) (S := []) [aI v, aI (v - 1)] dX12_slideOf_29 ml_X12_207 ok_X12_falls vi_X12_falls rfl rfl (by decide) rfl (Nat.le_of_ble_eq_true rfl) ?_
        refine c_X12_falls (d := d) v (v - 1) H J R hH hb (show 0 ≤ v ∧ v < gg 4 0 1 by omega) (by omega) ?_
        show fwWP mX12_slideOf (d + 3) 32 [some (aR 12 0), some (aI x), some (aI v), none] [aI (fwB ((0 ≤ (v - 1) ∧ (v - 1) ≤ gg 4 0 1 - 1) ∧ gg 4 0 3 < H v.toNat + 1 - H (v - 1).toNat))] h Q
        refine w_ifB_eq 69 dX12_slideOf_32 (by decide) (fun c32 => ?_) (fun c32 => ?_)
        · refine w_iconst dX12_slideOf_69 ?_
          refine w_istore_n [some (aR 12 0), some (aI x), some (aI v), some (aI 0)] dX12_slideOf_70 rfl (by decide) ?_
          refine w_iload_n dX12_slideOf_71 rfl ?_
          refine w_if_eq 81 dX12_slideOf_72 (by decide) (by omega) (fun c72 => ?_) (fun c72 => ?_)
          · refine w_iload_n dX12_slideOf_81 rfl ?_
            refine w_iconst dX12_slideOf_82 ?_
            refine w_iadd dX12_slideOf_83 ?_
            refine w_istore_n [some (aR 12 0), some (aI x), some (aI (v + 1)), some (aI 0)] dX12_slideOf_84 rfl (by decide) ?_
            refine w_goto 2 dX12_slideOf_85 (by decide) ?_
            refine w_drop [3] [some (aR 12 0), some (aI x), some (aI (v + 1)), none] rfl ?_
            have hq := slI_r g2 hx hrs hc2 iv2 c21 (Or.inl c10)
            exact ih2 hq.1 _ hq.2
          · (exfalso; omega)
        · exact absurd c32 c10
  exact lp2 0 (Nat.zero_le _) _ ⟨hx, rfl, Or.inl ⟨by omega, Or.inl rfl⟩⟩
set_option maxRecDepth 100000 in
set_option maxHeartbeats 4000000 in
theorem c_X12_heap0 {d : Nat} {h gg : fwH} {Q : Option fwV → fwH → Prop} (x : Int) (H : Nat → Int) (J : cOk gg) (R : jF gg h) (hH : hiR (gg 4 0 1) (h 42 0) H) (hb : hB H) (h99 : ∀ c : Nat, (c : Int) < gg 4 0 1 → H c ≤ 99) (hrs : 1 ≤ gg 4 0 3) (hx : 0 ≤ x ∧ x < gg 4 0 1) (k : ∀ A, hiR (gg 4 0 1) A (mRs H (mStay (gg 4 0 1) H (gg 4 0 3) x)) → Q (some (aI (mStay (gg 4 0 1) H (gg 4 0 3) x))) (fwUc h 42 0 A)) : fwCt mX12_heap0 (d + 4) [aR 12 0, aI x] h Q := by
  refine fwCt_of [some (aR 12 0), some (aI x), none] rfl rfl rfl ?_
  obtain ⟨hl, hP, hG, -, -, -, hlw, -, ha, hs, -, hsc⟩ := id J
  obtain ⟨⟨g1, g2⟩, ⟨g3, g4⟩, ⟨g5, g6⟩, g7, -⟩ := id hG
  have hpz := hP.1
  refine w_aload_n dX12_heap0_0 rfl ?_
  refine w_iload_n dX12_heap0_1 rfl ?_
  refine w_callV (d := d + 3) (S := []) [aI x] dX12_heap0_2 ml_X12_211 ok_X12_slideOf vi_X12_slideOf rfl rfl (by decide) rfl (Nat.le_of_ble_eq_true rfl) ?_
  refine c_X12_slideOf (d := d) x H J R hH hb h99 (show 1 ≤ gg 4 0 3 by omega) (show 0 ≤ x ∧ x < gg 4 0 1 by omega) ?_
  show fwWP mX12_heap0 (d + 4) 5 [some (aR 12 0), some (aI x), none] [aI (mStay (gg 4 0 1) H (gg 4 0 3) x)] h Q
  have hsr1 := mStay_rng H (rs := gg 4 0 3) (n := gg 4 0 1) (x := x) (by omega) (by omega)
  refine w_istore_n [some (aR 12 0), some (aI x), some (aI (mStay (gg 4 0 1) H (gg 4 0 3) x))] dX12_heap0_5 rfl (by decide) ?_
  refine w_iload_n dX12_heap0_6 rfl ?_
  refine w_iconst dX12_heap0_7 ?_
  refine w_icmp_eq 21 dX12_heap0_8 (by decide) (by omega) (by omega) (fun c8 => ?_) (fun c8 => ?_)
  · refine w_iload_n dX12_heap0_21 rfl ?_
    have k2 := k (h 42 0) (by unfold mRs; rw [if_pos (by omega)]; exact hH)
    rw [fwUc_self] at k2
    exact w_iret dX12_heap0_22 rfl k2
  · refine w_aload_n dX12_heap0_11 rfl ?_
    refine w_getr 42 0 dX12_heap0_12 fl_X12_34 rfl (by decide) ?_
    refine w_iload_n dX12_heap0_15 rfl ?_
    refine w_dup2 dX12_heap0_16 rfl rfl ?_
    refine w_ialdE (v := H (mStay (gg 4 0 1) H (gg 4 0 3) x).toNat) dX12_heap0_17 rfl (by decide) (by omega) (by omega) (hH _ (by omega)) ?_
    refine w_iconst dX12_heap0_18 ?_
    refine w_iadd dX12_heap0_19 ?_
    refine w_iast dX12_heap0_20 rfl (by decide) (by omega) (by omega) ?_
    refine w_iload_n dX12_heap0_21 rfl ?_
    have k2 := k (fwFu (h 42 0) (mStay (gg 4 0 1) H (gg 4 0 3) x).toNat (H (mStay (gg 4 0 1) H (gg 4 0 3) x).toNat + 1)) (by unfold mRs; rw [if_neg (by omega)]; exact hiR_fu hH _ _)
    rw [← fwUp_fu] at k2
    exact w_iret dX12_heap0_22 rfl k2
end

/-! FootLowerModel: its world and the class's MOUNTAIN say the same -/
def jF (gg h : fwH) : Prop := h 36 0 0 = gg 4 0 1 ∧ h 36 0 1 = gg 4 0 2 ∧ h 36 0 2 = gg 4 0 3 ∧ h 36 0 3 = gg 3 0 4 ∧ h 36 0 4 = gg 4 0 4 ∧ h 36 0 5 = gg 3 0 5 ∧ h 36 0 6 = gg 5 0 3 ∧ h 36 0 7 = gg 3 0 6 ∧ h 36 0 8 = gg 3 0 3 ∧ (∀ j : Nat, j < 56 → h 36 0 (19 + j) = gg 18 0 j) ∧ (∀ f : Nat, (f : Int) < gg 5 0 3 → gg 18 0 (7 * f) < gg 4 0 1) ∧ (0 < gg 3 0 6 → 1 ≤ gg 4 0 3 ∧ 1 ≤ gg 3 0 4)
def hiR (n : Int) (A H : Nat → Int) : Prop := ∀ c : Nat, (c : Int) < n → A c = H c
def hB (H : Nat → Int) : Prop := ∀ c : Nat, c < 10 → 0 ≤ H c ∧ H c ≤ 1000
theorem hiR_fu {n : Int} {A H : Nat → Int} (hA : hiR n A H) (t : Nat) (x : Int) : hiR n (fwFu A t x) (fwFu H t x) := by
  intro c hc
  unfold fwFu
  split
  · rfl
  · exact hA c hc
set_option maxRecDepth 100000 in
set_option maxHeartbeats 4000000 in
theorem c_X12_in {d : Nat} {h : fwH} {Q : Option fwV → fwH → Prop} (v lo hi : Int) (hv : -9223372036854775808 ≤ v ∧ v < 9223372036854775808) (hlo : -9223372036854775808 ≤ lo ∧ lo < 9223372036854775808) (hhi : -9223372036854775808 ≤ hi ∧ hi < 9223372036854775808) (k : Q (some (aI (fwB (lo ≤ v ∧ v ≤ hi)))) h) : fwCt mX12_in (d + 0) [aJ v, aJ lo, aJ hi] h Q := by
  refine fwCt_of [some (aJ v), none, some (aJ lo), none, some (aJ hi), none] rfl rfl rfl ?_
  refine w_lload_n dX12_in_0 rfl ?_
  refine w_lload_n dX12_in_1 rfl ?_
  refine w_lc_lt 17 dX12_in_2 dX12_in_3 (by decide) (by omega) (by omega) (fun c3 => ?_) (fun c3 => ?_)
  · refine w_iconst dX12_in_17 ?_
    exact w_zretE dX12_in_18 rfl (by first | (exfalso; omega) | (rw [fwB_t (by omega)]) | (rw [fwB_f (by omega)])) k
  · refine w_lload_n dX12_in_6 rfl ?_
    refine w_lload dX12_in_7 rfl ?_
    refine w_lc_gt 17 dX12_in_9 dX12_in_10 (by decide) (by omega) (by omega) (fun c10 => ?_) (fun c10 => ?_)
    · refine w_iconst dX12_in_17 ?_
      exact w_zretE dX12_in_18 rfl (by first | (exfalso; omega) | (rw [fwB_t (by omega)]) | (rw [fwB_f (by omega)])) k
    · refine w_iconst dX12_in_13 ?_
      refine w_goto 18 dX12_in_14 (by decide) ?_
      exact w_zretE dX12_in_18 rfl (by first | (exfalso; omega) | (rw [fwB_t (by omega)]) | (rw [fwB_f (by omega)])) k
set_option maxRecDepth 100000 in
set_option maxHeartbeats 4000000 in
theorem c_X12_bit {d : Nat} {h : fwH} {Q : Option fwV → fwH → Prop} (x y : Int)  (k : Q (some (aI (fwAnd (fwShr x y) 1))) h) : fwCt mX12_bit (d + 0) [aI x, aI y] h Q := by
  refine fwCt_of [some (aI x), some (aI y)] rfl rfl rfl ?_
  refine w_iload_n dX12_bit_0 rfl ?_
  refine w_iload_n dX12_bit_1 rfl ?_
  refine w_ishr dX12_bit_2 ?_
  refine w_iconst dX12_bit_3 ?_
  refine w_iand dX12_bit_4 ?_
  exact w_iretE dX12_bit_5 rfl (by rfl) k
theorem bit_01 (x y : Int) : fwAnd (fwShr x y) 1 = 0 ∨ fwAnd (fwShr x y) 1 = 1 := by
  unfold fwAnd
  obtain ⟨j, hj, e⟩ := pk_andE (Int32.ofInt (fwShr x y)) (m := Int32.ofInt 1) 1 (by decide)
  rw [e, nI_toInt (by omega)]
  omega
def mBt (x : Int) : Nat → Int
  | 0 => 0
  | k + 1 => mBt x k + fwAnd (fwShr x (k : Int)) 1
theorem mBt_rng (x : Int) : ∀ k : Nat, 0 ≤ mBt x k ∧ mBt x k ≤ k := by
  intro k
  induction k with
  | zero => simp [mBt]
  | succ k ih => rw [mBt]; have := bit_01 x k; omega
set_option maxRecDepth 100000 in
set_option maxHeartbeats 4000000 in
theorem c_X12_bits {d : Nat} {h : fwH} {Q : Option fwV → fwH → Prop} (x : Int)  (k : Q (some (aI (mBt x 21))) h) : fwCt mX12_bits (d + 0) [aI x] h Q := by
  refine fwCt_of [some (aI x), none, none] rfl rfl rfl ?_
  refine w_iconst dX12_bits_0 ?_
  refine w_istore_n [some (aI x), some (aI 0), none] dX12_bits_1 rfl (by decide) ?_
  refine w_iconst dX12_bits_2 ?_
  refine w_istore_n [some (aI x), some (aI 0), some (aI 0)] dX12_bits_3 rfl (by decide) ?_
  have lp4 : ∀ c : Nat, c ≤ 21 → ∀ (y4 nv : Int), y4 = (c : Int) → nv = mBt x c → fwWP mX12_bits (d + 0) 4 [some (aI x), some (aI nv), some (aI y4)] [] h Q := by
    refine fw_up (fun c hc4 ih4 => ?_)
    intro y4 nv ey4 e_nv
    subst ey4
    subst e_nv
    show fwWP mX12_bits (d + 0) 4 [some (aI x), some (aI (mBt x c)), some (aI (c : Int))] [] h Q
    refine w_iload_n dX12_bits_4 rfl ?_
    refine w_bipush dX12_bits_5 rfl ?_
    refine w_icmp_ge 24 dX12_bits_7 (by decide) (by omega) (by omega) (fun c7 => ?_) (fun c7 => ?_)
    · have ec4 : 21 = c := by omega
      subst ec4
      refine w_iload_n dX12_bits_24 rfl ?_
      exact w_iretE dX12_bits_25 rfl (by rfl) k
    · refine w_iload_n dX12_bits_10 rfl ?_
      refine w_iload_n dX12_bits_11 rfl ?_
      refine w_iload_n dX12_bits_12 rfl ?_
      refine w_ishr dX12_bits_13 ?_
      refine w_iconst dX12_bits_14 ?_
      refine w_iand dX12_bits_15 ?_
      refine w_iadd dX12_bits_16 ?_
      refine w_istore_n [some (aI x), some (aI ((mBt x c) + (fwAnd (fwShr x (c : Int)) 1))), some (aI (c : Int))] dX12_bits_17 rfl (by decide) ?_
      refine w_iinc [some (aI x), some (aI ((mBt x c) + (fwAnd (fwShr x (c : Int)) 1))), some (aI ((c : Int) + 1))] dX12_bits_18 rfl rfl (by decide) ?_
      refine w_goto 4 dX12_bits_21 (by decide) ?_
      refine ih4 (by omega) _ _ ?_ ?_
      · exact (by omega)
      · exact (by rw [mBt])
  refine lp4 0 (Nat.zero_le _) _ _ ?_ ?_
  · exact (by omega)
  · exact rfl
set_option maxRecDepth 100000 in
theorem mBt_10 : ∀ a : Nat, a < 1024 → mBt (a : Int) 21 = fwPop (a : Int) := by decide +kernel
theorem mBt_pop {x : Int} (hx : 0 ≤ x ∧ x < 1024) : mBt x 21 = fwPop x := by
  obtain ⟨a, rfl⟩ : ∃ a : Nat, x = a := ⟨x.toNat, by omega⟩
  exact mBt_10 a (by omega)
theorem c_bitsP {d : Nat} {h : fwH} {Q : Option fwV → fwH → Prop} (x : Int) (hx : 0 ≤ x ∧ x < 1024) (k : Q (some (aI (fwPop x))) h) : fwCt mX12_bits d [aI x] h Q := by
  refine c_X12_bits x ?_
  rw [mBt_pop hx]
  exact k
set_option maxRecDepth 100000 in
set_option maxHeartbeats 4000000 in
theorem c_X12_isMount {d : Nat} {h gg : fwH} {Q : Option fwV → fwH → Prop}  (J : cOk gg) (R : jF gg h)  (k : Q (some (aI (fwB (0 < gg 3 0 6)))) h) : fwCt mX12_isMount (d + 0) [aR 12 0] h Q := by
  refine fwCt_of [some (aR 12 0)] rfl rfl rfl ?_
  obtain ⟨hl, hP, hG, -, -, -, hlw, -, ha, hs, -, hsc⟩ := id J
  obtain ⟨⟨g1, g2⟩, ⟨g3, g4⟩, ⟨g5, g6⟩, g7, -⟩ := id hG
  have hpz := hP.1
  refine w_aload_n dX12_isMount_0 rfl ?_
  refine w_getr 36 0 dX12_isMount_1 fl_X12_9 rfl (by decide) ?_
  refine w_bipush dX12_isMount_4 rfl ?_
  refine w_ialdE (v := gg 3 0 6) dX12_isMount_6 rfl (by decide) (by omega) (by omega) R.2.2.2.2.2.2.2.1 ?_
  refine w_if_le 14 dX12_isMount_7 (by decide) (by omega) (fun c7 => ?_) (fun c7 => ?_)
  · refine w_iconst dX12_isMount_14 ?_
    exact w_zretE dX12_isMount_15 rfl (by first | (exfalso; omega) | (rw [fwB_t (by omega)]) | (rw [fwB_f (by omega)]) | rfl) k
  · refine w_iconst dX12_isMount_10 ?_
    refine w_goto 15 dX12_isMount_11 (by decide) ?_
    exact w_zretE dX12_isMount_15 rfl (by first | (exfalso; omega) | (rw [fwB_t (by omega)]) | (rw [fwB_f (by omega)]) | rfl) k
set_option maxRecDepth 100000 in
set_option maxHeartbeats 4000000 in
theorem c_X12_isCell {d : Nat} {h gg : fwH} {Q : Option fwV → fwH → Prop} (x : Int) (J : cOk gg) (R : jF gg h) (hx : -9223372036854775808 ≤ x ∧ x < 9223372036854775808) (k : Q (some (aI (fwB (0 ≤ x ∧ x ≤ gg 4 0 1 - 1)))) h) : fwCt mX12_isCell (d + 1) [aR 12 0, aJ x] h Q := by
  refine fwCt_of [some (aR 12 0), some (aJ x), none] rfl rfl rfl ?_
  obtain ⟨hl, hP, hG, -, -, -, hlw, -, ha, hs, -, hsc⟩ := id J
  obtain ⟨⟨g1, g2⟩, ⟨g3, g4⟩, ⟨g5, g6⟩, g7, -⟩ := id hG
  have hpz := hP.1
  refine w_lload_n dX12_isCell_0 rfl ?_
  refine w_lconst (z := 0) dX12_isCell_1 rfl ?_
  refine w_aload_n dX12_isCell_2 rfl ?_
  refine w_getr 36 0 dX12_isCell_3 fl_X12_9 rfl (by decide) ?_
  refine w_iconst dX12_isCell_6 ?_
  refine w_ialdE (v := gg 4 0 1) dX12_isCell_7 rfl (by decide) (by omega) (by omega) R.1 ?_
  refine w_iconst dX12_isCell_8 ?_
  refine w_isub dX12_isCell_9 ?_
  refine w_i2l dX12_isCell_10 (by omega) ?_
  refine w_callS (d := d + 0) (S := []) [aJ x, aJ 0, aJ ((gg 4 0 1) - 1)] dX12_isCell_11 ml_X12_65 ok_X12_in st_X12_in rfl (Nat.le_of_ble_eq_true rfl) ?_
  refine c_X12_in (d := d) x 0 ((gg 4 0 1) - 1) (by omega) (by omega) (by omega) ?_
  show fwWP mX12_isCell (d + 1) 14 [some (aR 12 0), some (aJ x), none] [aI (fwB (0 ≤ x ∧ x ≤ ((gg 4 0 1) - 1)))] h Q
  exact w_zretE dX12_isCell_14 rfl (by first | (exfalso; omega) | (rw [fwB_t (by omega)]) | (rw [fwB_f (by omega)]) | rfl) k
set_option maxRecDepth 100000 in
set_option maxHeartbeats 4000000 in
theorem c_X12_isFolk {d : Nat} {h gg : fwH} {Q : Option fwV → fwH → Prop} (x : Int) (J : cOk gg) (R : jF gg h) (hx : -9223372036854775808 ≤ x ∧ x < 9223372036854775808) (k : Q (some (aI (fwB (0 ≤ x ∧ x ≤ gg 5 0 3 - 1)))) h) : fwCt mX12_isFolk (d + 1) [aR 12 0, aJ x] h Q := by
  refine fwCt_of [some (aR 12 0), some (aJ x), none] rfl rfl rfl ?_
  obtain ⟨hl, hP, hG, -, -, -, hlw, -, ha, hs, -, hsc⟩ := id J
  obtain ⟨⟨g1, g2⟩, ⟨g3, g4⟩, ⟨g5, g6⟩, g7, -⟩ := id hG
  have hpz := hP.1
  refine w_lload_n dX12_isFolk_0 rfl ?_
  refine w_lconst (z := 0) dX12_isFolk_1 rfl ?_
  refine w_aload_n dX12_isFolk_2 rfl ?_
  refine w_getr 36 0 dX12_isFolk_3 fl_X12_9 rfl (by decide) ?_
  refine w_bipush dX12_isFolk_6 rfl ?_
  refine w_ialdE (v := gg 5 0 3) dX12_isFolk_8 rfl (by decide) (by omega) (by omega) R.2.2.2.2.2.2.1 ?_
  refine w_iconst dX12_isFolk_9 ?_
  refine w_isub dX12_isFolk_10 ?_
  refine w_i2l dX12_isFolk_11 (by omega) ?_
  refine w_callS (d := d + 0) (S := []) [aJ x, aJ 0, aJ ((gg 5 0 3) - 1)] dX12_isFolk_12 ml_X12_65 ok_X12_in st_X12_in rfl (Nat.le_of_ble_eq_true rfl) ?_
  refine c_X12_in (d := d) x 0 ((gg 5 0 3) - 1) (by omega) (by omega) (by omega) ?_
  show fwWP mX12_isFolk (d + 1) 15 [some (aR 12 0), some (aJ x), none] [aI (fwB (0 ≤ x ∧ x ≤ ((gg 5 0 3) - 1)))] h Q
  exact w_zretE dX12_isFolk_15 rfl (by first | (exfalso; omega) | (rw [fwB_t (by omega)]) | (rw [fwB_f (by omega)]) | rfl) k
set_option maxRecDepth 100000 in
set_option maxHeartbeats 4000000 in
theorem c_X12_isHour {d : Nat} {h : fwH} {Q : Option fwV → fwH → Prop} (x : Int) (hx : -9223372036854775808 ≤ x ∧ x < 9223372036854775808) (k : Q (some (aI (fwB (x ≠ 0 ∧ -9 ≤ x ∧ x ≤ 9)))) h) : fwCt mX12_isHour (d + 1) [aJ x] h Q := by
  refine fwCt_of [some (aJ x), none] rfl rfl rfl ?_
  refine w_lload_n dX12_isHour_0 rfl ?_
  refine w_ldc2 (n := -9) dX12_isHour_1 cs_X12_69 ?_
  refine w_ldc2 (n := 9) dX12_isHour_4 cs_X12_71 ?_
  refine w_callS (d := d + 0) (S := []) [aJ x, aJ (-9), aJ 9] dX12_isHour_7 ml_X12_65 ok_X12_in st_X12_in rfl (Nat.le_of_ble_eq_true rfl) ?_
  refine c_X12_in (d := d) x (-9) 9 (by omega) (by omega) (by omega) ?_
  show fwWP mX12_isHour (d + 1) 10 [some (aJ x), none] [aI (fwB ((-9) ≤ x ∧ x ≤ 9))] h Q
  refine w_ifB_eq 23 dX12_isHour_10 (by decide) (fun c10 => ?_) (fun c10 => ?_)
  · refine w_iconst dX12_isHour_23 ?_
    exact w_zretE dX12_isHour_24 rfl (by first | (exfalso; omega) | (rw [fwB_t (by omega)]) | (rw [fwB_f (by omega)])) k
  · refine w_lload_n dX12_isHour_13 rfl ?_
    refine w_lconst (z := 0) dX12_isHour_14 rfl ?_
    refine w_lc_eq 23 dX12_isHour_15 dX12_isHour_16 (by decide) (by omega) (by omega) (fun c16 => ?_) (fun c16 => ?_)
    · refine w_iconst dX12_isHour_23 ?_
      exact w_zretE dX12_isHour_24 rfl (by first | (exfalso; omega) | (rw [fwB_t (by omega)]) | (rw [fwB_f (by omega)])) k
    · refine w_iconst dX12_isHour_19 ?_
      refine w_goto 24 dX12_isHour_20 (by decide) ?_
      exact w_zretE dX12_isHour_24 rfl (by first | (exfalso; omega) | (rw [fwB_t (by omega)]) | (rw [fwB_f (by omega)])) k
set_option maxRecDepth 100000 in
set_option maxHeartbeats 4000000 in
theorem c_X12_all {d : Nat} {h gg : fwH} {Q : Option fwV → fwH → Prop}  (J : cOk gg) (R : jF gg h) (k : Q (some (aI (fwShl 1 (gg 5 0 3) - 1))) h) : fwCt mX12_all (d + 0) [aR 12 0] h Q := by
  refine fwCt_of [some (aR 12 0)] rfl rfl rfl ?_
  obtain ⟨hl, hP, hG, -, -, -, hlw, -, ha, hs, -, hsc⟩ := id J
  obtain ⟨⟨g1, g2⟩, ⟨g3, g4⟩, ⟨g5, g6⟩, g7, -⟩ := id hG
  have hpz := hP.1
  refine w_iconst dX12_all_0 ?_
  refine w_aload_n dX12_all_1 rfl ?_
  refine w_getr 36 0 dX12_all_2 fl_X12_9 rfl (by decide) ?_
  refine w_bipush dX12_all_5 rfl ?_
  refine w_ialdE (v := gg 5 0 3) dX12_all_7 rfl (by decide) (by omega) (by omega) R.2.2.2.2.2.2.1 ?_
  refine w_ishl dX12_all_8 ?_
  refine w_iconst dX12_all_9 ?_
  refine w_isub dX12_all_10 ?_
  exact w_iretE dX12_all_11 rfl (by rfl) k
set_option maxRecDepth 100000 in
set_option maxHeartbeats 4000000 in
theorem c_X12_isSet {d : Nat} {h gg : fwH} {Q : Option fwV → fwH → Prop} (x : Int) (J : cOk gg) (R : jF gg h) (hx : -2147483648 ≤ x ∧ x < 2147483648) (k : Q (some (aI (fwB (0 < gg 3 0 6 ∧ 0 ≤ x ∧ x ≤ fwShl 1 (gg 5 0 3) - 1)))) h) : fwCt mX12_isSet (d + 1) [aR 12 0, aI x] h Q := by
  refine fwCt_of [some (aR 12 0), some (aI x)] rfl rfl rfl ?_
  obtain ⟨hl, hP, hG, -, -, -, hlw, -, ha, hs, -, hsc⟩ := id J
  obtain ⟨⟨g1, g2⟩, ⟨g3, g4⟩, ⟨g5, g6⟩, g7, -⟩ := id hG
  have hpz := hP.1
  refine w_aload_n dX12_isSet_0 rfl ?_
  refine w_callV (d := d + 0) (S := []) [] dX12_isSet_1 ml_X12_73 ok_X12_isMount vi_X12_isMount rfl rfl (by decide) rfl (Nat.le_of_ble_eq_true rfl) ?_
  refine c_X12_isMount (d := d) J R ?_
  show fwWP mX12_isSet (d + 1) 4 [some (aR 12 0), some (aI x)] [aI (fwB (0 < gg 3 0 6))] h Q
  refine w_ifB_eq 25 dX12_isSet_4 (by decide) (fun c4 => ?_) (fun c4 => ?_)
  · refine w_iconst dX12_isSet_25 ?_
    exact w_zretE dX12_isSet_26 rfl (by first | (exfalso; omega) | (rw [fwB_t (by omega)]) | (rw [fwB_f (by omega)]) | rfl) k
  · refine w_iload_n dX12_isSet_7 rfl ?_
    refine w_i2l dX12_isSet_8 (by omega) ?_
    refine w_lconst (z := 0) dX12_isSet_9 rfl ?_
    refine w_aload_n dX12_isSet_10 rfl ?_
    refine w_callV (d := d + 0) (S := [aJ 0, aJ x]) [] dX12_isSet_11 ml_X12_77 ok_X12_all vi_X12_all rfl rfl (by decide) rfl (Nat.le_of_ble_eq_true rfl) ?_
    refine c_X12_all (d := d) J R ?_
    show fwWP mX12_isSet (d + 1) 14 [some (aR 12 0), some (aI x)] [aI (fwShl 1 (gg 5 0 3) - 1), aJ 0, aJ x] h Q
    have hsh2 := fwShl1_rng (x := gg 5 0 3) (by omega)
    refine w_i2l dX12_isSet_14 (by omega) ?_
    refine w_callS (d := d + 0) (S := []) [aJ x, aJ 0, aJ (fwShl 1 (gg 5 0 3) - 1)] dX12_isSet_15 ml_X12_65 ok_X12_in st_X12_in rfl (Nat.le_of_ble_eq_true rfl) ?_
    refine c_X12_in (d := d) x 0 (fwShl 1 (gg 5 0 3) - 1) (by omega) (by omega) (by omega) ?_
    show fwWP mX12_isSet (d + 1) 18 [some (aR 12 0), some (aI x)] [aI (fwB (0 ≤ x ∧ x ≤ (fwShl 1 (gg 5 0 3) - 1)))] h Q
    refine w_ifB_eq 25 dX12_isSet_18 (by decide) (fun c18 => ?_) (fun c18 => ?_)
    · refine w_iconst dX12_isSet_25 ?_
      exact w_zretE dX12_isSet_26 rfl (by first | (exfalso; omega) | (rw [fwB_t (by omega)]) | (rw [fwB_f (by omega)]) | rfl) k
    · refine w_iconst dX12_isSet_21 ?_
      refine w_goto 26 dX12_isSet_22 (by decide) ?_
      exact w_zretE dX12_isSet_26 rfl (by first | (exfalso; omega) | (rw [fwB_t (by omega)]) | (rw [fwB_f (by omega)]) | rfl) k
set_option maxRecDepth 100000 in
set_option maxHeartbeats 4000000 in
theorem c_X12_of {d : Nat} {h gg : fwH} {Q : Option fwV → fwH → Prop} (f w : Nat) (J : cOk gg) (R : jF gg h) (hf : f < 8) (hw : w < 7) (k : Q (some (aI (gg 18 0 (7 * f + w)))) h) : fwCt mX12_of (d + 0) [aR 12 0, aI (f : Int), aI (w : Int)] h Q := by
  refine fwCt_of [some (aR 12 0), some (aI (f : Int)), some (aI (w : Int))] rfl rfl rfl ?_
  refine w_aload_n dX12_of_0 rfl ?_
  refine w_getr 36 0 dX12_of_1 fl_X12_9 rfl (by decide) ?_
  refine w_bipush dX12_of_4 rfl ?_
  refine w_bipush dX12_of_6 rfl ?_
  refine w_iload_n dX12_of_8 rfl ?_
  refine w_imul dX12_of_9 ?_
  refine w_iadd dX12_of_10 ?_
  refine w_iload_n dX12_of_11 rfl ?_
  refine w_iadd dX12_of_12 ?_
  refine w_ialdE (v := gg 18 0 (7 * f + w)) dX12_of_13 rfl (by decide) (by omega) (by omega) (by rw [show (((19 + (7 * (f : Int))) + (w : Int)).toNat) = 19 + (7 * f + w) by omega]; exact R.2.2.2.2.2.2.2.2.2.1 _ (by omega)) ?_
  exact w_iretE dX12_of_14 rfl (by rfl) k
theorem c_ofE {d : Nat} {h gg : fwH} {Q : Option fwV → fwH → Prop} (f w : Nat) (x : Int) (J : cOk gg) (R : jF gg h) (ex : x = (f : Int)) (hf : f < 8) (hw : w < 7) (k : Q (some (aI (gg 18 0 (7 * f + w)))) h) : fwCt mX12_of d [aR 12 0, aI x, aI (w : Int)] h Q := by
  subst ex
  exact c_X12_of f w J R hf hw k

/-- the two classes' rows of numbers -/
def jS (gg h : fwH) : Prop := ∀ s : Nat, s < 4 → h 46 0 s = gg 35 0 s ∧ h 47 0 s = gg 34 0 s ∧ ∀ j : Nat, j < 60 → h 48 0 (60 * s + j) = gg 33 s j
set_option maxRecDepth 100000 in
set_option maxHeartbeats 4000000 in
theorem c_X12_isSlot {d : Nat} {h : fwH} {Q : Option fwV → fwH → Prop} (x : Int) (hx : -2147483648 ≤ x ∧ x < 2147483648) (k : Q (some (aI (fwB (0 ≤ x ∧ x ≤ 3)))) h) : fwCt mX12_isSlot (d + 1) [aI x] h Q := by
  refine fwCt_of [some (aI x)] rfl rfl rfl ?_
  refine w_iload_n dX12_isSlot_0 rfl ?_
  refine w_i2l dX12_isSlot_1 (by omega) ?_
  refine w_lconst (z := 0) dX12_isSlot_2 rfl ?_
  refine w_ldc2 (n := 3) dX12_isSlot_3 cs_X12_342 ?_
  refine w_callS (d := d + 0) (S := []) [aJ x, aJ 0, aJ 3] dX12_isSlot_6 ml_X12_65 ok_X12_in st_X12_in rfl (Nat.le_of_ble_eq_true rfl) ?_
  refine c_X12_in (d := d) x 0 3 (by omega) (by omega) (by omega) ?_
  show fwWP mX12_isSlot (d + 1) 9 [some (aI x)] [aI (fwB (0 ≤ x ∧ x ≤ 3))] h Q
  exact w_zretE dX12_isSlot_9 rfl (by first | (exfalso; omega) | (rw [fwB_t (by omega)]) | (rw [fwB_f (by omega)]) | rfl) k
set_option maxRecDepth 100000 in
set_option maxHeartbeats 4000000 in
theorem c_X12_numberAt {d : Nat} {h gg : fwH} {Q : Option fwV → fwH → Prop} (s j : Nat) (S : jS gg h) (hs : s < 4) (hj : j < 60) (k : Q (some (aJ (gg 33 s j))) h) : fwCt mX12_numberAt (d + 0) [aR 12 0, aI (s : Int), aI (j : Int)] h Q := by
  refine fwCt_of [some (aR 12 0), some (aI (s : Int)), some (aI (j : Int))] rfl rfl rfl ?_
  refine w_aload_n dX12_numberAt_0 rfl ?_
  refine w_getr 48 0 dX12_numberAt_1 fl_X12_53 rfl (by decide) ?_
  refine w_bipush dX12_numberAt_4 rfl ?_
  refine w_iload_n dX12_numberAt_6 rfl ?_
  refine w_imul dX12_numberAt_7 ?_
  refine w_iload_n dX12_numberAt_8 rfl ?_
  refine w_iadd dX12_numberAt_9 ?_
  refine w_laldE (v := gg 33 s j) dX12_numberAt_10 rfl (by decide) (by omega) (by omega) (by rw [show (((60 * (s : Int)) + (j : Int)).toNat) = 60 * s + j by omega]; exact (S s hs).2.2 j hj) ?_
  exact w_lret dX12_numberAt_11 rfl k
theorem c_naE {d : Nat} {h gg : fwH} {Q : Option fwV → fwH → Prop} (s j : Nat) (x y : Int) (S : jS gg h) (ex : x = (s : Int)) (ey : y = (j : Int)) (hs : s < 4) (hj : j < 60) (k : Q (some (aJ (gg 33 s j))) h) : fwCt mX12_numberAt d [aR 12 0, aI x, aI y] h Q := by
  subst ex ey
  exact c_X12_numberAt s j S hs hj k
theorem rz_s (V : Nat → Int) (u c : Nat) : fwFu (fun s => if 60 * u ≤ s ∧ s < 60 * u + c then 0 else V s) (60 * u + c) 0 = fun s => if 60 * u ≤ s ∧ s < 60 * u + (c + 1) then 0 else V s := by
  funext s
  unfold fwFu
  by_cases e : s = 60 * u + c
  · subst e
    rw [if_pos rfl, if_pos (by omega)]
  · rw [if_neg e]
    dsimp only
    by_cases e2 : 60 * u ≤ s ∧ s < 60 * u + c
    · rw [if_pos e2, if_pos (by omega)]
    · rw [if_neg e2, if_neg (by omega)]
theorem rz_0 (V : Nat → Int) (u : Nat) : V = fun s => if 60 * u ≤ s ∧ s < 60 * u + 0 then 0 else V s := by
  funext s
  rw [if_neg (by omega)]
set_option maxRecDepth 100000 in
set_option maxHeartbeats 4000000 in
theorem c_X12_row {d : Nat} {h : fwH} {Q : Option fwV → fwH → Prop} (x y z : Int) (hx : -2147483648 ≤ x ∧ x < 2147483648) (hy : -2147483648 ≤ y ∧ y < 2147483648) (hz : -2147483648 ≤ z ∧ z < 2147483648) (k : (¬ ((0 ≤ x ∧ x < 4) ∧ (0 ≤ y ∧ y < 4) ∧ z ≤ 60) → Q (some (aI (-2))) h) ∧ (((0 ≤ x ∧ x < 4) ∧ (0 ≤ y ∧ y < 4) ∧ z ≤ 60) → z < 0 → Q (some (aI (-3))) h) ∧ (((0 ≤ x ∧ x < 4) ∧ (0 ≤ y ∧ y < 4) ∧ z ≤ 60) → ¬ z < 0 → Q (some (aI 0)) (fwUc (fwUp (fwUp h 46 0 x.toNat z) 47 0 x.toNat y) 48 0 (fun s => if 60 * x.toNat ≤ s ∧ s < 60 * x.toNat + 60 then 0 else h 48 0 s)))) : fwCt mX12_row (d + 2) [aR 12 0, aI x, aI y, aI z] h Q := by
  refine fwCt_of [some (aR 12 0), some (aI x), some (aI y), some (aI z), none] rfl rfl rfl ?_
  refine w_iload_n dX12_row_0 rfl ?_
  refine w_callS (d := d + 1) (S := []) [aI x] dX12_row_1 ml_X12_357 ok_X12_isSlot st_X12_isSlot rfl (Nat.le_of_ble_eq_true rfl) ?_
  refine c_X12_isSlot (d := d) x (by omega) ?_
  show fwWP mX12_row (d + 2) 4 [some (aR 12 0), some (aI x), some (aI y), some (aI z), none] [aI (fwB (0 ≤ x ∧ x ≤ 3))] h Q
  refine w_ifB_eq 25 dX12_row_4 (by decide) (fun c4 => ?_) (fun c4 => ?_)
  · refine w_bipush dX12_row_25 rfl ?_
    exact w_iretE dX12_row_27 rfl rfl (k.1 (by omega))
  · refine w_iload_n dX12_row_7 rfl ?_
    refine w_i2l dX12_row_8 (by omega) ?_
    refine w_lconst (z := 0) dX12_row_9 rfl ?_
    refine w_ldc2 (n := 3) dX12_row_10 cs_X12_342 ?_
    refine w_callS (d := d + 1) (S := []) [aJ y, aJ 0, aJ 3] dX12_row_13 ml_X12_65 ok_X12_in st_X12_in rfl (Nat.le_of_ble_eq_true rfl) ?_
    refine c_X12_in (d := (d + 1)) y 0 3 (by omega) (by omega) (by omega) ?_
    show fwWP mX12_row (d + 2) 16 [some (aR 12 0), some (aI x), some (aI y), some (aI z), none] [aI (fwB (0 ≤ y ∧ y ≤ 3))] h Q
    refine w_ifB_eq 25 dX12_row_16 (by decide) (fun c16 => ?_) (fun c16 => ?_)
    · refine w_bipush dX12_row_25 rfl ?_
      exact w_iretE dX12_row_27 rfl rfl (k.1 (by omega))
    · refine w_iload_n dX12_row_19 rfl ?_
      refine w_bipush dX12_row_20 rfl ?_
      refine w_icmp_le 28 dX12_row_22 (by decide) (by omega) (by omega) (fun c22 => ?_) (fun c22 => ?_)
      · refine w_iload_n dX12_row_28 rfl ?_
        refine w_if_ge 35 dX12_row_29 (by decide) (by omega) (fun c29 => ?_) (fun c29 => ?_)
        · obtain ⟨u, rfl⟩ : ∃ u : Nat, x = (u : Int) := ⟨x.toNat, by omega⟩
          refine w_aload_n dX12_row_35 rfl ?_
          refine w_getr 46 0 dX12_row_36 fl_X12_47 rfl (by decide) ?_
          refine w_iload_n dX12_row_39 rfl ?_
          refine w_iload_n dX12_row_40 rfl ?_
          refine w_iast dX12_row_41 rfl (by decide) (by omega) (by omega) ?_
          refine w_aload_n dX12_row_42 rfl ?_
          refine w_getr 47 0 dX12_row_43 fl_X12_50 rfl (by decide) ?_
          refine w_iload_n dX12_row_46 rfl ?_
          refine w_iload_n dX12_row_47 rfl ?_
          refine w_iast dX12_row_48 rfl (by decide) (by omega) (by omega) ?_
          refine w_iconst dX12_row_49 ?_
          refine w_istore [some (aR 12 0), some (aI (u : Int)), some (aI y), some (aI z), some (aI 0)] dX12_row_50 rfl (by decide) ?_
          have lp52 : ∀ c : Nat, c ≤ 60 → ∀ (y52  : Int) (hh52 : fwH), y52 = (c : Int) → hh52 = (fwUc (fwUp (fwUp h 46 0 u z) 47 0 u y) 48 0 (fun s => if 60 * u ≤ s ∧ s < 60 * u + c then 0 else h 48 0 s)) → fwWP mX12_row (d + 2) 52 [some (aR 12 0), some (aI (u : Int)), some (aI y), some (aI z), some (aI y52)] [] hh52 Q := by
            refine fw_up (fun c hc52 ih52 => ?_)
            intro y52  hh52 ey52 eh52
            subst ey52
            subst eh52
            show fwWP mX12_row (d + 2) 52 [some (aR 12 0), some (aI (u : Int)), some (aI y), some (aI z), some (aI (c : Int))] [] (fwUc (fwUp (fwUp h 46 0 u z) 47 0 u y) 48 0 (fun s => if 60 * u ≤ s ∧ s < 60 * u + c then 0 else h 48 0 s)) Q
            refine w_iload dX12_row_52 rfl ?_
            refine w_bipush dX12_row_54 rfl ?_
            refine w_icmp_ge 78 dX12_row_56 (by decide) (by omega) (by omega) (fun c56 => ?_) (fun c56 => ?_)
            · have ec52 : 60 = c := by omega
              subst ec52
              refine w_iconst dX12_row_78 ?_
              exact w_iretE dX12_row_79 rfl rfl (k.2.2 (by omega) (by omega))
            · refine w_aload_n dX12_row_59 rfl ?_
              refine w_getr 48 0 dX12_row_60 fl_X12_53 rfl (by decide) ?_
              refine w_bipush dX12_row_63 rfl ?_
              refine w_iload_n dX12_row_65 rfl ?_
              refine w_imul dX12_row_66 ?_
              refine w_iload dX12_row_67 rfl ?_
              refine w_iadd dX12_row_69 ?_
              refine w_lconst (z := 0) dX12_row_70 rfl ?_
              refine w_last dX12_row_71 rfl (by decide) (by omega) (by omega) ?_
              refine w_iinc [some (aR 12 0), some (aI (u : Int)), some (aI y), some (aI z), some (aI ((c : Int) + 1))] dX12_row_72 rfl rfl (by decide) ?_
              refine w_goto 52 dX12_row_75 (by decide) ?_
              refine ih52 (by omega) _ _ ?_ ?_
              · exact (by omega)
              · exact (by rw [fwUp_uc, show (60 * (u : Int) + (c : Int)).toNat = 60 * u + c by omega]; exact congrArg _ (rz_s (h 48 0) u c))
          refine lp52 0 (Nat.zero_le _) _ _ ?_ ?_
          · exact (by omega)
          · exact (by rw [← rz_0 (h 48 0) u]; exact (fwUc_self (fwUp (fwUp h 46 0 u z) 47 0 u y) 48 0).symm)
        · refine w_bipush dX12_row_32 rfl ?_
          exact w_iretE dX12_row_34 rfl rfl (k.2.1 (by omega) (by omega))
      · refine w_bipush dX12_row_25 rfl ?_
        exact w_iretE dX12_row_27 rfl rfl (k.1 (by omega))
def mdCut (v w : Int) : Int := fwLshr (fwLshl v (64 - fwShl 8 w)) (64 - fwShl 8 w)
set_option maxRecDepth 100000 in
set_option maxHeartbeats 4000000 in
theorem c_X12_cut {d : Nat} {h : fwH} {Q : Option fwV → fwH → Prop} (v x : Int)  (k : Q (some (aJ (mdCut v x))) h) : fwCt mX12_cut (d + 0) [aJ v, aI x] h Q := by
  refine fwCt_of [some (aJ v), none, some (aI x), none] rfl rfl rfl ?_
  refine w_bipush dX12_cut_0 rfl ?_
  refine w_bipush dX12_cut_2 rfl ?_
  refine w_iload_n dX12_cut_4 rfl ?_
  refine w_ishl dX12_cut_5 ?_
  refine w_isub dX12_cut_6 ?_
  refine w_istore_n [some (aJ v), none, some (aI x), some (aI (64 - (fwShl 8 x)))] dX12_cut_7 rfl (by decide) ?_
  refine w_lload_n dX12_cut_8 rfl ?_
  refine w_iload_n dX12_cut_9 rfl ?_
  refine w_lshl dX12_cut_10 ?_
  refine w_iload_n dX12_cut_11 rfl ?_
  refine w_lshr dX12_cut_12 ?_
  exact w_lret dX12_cut_13 rfl k
set_option maxRecDepth 100000 in
set_option maxHeartbeats 4000000 in
theorem c_X12_write {d : Nat} {h : fwH} {Q : Option fwV → fwH → Prop} (x y v : Int) (hx : -2147483648 ≤ x ∧ x < 2147483648) (hy : -2147483648 ≤ y ∧ y < 2147483648) (hmn : ∀ s : Nat, s < 4 → -1 ≤ h 46 0 s ∧ h 46 0 s ≤ 60) (k : (¬ (0 ≤ x ∧ x < 4) → Q (some (aI (-2))) h) ∧ ((0 ≤ x ∧ x < 4) → h 46 0 x.toNat = -1 → Q (some (aI (-6))) h) ∧ ((0 ≤ x ∧ x < 4) → h 46 0 x.toNat ≠ -1 → ¬ (0 ≤ y ∧ y < h 46 0 x.toNat) → Q (some (aI (-7))) h) ∧ ((0 ≤ x ∧ x < 4) → h 46 0 x.toNat ≠ -1 → (0 ≤ y ∧ y < h 46 0 x.toNat) → Q (some (aI 0)) (fwUp h 48 0 (60 * x.toNat + y.toNat) (mdCut v (h 47 0 x.toNat))))) : fwCt mX12_write (d + 2) [aR 12 0, aI x, aI y, aJ v] h Q := by
  refine fwCt_of [some (aR 12 0), some (aI x), some (aI y), some (aJ v), none] rfl rfl rfl ?_
  refine w_iload_n dX12_write_0 rfl ?_
  refine w_callS (d := d + 1) (S := []) [aI x] dX12_write_1 ml_X12_357 ok_X12_isSlot st_X12_isSlot rfl (Nat.le_of_ble_eq_true rfl) ?_
  refine c_X12_isSlot (d := d) x (by omega) ?_
  show fwWP mX12_write (d + 2) 4 [some (aR 12 0), some (aI x), some (aI y), some (aJ v), none] [aI (fwB (0 ≤ x ∧ x ≤ 3))] h Q
  refine w_ifB_ne 10 dX12_write_4 (by decide) (fun c4 => ?_) (fun c4 => ?_)
  · obtain ⟨u, rfl⟩ : ∃ u : Nat, x = (u : Int) := ⟨x.toNat, by omega⟩
    have hm := hmn u (by omega)
    refine w_aload_n dX12_write_10 rfl ?_
    refine w_getr 46 0 dX12_write_11 fl_X12_47 rfl (by decide) ?_
    refine w_iload_n dX12_write_14 rfl ?_
    refine w_ialdE (v := h 46 0 u) dX12_write_15 rfl (by decide) (by omega) (by omega) rfl ?_
    refine w_iconst dX12_write_16 ?_
    refine w_icmp_ne 23 dX12_write_17 (by decide) (by omega) (by omega) (fun c17 => ?_) (fun c17 => ?_)
    · refine w_iload_n dX12_write_23 rfl ?_
      refine w_i2l dX12_write_24 (by omega) ?_
      refine w_lconst (z := 0) dX12_write_25 rfl ?_
      refine w_aload_n dX12_write_26 rfl ?_
      refine w_getr 46 0 dX12_write_27 fl_X12_47 rfl (by decide) ?_
      refine w_iload_n dX12_write_30 rfl ?_
      refine w_ialdE (v := h 46 0 u) dX12_write_31 rfl (by decide) (by omega) (by omega) rfl ?_
      refine w_iconst dX12_write_32 ?_
      refine w_isub dX12_write_33 ?_
      refine w_i2l dX12_write_34 (by omega) ?_
      refine w_callS (d := d + 1) (S := []) [aJ y, aJ 0, aJ ((h 46 0 u) - 1)] dX12_write_35 ml_X12_65 ok_X12_in st_X12_in rfl (Nat.le_of_ble_eq_true rfl) ?_
      refine c_X12_in (d := (d + 1)) y 0 ((h 46 0 u) - 1) (by omega) (by omega) (by omega) ?_
      show fwWP mX12_write (d + 2) 38 [some (aR 12 0), some (aI (u : Int)), some (aI y), some (aJ v), none] [aI (fwB (0 ≤ y ∧ y ≤ ((h 46 0 u) - 1)))] h Q
      refine w_ifB_ne 44 dX12_write_38 (by decide) (fun c38 => ?_) (fun c38 => ?_)
      · refine w_aload_n dX12_write_44 rfl ?_
        refine w_getr 48 0 dX12_write_45 fl_X12_53 rfl (by decide) ?_
        refine w_bipush dX12_write_48 rfl ?_
        refine w_iload_n dX12_write_50 rfl ?_
        refine w_imul dX12_write_51 ?_
        refine w_iload_n dX12_write_52 rfl ?_
        refine w_iadd dX12_write_53 ?_
        refine w_lload_n dX12_write_54 rfl ?_
        refine w_aload_n dX12_write_55 rfl ?_
        refine w_getr 47 0 dX12_write_56 fl_X12_50 rfl (by decide) ?_
        refine w_iload_n dX12_write_59 rfl ?_
        refine w_ialdE (v := h 47 0 u) dX12_write_60 rfl (by decide) (by omega) (by omega) rfl ?_
        refine w_callS (d := d + 1) (S := [aI ((60 * (u : Int)) + y), aR 48 0]) [aJ v, aI (h 47 0 u)] dX12_write_61 ml_X12_407 ok_X12_cut st_X12_cut rfl (Nat.le_of_ble_eq_true rfl) ?_
        refine c_X12_cut (d := (d + 1)) v (h 47 0 u) ?_
        show fwWP mX12_write (d + 2) 64 [some (aR 12 0), some (aI (u : Int)), some (aI y), some (aJ v), none] [aJ (mdCut v (h 47 0 u)), aI ((60 * (u : Int)) + y), aR 48 0] h Q
        refine w_last dX12_write_64 rfl (by decide) (by omega) (by omega) ?_
        refine w_iconst dX12_write_65 ?_
        rw [show (60 * (u : Int) + y).toNat = 60 * u + y.toNat by omega]
        exact w_iretE dX12_write_66 rfl rfl (k.2.2.2 (by omega) (by show h 46 0 u ≠ -1; omega) (by show 0 ≤ y ∧ y < h 46 0 u; omega))
      · refine w_bipush dX12_write_41 rfl ?_
        exact w_iretE dX12_write_43 rfl rfl (k.2.2.1 (by omega) (by show h 46 0 u ≠ -1; omega) (by show ¬ (0 ≤ y ∧ y < h 46 0 u); omega))
    · refine w_bipush dX12_write_20 rfl ?_
      exact w_iretE dX12_write_22 rfl rfl (k.2.1 (by omega) (by show h 46 0 u = -1; omega))
  · refine w_bipush dX12_write_7 rfl ?_
    exact w_iretE dX12_write_9 rfl rfl (k.1 (by omega))
theorem mLaid_r (S : Nat → Int) : ∀ c : Nat, 0 ≤ mLaid S c ∧ mLaid S c ≤ c := by
  intro c
  induction c with
  | zero => simp [mLaid]
  | succ c ih => rw [mLaid]; split <;> omega
set_option maxRecDepth 100000 in
set_option maxHeartbeats 4000000 in
theorem c_X12_count {d : Nat} {h gg : fwH} {Q : Option fwV → fwH → Prop} (x : Int) (J : cOk gg) (R : jF gg h) (S : jS gg h) (T5 : h 12 0 5 = gg 1 0 1) (hx : -2147483648 ≤ x ∧ x < 2147483648) (k : Q (some (aI (an_count gg x))) h) : fwCt mX12_count (d + 1) [aR 12 0, aI x] h Q := by
  refine fwCt_of [some (aR 12 0), some (aI x), none, none] rfl rfl rfl ?_
  obtain ⟨hl, hP, hG, -, -, -, hlw, -, ha, hs, -, hsc⟩ := id J
  obtain ⟨⟨g1, g2⟩, ⟨g3, g4⟩, ⟨g5, g6⟩, g7, -⟩ := id hG
  have hpz := hP.1
  refine w_iconst dX12_count_0 ?_
  refine w_istore_n [some (aR 12 0), some (aI x), some (aI 0), none] dX12_count_1 rfl (by decide) ?_
  refine w_iload_n dX12_count_2 rfl ?_
  rcases (show x = 0 ∨ x = 1 ∨ x = 2 ∨ x = 3 ∨ x = 4 ∨ x = 5 ∨ x = 6 ∨ x = 7 ∨ x = 8 ∨ x = 9 ∨ (x < 0 ∨ 9 < x) by omega) with rfl | rfl | rfl | rfl | rfl | rfl | rfl | rfl | rfl | rfl | hc9
  · refine w_tabIn (off := 53) 56 dX12_count_3 (by omega) (by omega) (by omega) rfl (by decide) ?_
    refine w_aload_n dX12_count_56 rfl ?_
    refine w_getr 36 0 dX12_count_57 fl_X12_9 rfl (by decide) ?_
    refine w_iconst dX12_count_60 ?_
    refine w_ialdE (v := gg 4 0 1) dX12_count_61 rfl (by decide) (by omega) (by omega) R.1 ?_
    exact w_iretE dX12_count_62 rfl (by rfl) k
  · refine w_tabIn (off := 60) 63 dX12_count_3 (by omega) (by omega) (by omega) rfl (by decide) ?_
    refine w_aload_n dX12_count_63 rfl ?_
    refine w_getr 36 0 dX12_count_64 fl_X12_9 rfl (by decide) ?_
    refine w_bipush dX12_count_67 rfl ?_
    refine w_ialdE (v := gg 5 0 3) dX12_count_69 rfl (by decide) (by omega) (by omega) R.2.2.2.2.2.2.1 ?_
    exact w_iretE dX12_count_70 rfl (by rfl) k
  · refine w_tabIn (off := 68) 71 dX12_count_3 (by omega) (by omega) (by omega) rfl (by decide) ?_
    refine w_aload_n dX12_count_71 rfl ?_
    refine w_getr 36 0 dX12_count_72 fl_X12_9 rfl (by decide) ?_
    refine w_iconst dX12_count_75 ?_
    refine w_ialdE (v := gg 4 0 2) dX12_count_76 rfl (by decide) (by omega) (by omega) R.2.1 ?_
    exact w_iretE dX12_count_77 rfl (by rfl) k
  · refine w_tabIn (off := 75) 78 dX12_count_3 (by omega) (by omega) (by omega) rfl (by decide) ?_
    refine w_aload_n dX12_count_78 rfl ?_
    refine w_getr 36 0 dX12_count_79 fl_X12_9 rfl (by decide) ?_
    refine w_iconst dX12_count_82 ?_
    refine w_ialdE (v := gg 4 0 3) dX12_count_83 rfl (by decide) (by omega) (by omega) R.2.2.1 ?_
    exact w_iretE dX12_count_84 rfl (by rfl) k
  · refine w_tabIn (off := 82) 85 dX12_count_3 (by omega) (by omega) (by omega) rfl (by decide) ?_
    refine w_aload_n dX12_count_85 rfl ?_
    refine w_getr 36 0 dX12_count_86 fl_X12_9 rfl (by decide) ?_
    refine w_iconst dX12_count_89 ?_
    refine w_ialdE (v := gg 3 0 4) dX12_count_90 rfl (by decide) (by omega) (by omega) R.2.2.2.1 ?_
    exact w_iretE dX12_count_91 rfl (by rfl) k
  · refine w_tabIn (off := 89) 92 dX12_count_3 (by omega) (by omega) (by omega) rfl (by decide) ?_
    refine w_aload_n dX12_count_92 rfl ?_
    refine w_getr 36 0 dX12_count_93 fl_X12_9 rfl (by decide) ?_
    refine w_iconst dX12_count_96 ?_
    refine w_ialdE (v := gg 3 0 5) dX12_count_97 rfl (by decide) (by omega) (by omega) R.2.2.2.2.2.1 ?_
    exact w_iretE dX12_count_98 rfl (by rfl) k
  · refine w_tabIn (off := 96) 99 dX12_count_3 (by omega) (by omega) (by omega) rfl (by decide) ?_
    refine w_aload_n dX12_count_99 rfl ?_
    refine w_getr 36 0 dX12_count_100 fl_X12_9 rfl (by decide) ?_
    refine w_bipush dX12_count_103 rfl ?_
    refine w_ialdE (v := gg 3 0 6) dX12_count_105 rfl (by decide) (by omega) (by omega) R.2.2.2.2.2.2.2.1 ?_
    exact w_iretE dX12_count_106 rfl (by rfl) k
  · refine w_tabIn (off := 104) 107 dX12_count_3 (by omega) (by omega) (by omega) rfl (by decide) ?_
    refine w_aload_n dX12_count_107 rfl ?_
    refine w_getiE (v := gg 1 0 1) dX12_count_108 fl_X12_81 rfl (by decide) T5 ?_
    exact w_iretE dX12_count_111 rfl (by rfl) k
  · refine w_tabIn (off := 109) 112 dX12_count_3 (by omega) (by omega) (by omega) rfl (by decide) ?_
    refine w_aload_n dX12_count_112 rfl ?_
    refine w_getr 36 0 dX12_count_113 fl_X12_9 rfl (by decide) ?_
    refine w_bipush dX12_count_116 rfl ?_
    refine w_ialdE (v := gg 3 0 3) dX12_count_118 rfl (by decide) (by omega) (by omega) R.2.2.2.2.2.2.2.2.1 ?_
    exact w_iretE dX12_count_119 rfl (by rfl) k
  · refine w_tabIn (off := 117) 120 dX12_count_3 (by omega) (by omega) (by omega) rfl (by decide) ?_
    refine w_iconst dX12_count_120 ?_
    refine w_istore_n [some (aR 12 0), some (aI 9), some (aI 0), some (aI 0)] dX12_count_121 rfl (by decide) ?_
    have lp122 : ∀ c : Nat, c ≤ 4 → ∀ (y122 nv : Int), y122 = (c : Int) → nv = mLaid (gg 35 0) c → fwWP mX12_count (d + 1) 122 [some (aR 12 0), some (aI 9), some (aI nv), some (aI y122)] [] h Q := by
      refine fw_up (fun c hc122 ih122 => ?_)
      intro y122 nv ey122 e_nv
      subst ey122
      subst e_nv
      show fwWP mX12_count (d + 1) 122 [some (aR 12 0), some (aI 9), some (aI (mLaid (gg 35 0) c)), some (aI (c : Int))] [] h Q
      refine w_iload_n dX12_count_122 rfl ?_
      refine w_iconst dX12_count_123 ?_
      refine w_icmp_ge 151 dX12_count_124 (by decide) (by omega) (by omega) (fun c124 => ?_) (fun c124 => ?_)
      · have ec122 : 4 = c := by omega
        subst ec122
        refine w_iload_n dX12_count_151 rfl ?_
        exact w_iretE dX12_count_152 rfl (by rfl) k
      · have hlr := mLaid_r (gg 35 0) c
        have hsz := (hs c (by omega)).1
        refine w_iload_n dX12_count_127 rfl ?_
        refine w_aload_n dX12_count_128 rfl ?_
        refine w_getr 46 0 dX12_count_129 fl_X12_47 rfl (by decide) ?_
        refine w_iload_n dX12_count_132 rfl ?_
        refine w_ialdE (v := gg 35 0 c) dX12_count_133 rfl (by decide) (by omega) (by omega) (S c (by omega)).1 ?_
        refine w_iconst dX12_count_134 ?_
        refine w_icmp_ne 142 dX12_count_135 (by decide) (by omega) (by omega) (fun c135 => ?_) (fun c135 => ?_)
        · refine w_iconst dX12_count_142 ?_
          refine w_iadd dX12_count_143 ?_
          refine w_istore_n [some (aR 12 0), some (aI 9), some (aI ((mLaid (gg 35 0) c) + 1)), some (aI (c : Int))] dX12_count_144 rfl (by decide) ?_
          refine w_iinc [some (aR 12 0), some (aI 9), some (aI ((mLaid (gg 35 0) c) + 1)), some (aI ((c : Int) + 1))] dX12_count_145 rfl rfl (by decide) ?_
          refine w_goto 122 dX12_count_148 (by decide) ?_
          refine ih122 (by omega) _ _ ?_ ?_
          · exact (by omega)
          · exact (by rw [mLaid, if_pos (by omega)])
        · refine w_iconst dX12_count_138 ?_
          refine w_goto 143 dX12_count_139 (by decide) ?_
          refine w_iadd dX12_count_143 ?_
          refine w_istore_n [some (aR 12 0), some (aI 9), some (aI ((mLaid (gg 35 0) c) + 0)), some (aI (c : Int))] dX12_count_144 rfl (by decide) ?_
          refine w_iinc [some (aR 12 0), some (aI 9), some (aI ((mLaid (gg 35 0) c) + 0)), some (aI ((c : Int) + 1))] dX12_count_145 rfl rfl (by decide) ?_
          refine w_goto 122 dX12_count_148 (by decide) ?_
          refine ih122 (by omega) _ _ ?_ ?_
          · exact (by omega)
          · exact (by rw [mLaid, if_neg (by omega)]; omega)
    refine lp122 0 (Nat.zero_le _) _ _ ?_ ?_
    · exact (by omega)
    · exact rfl
  · refine w_tabOut 153 dX12_count_3 (by omega) (by omega) (by decide) ?_
    refine w_iconst dX12_count_153 ?_
    exact w_iretE dX12_count_154 rfl (by unfold an_count; rw [if_neg (by omega)]; rw [if_neg (by omega)]; rw [if_neg (by omega)]; rw [if_neg (by omega)]; rw [if_neg (by omega)]; rw [if_neg (by omega)]; rw [if_neg (by omega)]; rw [if_neg (by omega)]; rw [if_neg (by omega)]; rw [if_neg (by omega)]) k

set_option maxRecDepth 100000 in
set_option maxHeartbeats 4000000 in
theorem c_X11_isHour {d : Nat} {h : fwH} {Q : Option fwV → fwH → Prop} (x : Int) (hx : -2147483648 ≤ x ∧ x < 2147483648) (k : Q (some (aI (fwB (x ≠ 0 ∧ -9 ≤ x ∧ x ≤ 9)))) h) : fwCt mX11_isHour (d + 0) [aI x] h Q := by
  refine fwCt_of [some (aI x)] rfl rfl rfl ?_
  refine w_iload_n dX11_isHour_0 rfl ?_
  refine w_if_eq 20 dX11_isHour_1 (by decide) (by omega) (fun c1 => ?_) (fun c1 => ?_)
  · refine w_iconst dX11_isHour_20 ?_
    exact w_zretE dX11_isHour_21 rfl (by first | (exfalso; omega) | (rw [fwB_t (by omega)]) | (rw [fwB_f (by omega)])) k
  · refine w_iload_n dX11_isHour_4 rfl ?_
    refine w_bipush dX11_isHour_5 rfl ?_
    refine w_icmp_lt 20 dX11_isHour_7 (by decide) (by omega) (by omega) (fun c7 => ?_) (fun c7 => ?_)
    · refine w_iconst dX11_isHour_20 ?_
      exact w_zretE dX11_isHour_21 rfl (by first | (exfalso; omega) | (rw [fwB_t (by omega)]) | (rw [fwB_f (by omega)])) k
    · refine w_iload_n dX11_isHour_10 rfl ?_
      refine w_bipush dX11_isHour_11 rfl ?_
      refine w_icmp_gt 20 dX11_isHour_13 (by decide) (by omega) (by omega) (fun c13 => ?_) (fun c13 => ?_)
      · refine w_iconst dX11_isHour_20 ?_
        exact w_zretE dX11_isHour_21 rfl (by first | (exfalso; omega) | (rw [fwB_t (by omega)]) | (rw [fwB_f (by omega)])) k
      · refine w_iconst dX11_isHour_16 ?_
        refine w_goto 21 dX11_isHour_17 (by decide) ?_
        exact w_zretE dX11_isHour_21 rfl (by first | (exfalso; omega) | (rw [fwB_t (by omega)]) | (rw [fwB_f (by omega)])) k
def an_folk (h : fwH) (x : Int) (y : Int) : Int := if (0 ≤ x ∧ x < h 5 0 3) ∧ 0 ≤ y ∧ y < 7 then h 18 0 (7 * x.toNat + y.toNat) else -2
set_option maxRecDepth 100000 in
set_option maxHeartbeats 4000000 in
theorem c_X11_folk {d : Nat} {h : fwH} {Q : Option fwV → fwH → Prop} (x : Int) (y : Int) (J : cOk h) (hx : -2147483648 ≤ x ∧ x < 2147483648) (hy : -2147483648 ≤ y ∧ y < 2147483648) (k : ∀ g, scr h g → Q (some (aI (an_folk h x y))) g) : fwCt mX11_folk (d + 1) [aR 0 0, aI x, aI y] h Q := by
  refine fwCt_of [some (aR 0 0), some (aI x), some (aI y)] rfl rfl rfl ?_
  obtain ⟨hl, hP, hG, hM0, htd, hut, hlw, hhc, ha, hs, hT, hsc⟩ := id J
  have hM : ∀ c : Nat, c < 10 → h 17 0 c ≤ 999 := fun c hc => by have := hM0 c hc; omega
  have hM9 : ∀ c : Nat, c < 10 → 0 ≤ h 17 0 c ∧ h 17 0 c ≤ 900 := fun c hc => by have := hM0 c hc; omega
  obtain ⟨⟨g1, g2⟩, ⟨g3, g4⟩, ⟨g5, g6⟩, g7, g8⟩ := id hG
  have hpz := hP.1
  refine w_aload_n dX11_folk_0 rfl ?_
  refine w_getr 3 0 dX11_folk_1 fl_X11_28 rfl (by decide) ?_
  refine w_getr 5 0 dX11_folk_4 fl_X11_126 rfl (by decide) ?_
  refine w_iload_n dX11_folk_7 rfl ?_
  refine w_callV (d := d + 0) (S := []) [aI x] dX11_folk_8 ml_X11_130 ok_X3_has vi_X3_has rfl rfl (by decide) rfl (Nat.le_of_ble_eq_true rfl) ?_
  refine c_X3_has (d := d) 0 x (by decide) (by first | assumption | omega | decide) (by first | assumption | omega | decide) ?_
  show fwWP mX11_folk (d + 1) 11 [some (aR 0 0), some (aI x), some (aI y)] [aI (fwB (0 ≤ x ∧ x < h 5 0 3))] h Q
  refine w_ifB_eq 24 dX11_folk_11 (by decide) (fun c11 => ?_) (fun c11 => ?_)
  · refine w_bipush dX11_folk_24 rfl ?_
    exact w_iretE dX11_folk_26 rfl (by unfold an_folk; first | (rw [if_pos (by omega)]; done) | (rw [if_neg (by omega)]; done) | (rw [if_pos (by omega)]; first | rfl | omega) | (rw [if_neg (by omega)]; first | rfl | omega)) (k _ (scr_rf hsc))
  · refine w_iload_n dX11_folk_14 rfl ?_
    refine w_if_lt 24 dX11_folk_15 (by decide) (by omega) (fun c15 => ?_) (fun c15 => ?_)
    · refine w_bipush dX11_folk_24 rfl ?_
      exact w_iretE dX11_folk_26 rfl (by unfold an_folk; first | (rw [if_pos (by omega)]; done) | (rw [if_neg (by omega)]; done) | (rw [if_pos (by omega)]; first | rfl | omega) | (rw [if_neg (by omega)]; first | rfl | omega)) (k _ (scr_rf hsc))
    · refine w_iload_n dX11_folk_18 rfl ?_
      refine w_bipush dX11_folk_19 rfl ?_
      refine w_icmp_lt 27 dX11_folk_21 (by decide) (by omega) (by omega) (fun c21 => ?_) (fun c21 => ?_)
      · refine w_aload_n dX11_folk_27 rfl ?_
        refine w_getr 3 0 dX11_folk_28 fl_X11_28 rfl (by decide) ?_
        refine w_getr 5 0 dX11_folk_31 fl_X11_126 rfl (by decide) ?_
        refine w_iload_n dX11_folk_34 rfl ?_
        refine w_iload_n dX11_folk_35 rfl ?_
        obtain ⟨f, rfl⟩ : ∃ f : Nat, x = (f : Int) := ⟨x.toNat, by omega⟩
        obtain ⟨u, rfl⟩ : ∃ u : Nat, y = (u : Int) := ⟨y.toNat, by omega⟩
        refine w_callV (d := d + 0) (S := []) [aI (f : Int), aI (u : Int)] dX11_folk_36 ml_X11_135 ok_X3_fact vi_X3_fact rfl rfl (by decide) rfl (Nat.le_of_ble_eq_true rfl) ?_
        refine c_X3_fact (d := d) 0 f u (by decide) (by omega) (by omega) ?_
        show fwWP mX11_folk (d + 1) 39 [some (aR 0 0), some (aI (f : Int)), some (aI (u : Int))] [aI (h 18 0 (7 * f + u))] h Q
        exact w_iretE dX11_folk_39 rfl (by unfold an_folk; first | (rw [if_pos (by omega)]; done) | (rw [if_neg (by omega)]; done) | (rw [if_pos (by omega)]; first | rfl | omega) | (rw [if_neg (by omega)]; first | rfl | omega)) (k _ (scr_rf hsc))
      · refine w_bipush dX11_folk_24 rfl ?_
        exact w_iretE dX11_folk_26 rfl (by unfold an_folk; first | (rw [if_pos (by omega)]; done) | (rw [if_neg (by omega)]; done) | (rw [if_pos (by omega)]; first | rfl | omega) | (rw [if_neg (by omega)]; first | rfl | omega)) (k _ (scr_rf hsc))
def an_height (h : fwH) (x : Int) : Int := if 0 ≤ x ∧ x < h 4 0 1 then hOf (h 4 0 1) (h 17 0) x else -2
set_option maxRecDepth 100000 in
set_option maxHeartbeats 4000000 in
theorem c_X11_height {d : Nat} {h : fwH} {Q : Option fwV → fwH → Prop} (x : Int) (J : cOk h) (hx : -2147483648 ≤ x ∧ x < 2147483648) (k : ∀ g, scr h g → Q (some (aI (an_height h x))) g) : fwCt mX11_height (d + 1) [aR 0 0, aI x] h Q := by
  refine fwCt_of [some (aR 0 0), some (aI x)] rfl rfl rfl ?_
  obtain ⟨hl, hP, hG, hM0, htd, hut, hlw, hhc, ha, hs, hT, hsc⟩ := id J
  have hM : ∀ c : Nat, c < 10 → h 17 0 c ≤ 999 := fun c hc => by have := hM0 c hc; omega
  have hM9 : ∀ c : Nat, c < 10 → 0 ≤ h 17 0 c ∧ h 17 0 c ≤ 900 := fun c hc => by have := hM0 c hc; omega
  obtain ⟨⟨g1, g2⟩, ⟨g3, g4⟩, ⟨g5, g6⟩, g7, g8⟩ := id hG
  have hpz := hP.1
  refine w_aload_n dX11_height_0 rfl ?_
  refine w_getr 3 0 dX11_height_1 fl_X11_28 rfl (by decide) ?_
  refine w_getr 4 0 dX11_height_4 fl_X11_139 rfl (by decide) ?_
  refine w_iload_n dX11_height_7 rfl ?_
  refine w_callV (d := d + 0) (S := []) [aI x] dX11_height_8 ml_X11_142 ok_X1_has vi_X1_has rfl rfl (by decide) rfl (Nat.le_of_ble_eq_true rfl) ?_
  refine c_X1_has (d := d) 0 x (by decide) (by first | assumption | omega | decide) (by first | assumption | omega | decide) ?_
  show fwWP mX11_height (d + 1) 11 [some (aR 0 0), some (aI x)] [aI (fwB (0 ≤ x ∧ x < h 4 0 1))] h Q
  refine w_ifB_eq 28 dX11_height_11 (by decide) (fun c11 => ?_) (fun c11 => ?_)
  · refine w_bipush dX11_height_28 rfl ?_
    exact w_iretE dX11_height_30 rfl (by unfold an_height; first | (rw [if_pos (by omega)]; done) | (rw [if_neg (by omega)]; done) | (rw [if_pos (by omega)]; first | rfl | omega) | (rw [if_neg (by omega)]; first | rfl | omega)) (k _ (scr_rf hsc))
  · refine w_aload_n dX11_height_14 rfl ?_
    refine w_getr 3 0 dX11_height_15 fl_X11_28 rfl (by decide) ?_
    refine w_getr 4 0 dX11_height_18 fl_X11_139 rfl (by decide) ?_
    refine w_iload_n dX11_height_21 rfl ?_
    refine w_callV (d := d + 0) (S := []) [aI x] dX11_height_22 ml_X11_143 ok_X1_heightOf vi_X1_heightOf rfl rfl (by decide) rfl (Nat.le_of_ble_eq_true rfl) ?_
    refine c_X1_heightOf (d := d) 0 x (by decide) (by first | assumption | omega | decide) (by first | assumption | omega | decide) ?_
    show fwWP mX11_height (d + 1) 25 [some (aR 0 0), some (aI x)] [aI (hOf (h 4 0 1) (h 17 0) x)] h Q
    have hb2 := hOf_rng (n := (h 4 0 1)) (H := (h 17 0)) (b := 1000) (by omega) (by omega) (by assumption) x
    refine w_goto 30 dX11_height_25 (by decide) ?_
    exact w_iretE dX11_height_30 rfl (by unfold an_height; first | (rw [if_pos (by omega)]; done) | (rw [if_neg (by omega)]; done) | (rw [if_pos (by omega)]; first | rfl | omega) | (rw [if_neg (by omega)]; first | rfl | omega)) (k _ (scr_rf hsc))
def an_shade (h : fwH) (x : Int) (y : Int) : Int := if (0 ≤ x ∧ x < h 4 0 1) ∧ (y ≠ 0 ∧ -9 ≤ y ∧ y ≤ 9) then (if mShadeB (h 4 0 1) (h 17 0) x y = true then 1 else 0) else -2
set_option maxRecDepth 100000 in
set_option maxHeartbeats 4000000 in
theorem c_X11_shade {d : Nat} {h : fwH} {Q : Option fwV → fwH → Prop} (x : Int) (y : Int) (J : cOk h) (hx : -2147483648 ≤ x ∧ x < 2147483648) (hy : -2147483648 ≤ y ∧ y < 2147483648) (k : ∀ g, scr h g → Q (some (aI (an_shade h x y))) g) : fwCt mX11_shade (d + 2) [aR 0 0, aI x, aI y] h Q := by
  refine fwCt_of [some (aR 0 0), some (aI x), some (aI y)] rfl rfl rfl ?_
  obtain ⟨hl, hP, hG, hM0, htd, hut, hlw, hhc, ha, hs, hT, hsc⟩ := id J
  have hM : ∀ c : Nat, c < 10 → h 17 0 c ≤ 999 := fun c hc => by have := hM0 c hc; omega
  have hM9 : ∀ c : Nat, c < 10 → 0 ≤ h 17 0 c ∧ h 17 0 c ≤ 900 := fun c hc => by have := hM0 c hc; omega
  obtain ⟨⟨g1, g2⟩, ⟨g3, g4⟩, ⟨g5, g6⟩, g7, g8⟩ := id hG
  have hpz := hP.1
  refine w_aload_n dX11_shade_0 rfl ?_
  refine w_getr 3 0 dX11_shade_1 fl_X11_28 rfl (by decide) ?_
  refine w_getr 4 0 dX11_shade_4 fl_X11_139 rfl (by decide) ?_
  refine w_iload_n dX11_shade_7 rfl ?_
  refine w_callV (d := d + 1) (S := []) [aI x] dX11_shade_8 ml_X11_142 ok_X1_has vi_X1_has rfl rfl (by decide) rfl (Nat.le_of_ble_eq_true rfl) ?_
  refine c_X1_has (d := (d + 1)) 0 x (by decide) (by first | assumption | omega | decide) (by first | assumption | omega | decide) ?_
  show fwWP mX11_shade (d + 2) 11 [some (aR 0 0), some (aI x), some (aI y)] [aI (fwB (0 ≤ x ∧ x < h 4 0 1))] h Q
  refine w_ifB_eq 21 dX11_shade_11 (by decide) (fun c11 => ?_) (fun c11 => ?_)
  · refine w_bipush dX11_shade_21 rfl ?_
    exact w_iretE dX11_shade_23 rfl (by unfold an_shade; first | (rw [if_pos (by omega), if_pos (by assumption)]; done) | (rw [if_pos (by omega), if_neg (by assumption)]; done) | (rw [if_neg (by omega)]; done)) (k _ (scr_rf hsc))
  · refine w_iload_n dX11_shade_14 rfl ?_
    refine w_callS (d := d + 1) (S := []) [aI y] dX11_shade_15 ml_X11_147 ok_X11_isHour st_X11_isHour rfl (Nat.le_of_ble_eq_true rfl) ?_
    refine c_X11_isHour (d := (d + 1)) y (by first | assumption | omega | decide) ?_
    show fwWP mX11_shade (d + 2) 18 [some (aR 0 0), some (aI x), some (aI y)] [aI (fwB (y ≠ 0 ∧ -9 ≤ y ∧ y ≤ 9))] h Q
    refine w_ifB_ne 24 dX11_shade_18 (by decide) (fun c18 => ?_) (fun c18 => ?_)
    · refine w_aload_n dX11_shade_24 rfl ?_
      refine w_getr 3 0 dX11_shade_25 fl_X11_28 rfl (by decide) ?_
      refine w_getr 4 0 dX11_shade_28 fl_X11_139 rfl (by decide) ?_
      refine w_iload_n dX11_shade_31 rfl ?_
      refine w_iload_n dX11_shade_32 rfl ?_
      refine w_callV (d := d + 1) (S := []) [aI x, aI y] dX11_shade_33 ml_X11_150 ok_X1_isShaded vi_X1_isShaded rfl rfl (by decide) rfl (Nat.le_of_ble_eq_true rfl) ?_
      refine c_X1_isShaded (d := d) 0 x y (by decide) (by first | assumption | omega | decide) (by first | assumption | omega | decide) (by first | assumption | omega | decide) ?_
      show fwWP mX11_shade (d + 2) 36 [some (aR 0 0), some (aI x), some (aI y)] [aI (fwB (mShadeB (h 4 0 1) (h 17 0) x y = true))] h Q
      refine w_ifB_eq 43 dX11_shade_36 (by decide) (fun c36 => ?_) (fun c36 => ?_)
      · refine w_iconst dX11_shade_43 ?_
        exact w_iretE dX11_shade_44 rfl (by unfold an_shade; first | (rw [if_pos (by omega), if_pos (by assumption)]; done) | (rw [if_pos (by omega), if_neg (by assumption)]; done) | (rw [if_neg (by omega)]; done)) (k _ (scr_rf hsc))
      · refine w_iconst dX11_shade_39 ?_
        refine w_goto 44 dX11_shade_40 (by decide) ?_
        exact w_iretE dX11_shade_44 rfl (by unfold an_shade; first | (rw [if_pos (by omega), if_pos (by assumption)]; done) | (rw [if_pos (by omega), if_neg (by assumption)]; done) | (rw [if_neg (by omega)]; done)) (k _ (scr_rf hsc))
    · refine w_bipush dX11_shade_21 rfl ?_
      exact w_iretE dX11_shade_23 rfl (by unfold an_shade; first | (rw [if_pos (by omega), if_pos (by assumption)]; done) | (rw [if_pos (by omega), if_neg (by assumption)]; done) | (rw [if_neg (by omega)]; done)) (k _ (scr_rf hsc))
def an_light (h : fwH) (x : Int) : Int := if 0 ≤ x ∧ x < h 4 0 1 then 18 - mSh (h 4 0 1) (h 17 0) x (-1) - mSh (h 4 0 1) (h 17 0) x 1 else -2
set_option maxRecDepth 100000 in
set_option maxHeartbeats 4000000 in
theorem c_X11_light {d : Nat} {h : fwH} {Q : Option fwV → fwH → Prop} (x : Int) (J : cOk h) (hx : -2147483648 ≤ x ∧ x < 2147483648) (k : ∀ g, scr h g → Q (some (aI (an_light h x))) g) : fwCt mX11_light (d + 2) [aR 0 0, aI x] h Q := by
  refine fwCt_of [some (aR 0 0), some (aI x)] rfl rfl rfl ?_
  obtain ⟨hl, hP, hG, hM0, htd, hut, hlw, hhc, ha, hs, hT, hsc⟩ := id J
  have hM : ∀ c : Nat, c < 10 → h 17 0 c ≤ 999 := fun c hc => by have := hM0 c hc; omega
  have hM9 : ∀ c : Nat, c < 10 → 0 ≤ h 17 0 c ∧ h 17 0 c ≤ 900 := fun c hc => by have := hM0 c hc; omega
  obtain ⟨⟨g1, g2⟩, ⟨g3, g4⟩, ⟨g5, g6⟩, g7, g8⟩ := id hG
  have hpz := hP.1
  refine w_aload_n dX11_light_0 rfl ?_
  refine w_getr 3 0 dX11_light_1 fl_X11_28 rfl (by decide) ?_
  refine w_getr 4 0 dX11_light_4 fl_X11_139 rfl (by decide) ?_
  refine w_iload_n dX11_light_7 rfl ?_
  refine w_callV (d := d + 1) (S := []) [aI x] dX11_light_8 ml_X11_142 ok_X1_has vi_X1_has rfl rfl (by decide) rfl (Nat.le_of_ble_eq_true rfl) ?_
  refine c_X1_has (d := (d + 1)) 0 x (by decide) (by first | assumption | omega | decide) (by first | assumption | omega | decide) ?_
  show fwWP mX11_light (d + 2) 11 [some (aR 0 0), some (aI x)] [aI (fwB (0 ≤ x ∧ x < h 4 0 1))] h Q
  refine w_ifB_eq 28 dX11_light_11 (by decide) (fun c11 => ?_) (fun c11 => ?_)
  · refine w_bipush dX11_light_28 rfl ?_
    exact w_iretE dX11_light_30 rfl (by unfold an_light; first | (rw [if_pos (by omega)]; done) | (rw [if_neg (by omega)]; done) | (rw [if_pos (by omega)]; first | rfl | omega) | (rw [if_neg (by omega)]; first | rfl | omega)) (k _ (scr_rf hsc))
  · refine w_aload_n dX11_light_14 rfl ?_
    refine w_getr 3 0 dX11_light_15 fl_X11_28 rfl (by decide) ?_
    refine w_getr 4 0 dX11_light_18 fl_X11_139 rfl (by decide) ?_
    refine w_iload_n dX11_light_21 rfl ?_
    refine w_callV (d := d + 1) (S := []) [aI x] dX11_light_22 ml_X11_154 ok_X1_lightOf vi_X1_lightOf rfl rfl (by decide) rfl (Nat.le_of_ble_eq_true rfl) ?_
    refine c_X1_lightOf (d := d) 0 x (by decide) (by first | assumption | omega | decide) (by first | assumption | omega | decide) ?_
    show fwWP mX11_light (d + 2) 25 [some (aR 0 0), some (aI x)] [aI (18 - mSh (h 4 0 1) (h 17 0) x (-1) - mSh (h 4 0 1) (h 17 0) x 1)] h Q
    have hs2 := mSh_rng (n := (h 4 0 1)) (H := (h 17 0)) (x := x) (st := -1) (by omega) (by assumption)
    have hs3 := mSh_rng (n := (h 4 0 1)) (H := (h 17 0)) (x := x) (st := 1) (by omega) (by assumption)
    refine w_goto 30 dX11_light_25 (by decide) ?_
    exact w_iretE dX11_light_30 rfl (by unfold an_light; first | (rw [if_pos (by omega)]; done) | (rw [if_neg (by omega)]; done) | (rw [if_pos (by omega)]; first | rfl | omega) | (rw [if_neg (by omega)]; first | rfl | omega)) (k _ (scr_rf hsc))
def an_dark (h : fwH) (x : Int) : Int := if 0 < h 3 0 6 ∧ (x ≠ 0 ∧ -9 ≤ x ∧ x ≤ 9) then mBits (fun c => mShadeB (h 4 0 1) (h 17 0) (c : Int) x) (h 4 0 1).toNat else -2
set_option maxRecDepth 100000 in
set_option maxHeartbeats 4000000 in
theorem c_X11_dark {d : Nat} {h : fwH} {Q : Option fwV → fwH → Prop} (x : Int) (J : cOk h) (hx : -2147483648 ≤ x ∧ x < 2147483648) (k : ∀ g, scr h g → Q (some (aI (an_dark h x))) g) : fwCt mX11_dark (d + 3) [aR 0 0, aI x] h Q := by
  refine fwCt_of [some (aR 0 0), some (aI x)] rfl rfl rfl ?_
  obtain ⟨hl, hP, hG, hM0, htd, hut, hlw, hhc, ha, hs, hT, hsc⟩ := id J
  have hM : ∀ c : Nat, c < 10 → h 17 0 c ≤ 999 := fun c hc => by have := hM0 c hc; omega
  have hM9 : ∀ c : Nat, c < 10 → 0 ≤ h 17 0 c ∧ h 17 0 c ≤ 900 := fun c hc => by have := hM0 c hc; omega
  obtain ⟨⟨g1, g2⟩, ⟨g3, g4⟩, ⟨g5, g6⟩, g7, g8⟩ := id hG
  have hpz := hP.1
  refine w_aload_n dX11_dark_0 rfl ?_
  refine w_getr 3 0 dX11_dark_1 fl_X11_28 rfl (by decide) ?_
  refine w_callV (d := d + 2) (S := []) [] dX11_dark_4 ml_X11_157 ok_X2_isTold vi_X2_isTold rfl rfl (by decide) rfl (Nat.le_of_ble_eq_true rfl) ?_
  refine c_X2_isTold (d := (d + 2)) (show 0 ≤ h 3 0 6 ∧ h 3 0 6 ≤ 1000 by first | assumption | omega | decide) ?_
  show fwWP mX11_dark (d + 3) 7 [some (aR 0 0), some (aI x)] [aI (fwB (0 < h 3 0 6))] h Q
  refine w_ifB_eq 31 dX11_dark_7 (by decide) (fun c7 => ?_) (fun c7 => ?_)
  · refine w_bipush dX11_dark_31 rfl ?_
    exact w_iretE dX11_dark_33 rfl (by unfold an_dark; first | (rw [if_pos (by omega)]; done) | (rw [if_neg (by omega)]; done) | (rw [if_pos (by omega)]; first | rfl | omega) | (rw [if_neg (by omega)]; first | rfl | omega)) (k _ (scr_rf hsc))
  · refine w_iload_n dX11_dark_10 rfl ?_
    refine w_callS (d := d + 2) (S := []) [aI x] dX11_dark_11 ml_X11_147 ok_X11_isHour st_X11_isHour rfl (Nat.le_of_ble_eq_true rfl) ?_
    refine c_X11_isHour (d := (d + 2)) x (by first | assumption | omega | decide) ?_
    show fwWP mX11_dark (d + 3) 14 [some (aR 0 0), some (aI x)] [aI (fwB (x ≠ 0 ∧ -9 ≤ x ∧ x ≤ 9))] h Q
    refine w_ifB_eq 31 dX11_dark_14 (by decide) (fun c14 => ?_) (fun c14 => ?_)
    · refine w_bipush dX11_dark_31 rfl ?_
      exact w_iretE dX11_dark_33 rfl (by unfold an_dark; first | (rw [if_pos (by omega)]; done) | (rw [if_neg (by omega)]; done) | (rw [if_pos (by omega)]; first | rfl | omega) | (rw [if_neg (by omega)]; first | rfl | omega)) (k _ (scr_rf hsc))
    · refine w_aload_n dX11_dark_17 rfl ?_
      refine w_getr 3 0 dX11_dark_18 fl_X11_28 rfl (by decide) ?_
      refine w_getr 4 0 dX11_dark_21 fl_X11_139 rfl (by decide) ?_
      refine w_iload_n dX11_dark_24 rfl ?_
      refine w_callV (d := d + 2) (S := []) [aI x] dX11_dark_25 ml_X11_160 ok_X1_shadedCells vi_X1_shadedCells rfl rfl (by decide) rfl (Nat.le_of_ble_eq_true rfl) ?_
      refine c_X1_shadedCells (d := d) 0 x (by decide) (by first | assumption | omega | decide) (by first | assumption | omega | decide) ?_
      show fwWP mX11_dark (d + 3) 28 [some (aR 0 0), some (aI x)] [aI (mBits (fun c => mShadeB (h 4 0 1) (h 17 0) (c : Int) x) (h 4 0 1).toNat)] h Q
      refine w_goto 33 dX11_dark_28 (by decide) ?_
      exact w_iretE dX11_dark_33 rfl (by unfold an_dark; first | (rw [if_pos (by omega)]; done) | (rw [if_neg (by omega)]; done) | (rw [if_pos (by omega)]; first | rfl | omega) | (rw [if_neg (by omega)]; first | rfl | omega)) (k _ (scr_rf hsc))
def an_snow (h : fwH)  : Int := if 0 < h 3 0 6 then mBits (fun c => decide (h 4 0 2 ≤ h 17 0 c)) (h 4 0 1).toNat else -2
set_option maxRecDepth 100000 in
set_option maxHeartbeats 4000000 in
theorem c_X11_snow {d : Nat} {h : fwH} {Q : Option fwV → fwH → Prop}  (J : cOk h)  (k : ∀ g, scr h g → Q (some (aI (an_snow h ))) g) : fwCt mX11_snow (d + 2) [aR 0 0] h Q := by
  refine fwCt_of [some (aR 0 0)] rfl rfl rfl ?_
  obtain ⟨hl, hP, hG, hM0, htd, hut, hlw, hhc, ha, hs, hT, hsc⟩ := id J
  have hM : ∀ c : Nat, c < 10 → h 17 0 c ≤ 999 := fun c hc => by have := hM0 c hc; omega
  have hM9 : ∀ c : Nat, c < 10 → 0 ≤ h 17 0 c ∧ h 17 0 c ≤ 900 := fun c hc => by have := hM0 c hc; omega
  obtain ⟨⟨g1, g2⟩, ⟨g3, g4⟩, ⟨g5, g6⟩, g7, g8⟩ := id hG
  have hpz := hP.1
  refine w_aload_n dX11_snow_0 rfl ?_
  refine w_getr 3 0 dX11_snow_1 fl_X11_28 rfl (by decide) ?_
  refine w_callV (d := d + 1) (S := []) [] dX11_snow_4 ml_X11_157 ok_X2_isTold vi_X2_isTold rfl rfl (by decide) rfl (Nat.le_of_ble_eq_true rfl) ?_
  refine c_X2_isTold (d := (d + 1)) (show 0 ≤ h 3 0 6 ∧ h 3 0 6 ≤ 1000 by first | assumption | omega | decide) ?_
  show fwWP mX11_snow (d + 2) 7 [some (aR 0 0)] [aI (fwB (0 < h 3 0 6))] h Q
  refine w_ifB_eq 23 dX11_snow_7 (by decide) (fun c7 => ?_) (fun c7 => ?_)
  · refine w_bipush dX11_snow_23 rfl ?_
    exact w_iretE dX11_snow_25 rfl (by unfold an_snow; first | (rw [if_pos (by omega)]; done) | (rw [if_neg (by omega)]; done) | (rw [if_pos (by omega)]; first | rfl | omega) | (rw [if_neg (by omega)]; first | rfl | omega)) (k _ (scr_rf hsc))
  · refine w_aload_n dX11_snow_10 rfl ?_
    refine w_getr 3 0 dX11_snow_11 fl_X11_28 rfl (by decide) ?_
    refine w_getr 4 0 dX11_snow_14 fl_X11_139 rfl (by decide) ?_
    refine w_callV (d := d + 1) (S := []) [] dX11_snow_17 ml_X11_163 ok_X1_snowyCells vi_X1_snowyCells rfl rfl (by decide) rfl (Nat.le_of_ble_eq_true rfl) ?_
    refine c_X1_snowyCells (d := d) 0  (by decide) (by first | assumption | omega | decide) ?_
    show fwWP mX11_snow (d + 2) 20 [some (aR 0 0)] [aI (mBits (fun c => decide ((h 4 0 2) ≤ (h 17 0) c)) (h 4 0 1).toNat)] h Q
    refine w_goto 25 dX11_snow_20 (by decide) ?_
    exact w_iretE dX11_snow_25 rfl (by unfold an_snow; first | (rw [if_pos (by omega)]; done) | (rw [if_neg (by omega)]; done) | (rw [if_pos (by omega)]; first | rfl | omega) | (rw [if_neg (by omega)]; first | rfl | omega)) (k _ (scr_rf hsc))
def an_top (h : fwH)  : Int := if 0 < h 3 0 6 then mTop (h 17 0) (h 4 0 4) (h 4 0 1).toNat else -2
set_option maxRecDepth 100000 in
set_option maxHeartbeats 4000000 in
theorem c_X11_top {d : Nat} {h : fwH} {Q : Option fwV → fwH → Prop}  (J : cOk h)  (k : ∀ g, scr h g → Q (some (aI (an_top h ))) g) : fwCt mX11_top (d + 2) [aR 0 0] h Q := by
  refine fwCt_of [some (aR 0 0)] rfl rfl rfl ?_
  obtain ⟨hl, hP, hG, hM0, htd, hut, hlw, hhc, ha, hs, hT, hsc⟩ := id J
  have hM : ∀ c : Nat, c < 10 → h 17 0 c ≤ 999 := fun c hc => by have := hM0 c hc; omega
  have hM9 : ∀ c : Nat, c < 10 → 0 ≤ h 17 0 c ∧ h 17 0 c ≤ 900 := fun c hc => by have := hM0 c hc; omega
  obtain ⟨⟨g1, g2⟩, ⟨g3, g4⟩, ⟨g5, g6⟩, g7, g8⟩ := id hG
  have hpz := hP.1
  refine w_aload_n dX11_top_0 rfl ?_
  refine w_getr 3 0 dX11_top_1 fl_X11_28 rfl (by decide) ?_
  refine w_callV (d := d + 1) (S := []) [] dX11_top_4 ml_X11_157 ok_X2_isTold vi_X2_isTold rfl rfl (by decide) rfl (Nat.le_of_ble_eq_true rfl) ?_
  refine c_X2_isTold (d := (d + 1)) (show 0 ≤ h 3 0 6 ∧ h 3 0 6 ≤ 1000 by first | assumption | omega | decide) ?_
  show fwWP mX11_top (d + 2) 7 [some (aR 0 0)] [aI (fwB (0 < h 3 0 6))] h Q
  refine w_ifB_eq 23 dX11_top_7 (by decide) (fun c7 => ?_) (fun c7 => ?_)
  · refine w_bipush dX11_top_23 rfl ?_
    exact w_iretE dX11_top_25 rfl (by unfold an_top; first | (rw [if_pos (by omega)]; done) | (rw [if_neg (by omega)]; done) | (rw [if_pos (by omega)]; first | rfl | omega) | (rw [if_neg (by omega)]; first | rfl | omega)) (k _ (scr_rf hsc))
  · refine w_aload_n dX11_top_10 rfl ?_
    refine w_getr 3 0 dX11_top_11 fl_X11_28 rfl (by decide) ?_
    refine w_getr 4 0 dX11_top_14 fl_X11_139 rfl (by decide) ?_
    refine w_callV (d := d + 1) (S := []) [] dX11_top_17 ml_X11_167 ok_X1_topCell vi_X1_topCell rfl rfl (by decide) rfl (Nat.le_of_ble_eq_true rfl) ?_
    refine c_X1_topCell (d := d) 0 (by decide) (by first | assumption | omega | decide) ?_
    show fwWP mX11_top (d + 2) 20 [some (aR 0 0)] [aI (mTop (h 17 0) (h 4 0 4) (h 4 0 1).toNat)] h Q
    refine w_goto 25 dX11_top_20 (by decide) ?_
    exact w_iretE dX11_top_25 rfl (by unfold an_top; first | (rw [if_pos (by omega)]; done) | (rw [if_neg (by omega)]; done) | (rw [if_pos (by omega)]; first | rfl | omega) | (rw [if_neg (by omega)]; first | rfl | omega)) (k _ (scr_rf hsc))
def an_gain (h : fwH) (x : Int) : Int := if 0 ≤ x ∧ x < h 5 0 3 then mGain (h 4 0 1) (h 17 0) (h 4 0 2) (h 18 0) x.toNat else -1000
set_option maxRecDepth 100000 in
set_option maxHeartbeats 4000000 in
theorem c_X11_gain {d : Nat} {h : fwH} {Q : Option fwV → fwH → Prop} (x : Int) (J : cOk h) (hx : -2147483648 ≤ x ∧ x < 2147483648) (k : ∀ g, scr h g → Q (some (aI (an_gain h x))) g) : fwCt mX11_gain (d + 4) [aR 0 0, aI x] h Q := by
  refine fwCt_of [some (aR 0 0), some (aI x)] rfl rfl rfl ?_
  obtain ⟨hl, hP, hG, hM0, htd, hut, hlw, hhc, ha, hs, hT, hsc⟩ := id J
  have hM : ∀ c : Nat, c < 10 → h 17 0 c ≤ 999 := fun c hc => by have := hM0 c hc; omega
  have hM9 : ∀ c : Nat, c < 10 → 0 ≤ h 17 0 c ∧ h 17 0 c ≤ 900 := fun c hc => by have := hM0 c hc; omega
  obtain ⟨⟨g1, g2⟩, ⟨g3, g4⟩, ⟨g5, g6⟩, g7, g8⟩ := id hG
  have hpz := hP.1
  refine w_aload_n dX11_gain_0 rfl ?_
  refine w_getr 3 0 dX11_gain_1 fl_X11_28 rfl (by decide) ?_
  refine w_getr 5 0 dX11_gain_4 fl_X11_126 rfl (by decide) ?_
  refine w_iload_n dX11_gain_7 rfl ?_
  refine w_callV (d := d + 3) (S := []) [aI x] dX11_gain_8 ml_X11_130 ok_X3_has vi_X3_has rfl rfl (by decide) rfl (Nat.le_of_ble_eq_true rfl) ?_
  refine c_X3_has (d := (d + 3)) 0 x (by decide) (by first | assumption | omega | decide) (by first | assumption | omega | decide) ?_
  show fwWP mX11_gain (d + 4) 11 [some (aR 0 0), some (aI x)] [aI (fwB (0 ≤ x ∧ x < h 5 0 3))] h Q
  refine w_ifB_eq 35 dX11_gain_11 (by decide) (fun c11 => ?_) (fun c11 => ?_)
  · refine w_sipush dX11_gain_35 rfl ?_
    exact w_iretE dX11_gain_38 rfl (by unfold an_gain; first | (rw [if_pos (by omega)]; done) | (rw [if_neg (by omega)]; done) | (rw [if_pos (by omega)]; first | rfl | omega) | (rw [if_neg (by omega)]; first | rfl | omega)) (k _ (scr_rf hsc))
  · refine w_aload_n dX11_gain_14 rfl ?_
    refine w_getr 3 0 dX11_gain_15 fl_X11_28 rfl (by decide) ?_
    refine w_getr 5 0 dX11_gain_18 fl_X11_126 rfl (by decide) ?_
    refine w_aload_n dX11_gain_21 rfl ?_
    refine w_getr 3 0 dX11_gain_22 fl_X11_28 rfl (by decide) ?_
    refine w_getr 4 0 dX11_gain_25 fl_X11_139 rfl (by decide) ?_
    refine w_iload_n dX11_gain_28 rfl ?_
    obtain ⟨f, rfl⟩ : ∃ f : Nat, x = (f : Int) := ⟨x.toNat, by omega⟩
    refine w_callV (d := d + 3) (S := []) [aR 4 0, aI (f : Int)] dX11_gain_29 ml_X11_170 ok_X3_gainOn vi_X3_gainOn rfl rfl (by decide) rfl (Nat.le_of_ble_eq_true rfl) ?_
    refine c_X3_gainOn (d := d) 0 0 f (by decide) (by decide) hP hG (show (f : Int) < h 5 0 3 by omega) ?_
    intro A29
    show fwWP mX11_gain (d + 4) 32 [some (aR 0 0), some (aI (f : Int))] [aI (mGain (h 4 0 1) (h 17 0) (h 4 0 2) (h 18 0) f)] (fwUc h 20 0 A29) Q
    refine w_goto 38 dX11_gain_32 (by decide) ?_
    exact w_iretE dX11_gain_38 rfl (by unfold an_gain; first | (rw [if_pos (by omega)]; done) | (rw [if_neg (by omega)]; done) | (rw [if_pos (by omega)]; first | rfl | omega) | (rw [if_neg (by omega)]; first | rfl | omega)) (k _ (scr_uc (scr_rf hsc) rfl (by decide) (by decide) (by decide)))
def an_hopes (h : fwH) (x : Int) (y : Int) : Int := if (0 ≤ x ∧ x < h 5 0 3) ∧ 0 ≤ y ∧ y ≤ 20 then mGain (h 4 0 1) (mLw h y.toNat) (h 4 0 2) (h 18 0) x.toNat - mGain (h 4 0 1) (h 17 0) (h 4 0 2) (h 18 0) x.toNat else -1000
set_option maxRecDepth 100000 in
set_option maxHeartbeats 4000000 in
theorem c_X11_hopes {d : Nat} {h : fwH} {Q : Option fwV → fwH → Prop} (x : Int) (y : Int) (J : cOk h) (hx : -2147483648 ≤ x ∧ x < 2147483648) (hy : -2147483648 ≤ y ∧ y < 2147483648) (k : ∀ g, scr h g → Q (some (aI (an_hopes h x y))) g) : fwCt mX11_hopes (d + 5) [aR 0 0, aI x, aI y] h Q := by
  refine fwCt_of [some (aR 0 0), some (aI x), some (aI y)] rfl rfl rfl ?_
  obtain ⟨hl, hP, hG, hM0, htd, hut, hlw, hhc, ha, hs, hT, hsc⟩ := id J
  have hM : ∀ c : Nat, c < 10 → h 17 0 c ≤ 999 := fun c hc => by have := hM0 c hc; omega
  have hM9 : ∀ c : Nat, c < 10 → 0 ≤ h 17 0 c ∧ h 17 0 c ≤ 900 := fun c hc => by have := hM0 c hc; omega
  obtain ⟨⟨g1, g2⟩, ⟨g3, g4⟩, ⟨g5, g6⟩, g7, g8⟩ := id hG
  have hpz := hP.1
  refine w_aload_n dX11_hopes_0 rfl ?_
  refine w_getr 3 0 dX11_hopes_1 fl_X11_28 rfl (by decide) ?_
  refine w_getr 5 0 dX11_hopes_4 fl_X11_126 rfl (by decide) ?_
  refine w_iload_n dX11_hopes_7 rfl ?_
  refine w_callV (d := d + 4) (S := []) [aI x] dX11_hopes_8 ml_X11_130 ok_X3_has vi_X3_has rfl rfl (by decide) rfl (Nat.le_of_ble_eq_true rfl) ?_
  refine c_X3_has (d := (d + 4)) 0 x (by decide) (by first | assumption | omega | decide) (by first | assumption | omega | decide) ?_
  show fwWP mX11_hopes (d + 5) 11 [some (aR 0 0), some (aI x), some (aI y)] [aI (fwB (0 ≤ x ∧ x < h 5 0 3))] h Q
  refine w_ifB_eq 24 dX11_hopes_11 (by decide) (fun c11 => ?_) (fun c11 => ?_)
  · refine w_sipush dX11_hopes_24 rfl ?_
    exact w_iretE dX11_hopes_27 rfl (by unfold an_hopes; first | (rw [if_pos (by omega)]; done) | (rw [if_neg (by omega)]; done) | (rw [if_pos (by omega)]; first | rfl | omega) | (rw [if_neg (by omega)]; first | rfl | omega)) (k _ (scr_rf hsc))
  · refine w_iload_n dX11_hopes_14 rfl ?_
    refine w_if_lt 24 dX11_hopes_15 (by decide) (by omega) (fun c15 => ?_) (fun c15 => ?_)
    · refine w_sipush dX11_hopes_24 rfl ?_
      exact w_iretE dX11_hopes_27 rfl (by unfold an_hopes; first | (rw [if_pos (by omega)]; done) | (rw [if_neg (by omega)]; done) | (rw [if_pos (by omega)]; first | rfl | omega) | (rw [if_neg (by omega)]; first | rfl | omega)) (k _ (scr_rf hsc))
    · refine w_iload_n dX11_hopes_18 rfl ?_
      refine w_bipush dX11_hopes_19 rfl ?_
      refine w_icmp_le 28 dX11_hopes_21 (by decide) (by omega) (by omega) (fun c21 => ?_) (fun c21 => ?_)
      · refine w_aload_n dX11_hopes_28 rfl ?_
        refine w_getr 9 0 dX11_hopes_29 fl_X11_82 rfl (by decide) ?_
        refine w_iload_n dX11_hopes_32 rfl ?_
        refine w_iload_n dX11_hopes_33 rfl ?_
        obtain ⟨f, rfl⟩ : ∃ f : Nat, x = (f : Int) := ⟨x.toNat, by omega⟩
        obtain ⟨u, rfl⟩ : ∃ u : Nat, y = (u : Int) := ⟨y.toNat, by omega⟩
        refine w_callV (d := d + 4) (S := []) [aI (f : Int), aI (u : Int)] dX11_hopes_34 ml_X11_174 ok_X0_gainAfter vi_X0_gainAfter rfl rfl (by decide) rfl (Nat.le_of_ble_eq_true rfl) ?_
        refine c_X0_gainAfter (d := d) f u hP hG (by omega) hM (by omega) (by omega) ?_
        intro A34 B34
        show fwWP mX11_hopes (d + 5) 37 [some (aR 0 0), some (aI (f : Int)), some (aI (u : Int))] [aI (mGain (h 4 0 1) (mLw h u) (h 4 0 2) (h 18 0) f)] (fwUc (fwUc (fwUc (fwUc h 4 5 (h 4 0)) 17 5 (mLw h u)) 19 0 A34) 20 0 B34) Q
        refine w_aload_n dX11_hopes_37 rfl ?_
        refine w_getr 3 0 dX11_hopes_38 fl_X11_28 rfl (by decide) ?_
        refine w_getr 5 0 dX11_hopes_41 fl_X11_126 rfl (by decide) ?_
        refine w_aload_n dX11_hopes_44 rfl ?_
        refine w_getr 3 0 dX11_hopes_45 fl_X11_28 rfl (by decide) ?_
        refine w_getr 4 0 dX11_hopes_48 fl_X11_139 rfl (by decide) ?_
        refine w_iload_n dX11_hopes_51 rfl ?_
        refine w_callV (d := d + 4) (S := [aI (mGain (h 4 0 1) (mLw h u) (h 4 0 2) (h 18 0) f)]) [aR 4 0, aI (f : Int)] dX11_hopes_52 ml_X11_170 ok_X3_gainOn vi_X3_gainOn rfl rfl (by decide) rfl (Nat.le_of_ble_eq_true rfl) ?_
        refine c_X3_gainOn (d := (d + 1)) 0 0 f (by decide) (by decide) hP hG (show (f : Int) < h 5 0 3 by omega) ?_
        intro A52
        show fwWP mX11_hopes (d + 5) 55 [some (aR 0 0), some (aI (f : Int)), some (aI (u : Int))] [aI (mGain (h 4 0 1) (h 17 0) (h 4 0 2) (h 18 0) f), aI (mGain (h 4 0 1) (mLw h u) (h 4 0 2) (h 18 0) f)] (fwUc (fwUc (fwUc (fwUc (fwUc h 4 5 (h 4 0)) 17 5 (mLw h u)) 19 0 A34) 20 0 B34) 20 0 A52) Q
        rw [show (fwUc (fwUc (fwUc (fwUc (fwUc h 4 5 (h 4 0)) 17 5 (mLw h u)) 19 0 A34) 20 0 B34) 20 0 A52) = (fwUc (fwUc (fwUc (fwUc h 4 5 (h 4 0)) 17 5 (mLw h u)) 19 0 A34) 20 0 A52) from by funext a b; simp only [fwUc]; (repeat' split); all_goals first | rfl | (exfalso; omega)]
        refine w_isub dX11_hopes_55 ?_
        exact w_iretE dX11_hopes_56 rfl (by unfold an_hopes; first | (rw [if_pos (by omega)]; done) | (rw [if_neg (by omega)]; done) | (rw [if_pos (by omega)]; first | rfl | omega) | (rw [if_neg (by omega)]; first | rfl | omega)) (k _ (scr_uc (scr_uc (scr_uc (scr_uc (scr_rf hsc) rfl (by decide) (by decide) (by decide)) rfl (by decide) (by decide) (by decide)) rfl (by decide) (by decide) (by decide)) rfl (by decide) (by decide) (by decide)))
      · refine w_sipush dX11_hopes_24 rfl ?_
        exact w_iretE dX11_hopes_27 rfl (by unfold an_hopes; first | (rw [if_pos (by omega)]; done) | (rw [if_neg (by omega)]; done) | (rw [if_pos (by omega)]; first | rfl | omega) | (rw [if_neg (by omega)]; first | rfl | omega)) (k _ (scr_rf hsc))
def an_wishes (h : fwH) (x : Int) : Int := if 0 ≤ x ∧ x < h 5 0 3 then (mWish h x.toNat 20).1 else -2
set_option maxRecDepth 100000 in
set_option maxHeartbeats 4000000 in
theorem c_X11_wishes {d : Nat} {h : fwH} {Q : Option fwV → fwH → Prop} (x : Int) (J : cOk h) (hx : -2147483648 ≤ x ∧ x < 2147483648) (k : ∀ g, scr h g → Q (some (aI (an_wishes h x))) g) : fwCt mX11_wishes (d + 5) [aR 0 0, aI x] h Q := by
  refine fwCt_of [some (aR 0 0), some (aI x)] rfl rfl rfl ?_
  obtain ⟨hl, hP, hG, hM0, htd, hut, hlw, hhc, ha, hs, hT, hsc⟩ := id J
  have hM : ∀ c : Nat, c < 10 → h 17 0 c ≤ 999 := fun c hc => by have := hM0 c hc; omega
  have hM9 : ∀ c : Nat, c < 10 → 0 ≤ h 17 0 c ∧ h 17 0 c ≤ 900 := fun c hc => by have := hM0 c hc; omega
  obtain ⟨⟨g1, g2⟩, ⟨g3, g4⟩, ⟨g5, g6⟩, g7, g8⟩ := id hG
  have hpz := hP.1
  refine w_aload_n dX11_wishes_0 rfl ?_
  refine w_getr 3 0 dX11_wishes_1 fl_X11_28 rfl (by decide) ?_
  refine w_getr 5 0 dX11_wishes_4 fl_X11_126 rfl (by decide) ?_
  refine w_iload_n dX11_wishes_7 rfl ?_
  refine w_callV (d := d + 4) (S := []) [aI x] dX11_wishes_8 ml_X11_130 ok_X3_has vi_X3_has rfl rfl (by decide) rfl (Nat.le_of_ble_eq_true rfl) ?_
  refine c_X3_has (d := (d + 4)) 0 x (by decide) (by first | assumption | omega | decide) (by first | assumption | omega | decide) ?_
  show fwWP mX11_wishes (d + 5) 11 [some (aR 0 0), some (aI x)] [aI (fwB (0 ≤ x ∧ x < h 5 0 3))] h Q
  refine w_ifB_eq 25 dX11_wishes_11 (by decide) (fun c11 => ?_) (fun c11 => ?_)
  · refine w_bipush dX11_wishes_25 rfl ?_
    exact w_iretE dX11_wishes_27 rfl (by unfold an_wishes; first | (rw [if_pos (by omega)]; done) | (rw [if_neg (by omega)]; done) | (rw [if_pos (by omega)]; first | rfl | omega) | (rw [if_neg (by omega)]; first | rfl | omega)) (k _ (scr_rf hsc))
  · refine w_aload_n dX11_wishes_14 rfl ?_
    refine w_getr 9 0 dX11_wishes_15 fl_X11_82 rfl (by decide) ?_
    refine w_iload_n dX11_wishes_18 rfl ?_
    obtain ⟨f, rfl⟩ : ∃ f : Nat, x = (f : Int) := ⟨x.toNat, by omega⟩
    refine w_callV (d := d + 4) (S := []) [aI (f : Int)] dX11_wishes_19 ml_X11_177 ok_X0_wishedFeet vi_X0_wishedFeet rfl rfl (by decide) rfl (Nat.le_of_ble_eq_true rfl) ?_
    refine c_X0_wishedFeet (d := d) f hP hG (by omega) hM (by omega) ?_
    intro A19 B19
    show fwWP mX11_wishes (d + 5) 22 [some (aR 0 0), some (aI (f : Int))] [aI ((mWish h f 20).1)] (fwUc (fwUc (fwUc (fwUc h 4 5 (h 4 0)) 17 5 (mLw h 20)) 19 0 A19) 20 0 B19) Q
    refine w_goto 27 dX11_wishes_22 (by decide) ?_
    exact w_iretE dX11_wishes_27 rfl (by unfold an_wishes; first | (rw [if_pos (by omega)]; done) | (rw [if_neg (by omega)]; done) | (rw [if_pos (by omega)]; first | rfl | omega) | (rw [if_neg (by omega)]; first | rfl | omega)) (k _ (scr_uc (scr_uc (scr_uc (scr_uc (scr_rf hsc) rfl (by decide) (by decide) (by decide)) rfl (by decide) (by decide) (by decide)) rfl (by decide) (by decide) (by decide)) rfl (by decide) (by decide) (by decide)))
def an_gains (h : fwH)  : Int := if 0 < h 3 0 6 then mSum (mGain (h 4 0 1) (h 17 0) (h 4 0 2) (h 18 0)) (h 5 0 3).toNat else -2
set_option maxRecDepth 100000 in
set_option maxHeartbeats 4000000 in
theorem c_X11_gains {d : Nat} {h : fwH} {Q : Option fwV → fwH → Prop}  (J : cOk h)  (k : ∀ g, scr h g → Q (some (aI (an_gains h ))) g) : fwCt mX11_gains (d + 4) [aR 0 0] h Q := by
  refine fwCt_of [some (aR 0 0)] rfl rfl rfl ?_
  obtain ⟨hl, hP, hG, hM0, htd, hut, hlw, hhc, ha, hs, hT, hsc⟩ := id J
  have hM : ∀ c : Nat, c < 10 → h 17 0 c ≤ 999 := fun c hc => by have := hM0 c hc; omega
  have hM9 : ∀ c : Nat, c < 10 → 0 ≤ h 17 0 c ∧ h 17 0 c ≤ 900 := fun c hc => by have := hM0 c hc; omega
  obtain ⟨⟨g1, g2⟩, ⟨g3, g4⟩, ⟨g5, g6⟩, g7, g8⟩ := id hG
  have hpz := hP.1
  refine w_aload_n dX11_gains_0 rfl ?_
  refine w_getr 3 0 dX11_gains_1 fl_X11_28 rfl (by decide) ?_
  refine w_callV (d := d + 3) (S := []) [] dX11_gains_4 ml_X11_157 ok_X2_isTold vi_X2_isTold rfl rfl (by decide) rfl (Nat.le_of_ble_eq_true rfl) ?_
  refine c_X2_isTold (d := (d + 3)) (show 0 ≤ h 3 0 6 ∧ h 3 0 6 ≤ 1000 by first | assumption | omega | decide) ?_
  show fwWP mX11_gains (d + 4) 7 [some (aR 0 0)] [aI (fwB (0 < h 3 0 6))] h Q
  refine w_ifB_eq 30 dX11_gains_7 (by decide) (fun c7 => ?_) (fun c7 => ?_)
  · refine w_bipush dX11_gains_30 rfl ?_
    exact w_iretE dX11_gains_32 rfl (by unfold an_gains; first | (rw [if_pos (by omega)]; done) | (rw [if_neg (by omega)]; done) | (rw [if_pos (by omega)]; first | rfl | omega) | (rw [if_neg (by omega)]; first | rfl | omega)) (k _ (scr_rf hsc))
  · refine w_aload_n dX11_gains_10 rfl ?_
    refine w_getr 3 0 dX11_gains_11 fl_X11_28 rfl (by decide) ?_
    refine w_getr 5 0 dX11_gains_14 fl_X11_126 rfl (by decide) ?_
    refine w_aload_n dX11_gains_17 rfl ?_
    refine w_getr 3 0 dX11_gains_18 fl_X11_28 rfl (by decide) ?_
    refine w_getr 4 0 dX11_gains_21 fl_X11_139 rfl (by decide) ?_
    refine w_callV (d := d + 3) (S := []) [aR 4 0] dX11_gains_24 ml_X11_180 ok_X3_gainsOn vi_X3_gainsOn rfl rfl (by decide) rfl (Nat.le_of_ble_eq_true rfl) ?_
    refine c_X3_gainsOn (d := d) 0 0 (by decide) (by decide) hP hG ?_
    intro A24
    show fwWP mX11_gains (d + 4) 27 [some (aR 0 0)] [aI (mSum (mGain (h 4 0 1) (h 17 0) (h 4 0 2) (h 18 0)) (h 5 0 3).toNat)] (fwUc h 20 0 A24) Q
    refine w_goto 32 dX11_gains_27 (by decide) ?_
    exact w_iretE dX11_gains_32 rfl (by unfold an_gains; first | (rw [if_pos (by omega)]; done) | (rw [if_neg (by omega)]; done) | (rw [if_pos (by omega)]; first | rfl | omega) | (rw [if_neg (by omega)]; first | rfl | omega)) (k _ (scr_uc (scr_rf hsc) rfl (by decide) (by decide) (by decide)))
def an_slides (h : fwH) (x : Int) : Int := if 0 ≤ x ∧ x < h 4 0 1 then mStay (h 4 0 1) (h 17 0) (h 4 0 3) x else -2
set_option maxRecDepth 100000 in
set_option maxHeartbeats 4000000 in
theorem c_X11_slides {d : Nat} {h : fwH} {Q : Option fwV → fwH → Prop} (x : Int) (J : cOk h) (hx : -2147483648 ≤ x ∧ x < 2147483648) (k : ∀ g, scr h g → Q (some (aI (an_slides h x))) g) : fwCt mX11_slides (d + 4) [aR 0 0, aI x] h Q := by
  refine fwCt_of [some (aR 0 0), some (aI x)] rfl rfl rfl ?_
  obtain ⟨hl, hP, hG, hM0, htd, hut, hlw, hhc, ha, hs, hT, hsc⟩ := id J
  have hM : ∀ c : Nat, c < 10 → h 17 0 c ≤ 999 := fun c hc => by have := hM0 c hc; omega
  have hM9 : ∀ c : Nat, c < 10 → 0 ≤ h 17 0 c ∧ h 17 0 c ≤ 900 := fun c hc => by have := hM0 c hc; omega
  obtain ⟨⟨g1, g2⟩, ⟨g3, g4⟩, ⟨g5, g6⟩, g7, g8⟩ := id hG
  have hpz := hP.1
  refine w_aload_n dX11_slides_0 rfl ?_
  refine w_getr 3 0 dX11_slides_1 fl_X11_28 rfl (by decide) ?_
  refine w_getr 4 0 dX11_slides_4 fl_X11_139 rfl (by decide) ?_
  refine w_iload_n dX11_slides_7 rfl ?_
  refine w_callV (d := d + 3) (S := []) [aI x] dX11_slides_8 ml_X11_142 ok_X1_has vi_X1_has rfl rfl (by decide) rfl (Nat.le_of_ble_eq_true rfl) ?_
  refine c_X1_has (d := (d + 3)) 0 x (by decide) (by first | assumption | omega | decide) (by first | assumption | omega | decide) ?_
  show fwWP mX11_slides (d + 4) 11 [some (aR 0 0), some (aI x)] [aI (fwB (0 ≤ x ∧ x < h 4 0 1))] h Q
  refine w_ifB_eq 28 dX11_slides_11 (by decide) (fun c11 => ?_) (fun c11 => ?_)
  · refine w_bipush dX11_slides_28 rfl ?_
    exact w_iretE dX11_slides_30 rfl (by unfold an_slides; first | (rw [if_pos (by omega)]; done) | (rw [if_neg (by omega)]; done) | (rw [if_pos (by omega)]; first | rfl | omega) | (rw [if_neg (by omega)]; first | rfl | omega)) (k _ (scr_rf hsc))
  · refine w_aload_n dX11_slides_14 rfl ?_
    refine w_getr 3 0 dX11_slides_15 fl_X11_28 rfl (by decide) ?_
    refine w_getr 4 0 dX11_slides_18 fl_X11_139 rfl (by decide) ?_
    refine w_iload_n dX11_slides_21 rfl ?_
    refine w_callV (d := d + 3) (S := []) [aI x] dX11_slides_22 ml_X11_194 ok_X1_stayOf vi_X1_stayOf rfl rfl (by decide) rfl (Nat.le_of_ble_eq_true rfl) ?_
    refine c_X1_stayOf (d := d) 0 x (by decide) (by first | assumption | omega | decide) (by first | assumption | omega | decide) ?_
    show fwWP mX11_slides (d + 4) 25 [some (aR 0 0), some (aI x)] [aI (mStay (h 4 0 1) (h 17 0) (h 4 0 3) x)] h Q
    refine w_goto 30 dX11_slides_25 (by decide) ?_
    exact w_iretE dX11_slides_30 rfl (by unfold an_slides; first | (rw [if_pos (by omega)]; done) | (rw [if_neg (by omega)]; done) | (rw [if_pos (by omega)]; first | rfl | omega) | (rw [if_neg (by omega)]; first | rfl | omega)) (k _ (scr_rf hsc))
def an_willing (h : fwH)  : Int := if 0 < h 3 0 6 then mWil h 0 else -2
set_option maxRecDepth 100000 in
set_option maxHeartbeats 4000000 in
theorem c_X11_willing {d : Nat} {h : fwH} {Q : Option fwV → fwH → Prop}  (J : cOk h)  (k : ∀ g, scr h g → Q (some (aI (an_willing h ))) g) : fwCt mX11_willing (d + 4) [aR 0 0] h Q := by
  refine fwCt_of [some (aR 0 0)] rfl rfl rfl ?_
  obtain ⟨hl, hP, hG, hM0, htd, hut, hlw, hhc, ha, hs, hT, hsc⟩ := id J
  have hM : ∀ c : Nat, c < 10 → h 17 0 c ≤ 999 := fun c hc => by have := hM0 c hc; omega
  have hM9 : ∀ c : Nat, c < 10 → 0 ≤ h 17 0 c ∧ h 17 0 c ≤ 900 := fun c hc => by have := hM0 c hc; omega
  obtain ⟨⟨g1, g2⟩, ⟨g3, g4⟩, ⟨g5, g6⟩, g7, g8⟩ := id hG
  have hpz := hP.1
  refine w_aload_n dX11_willing_0 rfl ?_
  refine w_getr 3 0 dX11_willing_1 fl_X11_28 rfl (by decide) ?_
  refine w_callV (d := d + 3) (S := []) [] dX11_willing_4 ml_X11_157 ok_X2_isTold vi_X2_isTold rfl rfl (by decide) rfl (Nat.le_of_ble_eq_true rfl) ?_
  refine c_X2_isTold (d := (d + 3)) (show 0 ≤ h 3 0 6 ∧ h 3 0 6 ≤ 1000 by first | assumption | omega | decide) ?_
  show fwWP mX11_willing (d + 4) 7 [some (aR 0 0)] [aI (fwB (0 < h 3 0 6))] h Q
  refine w_ifB_eq 31 dX11_willing_7 (by decide) (fun c7 => ?_) (fun c7 => ?_)
  · refine w_bipush dX11_willing_31 rfl ?_
    exact w_iretE dX11_willing_33 rfl (by unfold an_willing; first | (rw [if_pos (by omega)]; done) | (rw [if_neg (by omega)]; done) | (rw [if_pos (by omega)]; first | rfl | omega) | (rw [if_neg (by omega)]; first | rfl | omega)) (k _ (scr_rf hsc))
  · refine w_aload_n dX11_willing_10 rfl ?_
    refine w_getr 3 0 dX11_willing_11 fl_X11_28 rfl (by decide) ?_
    refine w_getr 5 0 dX11_willing_14 fl_X11_126 rfl (by decide) ?_
    refine w_aload_n dX11_willing_17 rfl ?_
    refine w_getr 3 0 dX11_willing_18 fl_X11_28 rfl (by decide) ?_
    refine w_getr 4 0 dX11_willing_21 fl_X11_139 rfl (by decide) ?_
    refine w_iconst dX11_willing_24 ?_
    refine w_callV (d := d + 3) (S := []) [aR 4 0, aI (-1)] dX11_willing_25 ml_X11_203 ok_X3_gainersBy vi_X3_gainersBy rfl rfl (by decide) rfl (Nat.le_of_ble_eq_true rfl) ?_
    refine c_X3_gainersBy0 (d := d) (-1) hP hG (by omega) hM (by omega) ?_
    intro A25 B25
    show fwWP mX11_willing (d + 4) 28 [some (aR 0 0)] [aI (mGers (h 4 0 1) (h 17 0) (h 4 0 2) (h 4 0 4) (h 18 0) (h 5 0 3).toNat (-1))] (fwUc (fwUc h 19 0 A25) 20 0 B25) Q
    refine w_goto 33 dX11_willing_28 (by decide) ?_
    exact w_iretE dX11_willing_33 rfl (by unfold an_willing; first | (rw [if_pos (by omega)]; done) | (rw [if_neg (by omega)]; done) | (rw [if_pos (by omega)]; first | rfl | omega) | (rw [if_neg (by omega)]; first | rfl | omega)) (k _ (scr_uc (scr_uc (scr_rf hsc) rfl (by decide) (by decide) (by decide)) rfl (by decide) (by decide) (by decide)))
def an_raisers (h : fwH)  : Int := if 0 < h 3 0 6 then mGers (h 4 0 1) (h 17 0) (h 4 0 2) (h 4 0 4) (h 18 0) (h 5 0 3).toNat 1 else -2
set_option maxRecDepth 100000 in
set_option maxHeartbeats 4000000 in
theorem c_X11_raisers {d : Nat} {h : fwH} {Q : Option fwV → fwH → Prop}  (J : cOk h)  (k : ∀ g, scr h g → Q (some (aI (an_raisers h ))) g) : fwCt mX11_raisers (d + 4) [aR 0 0] h Q := by
  refine fwCt_of [some (aR 0 0)] rfl rfl rfl ?_
  obtain ⟨hl, hP, hG, hM0, htd, hut, hlw, hhc, ha, hs, hT, hsc⟩ := id J
  have hM : ∀ c : Nat, c < 10 → h 17 0 c ≤ 999 := fun c hc => by have := hM0 c hc; omega
  have hM9 : ∀ c : Nat, c < 10 → 0 ≤ h 17 0 c ∧ h 17 0 c ≤ 900 := fun c hc => by have := hM0 c hc; omega
  obtain ⟨⟨g1, g2⟩, ⟨g3, g4⟩, ⟨g5, g6⟩, g7, g8⟩ := id hG
  have hpz := hP.1
  refine w_aload_n dX11_raisers_0 rfl ?_
  refine w_getr 3 0 dX11_raisers_1 fl_X11_28 rfl (by decide) ?_
  refine w_callV (d := d + 3) (S := []) [] dX11_raisers_4 ml_X11_157 ok_X2_isTold vi_X2_isTold rfl rfl (by decide) rfl (Nat.le_of_ble_eq_true rfl) ?_
  refine c_X2_isTold (d := (d + 3)) (show 0 ≤ h 3 0 6 ∧ h 3 0 6 ≤ 1000 by first | assumption | omega | decide) ?_
  show fwWP mX11_raisers (d + 4) 7 [some (aR 0 0)] [aI (fwB (0 < h 3 0 6))] h Q
  refine w_ifB_eq 31 dX11_raisers_7 (by decide) (fun c7 => ?_) (fun c7 => ?_)
  · refine w_bipush dX11_raisers_31 rfl ?_
    exact w_iretE dX11_raisers_33 rfl (by unfold an_raisers; first | (rw [if_pos (by omega)]; done) | (rw [if_neg (by omega)]; done) | (rw [if_pos (by omega)]; first | rfl | omega) | (rw [if_neg (by omega)]; first | rfl | omega)) (k _ (scr_rf hsc))
  · refine w_aload_n dX11_raisers_10 rfl ?_
    refine w_getr 3 0 dX11_raisers_11 fl_X11_28 rfl (by decide) ?_
    refine w_getr 5 0 dX11_raisers_14 fl_X11_126 rfl (by decide) ?_
    refine w_aload_n dX11_raisers_17 rfl ?_
    refine w_getr 3 0 dX11_raisers_18 fl_X11_28 rfl (by decide) ?_
    refine w_getr 4 0 dX11_raisers_21 fl_X11_139 rfl (by decide) ?_
    refine w_iconst dX11_raisers_24 ?_
    refine w_callV (d := d + 3) (S := []) [aR 4 0, aI 1] dX11_raisers_25 ml_X11_203 ok_X3_gainersBy vi_X3_gainersBy rfl rfl (by decide) rfl (Nat.le_of_ble_eq_true rfl) ?_
    refine c_X3_gainersBy0 (d := d) 1 hP hG (by omega) hM (by omega) ?_
    intro A25 B25
    show fwWP mX11_raisers (d + 4) 28 [some (aR 0 0)] [aI (mGers (h 4 0 1) (h 17 0) (h 4 0 2) (h 4 0 4) (h 18 0) (h 5 0 3).toNat 1)] (fwUc (fwUc h 19 0 A25) 20 0 B25) Q
    refine w_goto 33 dX11_raisers_28 (by decide) ?_
    exact w_iretE dX11_raisers_33 rfl (by unfold an_raisers; first | (rw [if_pos (by omega)]; done) | (rw [if_neg (by omega)]; done) | (rw [if_pos (by omega)]; first | rfl | omega) | (rw [if_neg (by omega)]; first | rfl | omega)) (k _ (scr_uc (scr_uc (scr_rf hsc) rfl (by decide) (by decide) (by decide)) rfl (by decide) (by decide) (by decide)))
def an_signers (h : fwH) (x : Int) : Int := if 0 < h 3 0 6 ∧ 0 ≤ x ∧ x < fwShl 1 (h 5 0 3) then mSign (h 18 0) (h 5 0 3).toNat (fwOr (mWil h 0) x) 0 else -2
set_option maxRecDepth 100000 in
set_option maxHeartbeats 4000000 in
theorem c_X11_signers {d : Nat} {h : fwH} {Q : Option fwV → fwH → Prop} (x : Int) (J : cOk h) (hx : -2147483648 ≤ x ∧ x < 2147483648) (k : ∀ g, scr h g → Q (some (aI (an_signers h x))) g) : fwCt mX11_signers (d + 5) [aR 0 0, aI x] h Q := by
  refine fwCt_of [some (aR 0 0), some (aI x)] rfl rfl rfl ?_
  obtain ⟨hl, hP, hG, hM0, htd, hut, hlw, hhc, ha, hs, hT, hsc⟩ := id J
  have hM : ∀ c : Nat, c < 10 → h 17 0 c ≤ 999 := fun c hc => by have := hM0 c hc; omega
  have hM9 : ∀ c : Nat, c < 10 → 0 ≤ h 17 0 c ∧ h 17 0 c ≤ 900 := fun c hc => by have := hM0 c hc; omega
  obtain ⟨⟨g1, g2⟩, ⟨g3, g4⟩, ⟨g5, g6⟩, g7, g8⟩ := id hG
  have hpz := hP.1
  refine w_aload_n dX11_signers_0 rfl ?_
  refine w_getr 3 0 dX11_signers_1 fl_X11_28 rfl (by decide) ?_
  refine w_iload_n dX11_signers_4 rfl ?_
  refine w_callV (d := d + 4) (S := []) [aI x] dX11_signers_5 ml_X11_206 ok_X2_hasSet vi_X2_hasSet rfl rfl (by decide) rfl (Nat.le_of_ble_eq_true rfl) ?_
  refine c_X2_hasSet (d := (d + 3)) x (by first | assumption | omega | decide) (by first | assumption | omega | decide) (by first | assumption | omega | decide) ?_
  show fwWP mX11_signers (d + 5) 8 [some (aR 0 0), some (aI x)] [aI (fwB (0 < h 3 0 6 ∧ 0 ≤ x ∧ x < fwShl 1 (h 5 0 3)))] h Q
  refine w_ifB_eq 22 dX11_signers_8 (by decide) (fun c8 => ?_) (fun c8 => ?_)
  · refine w_bipush dX11_signers_22 rfl ?_
    exact w_iretE dX11_signers_24 rfl (by unfold an_signers; first | (rw [if_pos (by omega)]; done) | (rw [if_neg (by omega)]; done) | (rw [if_pos (by omega)]; first | rfl | omega) | (rw [if_neg (by omega)]; first | rfl | omega)) (k _ (scr_rf hsc))
  · refine w_aload_n dX11_signers_11 rfl ?_
    refine w_getr 6 0 dX11_signers_12 fl_X11_59 rfl (by decide) ?_
    refine w_iload_n dX11_signers_15 rfl ?_
    refine w_callV (d := d + 4) (S := []) [aI x] dX11_signers_16 ml_X11_209 ok_X4_signersOfWon vi_X4_signersOfWon rfl rfl (by decide) rfl (Nat.le_of_ble_eq_true rfl) ?_
    refine c_X4_signersOfWon (d := d) x hP hG (by omega) hM ?_
    intro A16 B16
    show fwWP mX11_signers (d + 5) 19 [some (aR 0 0), some (aI x)] [aI (mSign (h 18 0) (h 5 0 3).toNat (fwOr (mWil h 0) x) 0)] (fwUc (fwUc h 19 0 A16) 20 0 B16) Q
    refine w_goto 24 dX11_signers_19 (by decide) ?_
    exact w_iretE dX11_signers_24 rfl (by unfold an_signers; first | (rw [if_pos (by omega)]; done) | (rw [if_neg (by omega)]; done) | (rw [if_pos (by omega)]; first | rfl | omega) | (rw [if_neg (by omega)]; first | rfl | omega)) (k _ (scr_uc (scr_uc (scr_rf hsc) rfl (by decide) (by decide) (by decide)) rfl (by decide) (by decide) (by decide)))
def an_names (h : fwH) (x : Int) : Int := if 0 < h 3 0 6 ∧ 0 ≤ x ∧ x < fwShl 1 (h 5 0 3) then mNames (h 18 0) (mSign (h 18 0) (h 5 0 3).toNat (fwOr (mWil h 0) x) 0) (h 5 0 3).toNat else -2
set_option maxRecDepth 100000 in
set_option maxHeartbeats 4000000 in
theorem c_X11_names {d : Nat} {h : fwH} {Q : Option fwV → fwH → Prop} (x : Int) (J : cOk h) (hx : -2147483648 ≤ x ∧ x < 2147483648) (k : ∀ g, scr h g → Q (some (aI (an_names h x))) g) : fwCt mX11_names (d + 5) [aR 0 0, aI x] h Q := by
  refine fwCt_of [some (aR 0 0), some (aI x)] rfl rfl rfl ?_
  obtain ⟨hl, hP, hG, hM0, htd, hut, hlw, hhc, ha, hs, hT, hsc⟩ := id J
  have hM : ∀ c : Nat, c < 10 → h 17 0 c ≤ 999 := fun c hc => by have := hM0 c hc; omega
  have hM9 : ∀ c : Nat, c < 10 → 0 ≤ h 17 0 c ∧ h 17 0 c ≤ 900 := fun c hc => by have := hM0 c hc; omega
  obtain ⟨⟨g1, g2⟩, ⟨g3, g4⟩, ⟨g5, g6⟩, g7, g8⟩ := id hG
  have hpz := hP.1
  refine w_aload_n dX11_names_0 rfl ?_
  refine w_getr 3 0 dX11_names_1 fl_X11_28 rfl (by decide) ?_
  refine w_iload_n dX11_names_4 rfl ?_
  refine w_callV (d := d + 4) (S := []) [aI x] dX11_names_5 ml_X11_206 ok_X2_hasSet vi_X2_hasSet rfl rfl (by decide) rfl (Nat.le_of_ble_eq_true rfl) ?_
  refine c_X2_hasSet (d := (d + 3)) x (by first | assumption | omega | decide) (by first | assumption | omega | decide) (by first | assumption | omega | decide) ?_
  show fwWP mX11_names (d + 5) 8 [some (aR 0 0), some (aI x)] [aI (fwB (0 < h 3 0 6 ∧ 0 ≤ x ∧ x < fwShl 1 (h 5 0 3)))] h Q
  refine w_ifB_eq 32 dX11_names_8 (by decide) (fun c8 => ?_) (fun c8 => ?_)
  · refine w_bipush dX11_names_32 rfl ?_
    exact w_iretE dX11_names_34 rfl (by unfold an_names; first | (rw [if_pos (by omega)]; done) | (rw [if_neg (by omega)]; done) | (rw [if_pos (by omega)]; first | rfl | omega) | (rw [if_neg (by omega)]; first | rfl | omega)) (k _ (scr_rf hsc))
  · refine w_aload_n dX11_names_11 rfl ?_
    refine w_getr 3 0 dX11_names_12 fl_X11_28 rfl (by decide) ?_
    refine w_getr 5 0 dX11_names_15 fl_X11_126 rfl (by decide) ?_
    refine w_aload_n dX11_names_18 rfl ?_
    refine w_getr 6 0 dX11_names_19 fl_X11_59 rfl (by decide) ?_
    refine w_iload_n dX11_names_22 rfl ?_
    refine w_callV (d := d + 4) (S := [aR 5 0]) [aI x] dX11_names_23 ml_X11_209 ok_X4_signersOfWon vi_X4_signersOfWon rfl rfl (by decide) rfl (Nat.le_of_ble_eq_true rfl) ?_
    refine c_X4_signersOfWon (d := d) x hP hG (by omega) hM ?_
    intro A23 B23
    show fwWP mX11_names (d + 5) 26 [some (aR 0 0), some (aI x)] [aI (mSign (h 18 0) (h 5 0 3).toNat (fwOr (mWil h 0) x) 0), aR 5 0] (fwUc (fwUc h 19 0 A23) 20 0 B23) Q
    refine w_callV (d := d + 4) (S := []) [aI (mSign (h 18 0) (h 5 0 3).toNat (fwOr (mWil h 0) x) 0)] dX11_names_26 ml_X11_212 ok_X3_namesOf vi_X3_namesOf rfl rfl (by decide) rfl (Nat.le_of_ble_eq_true rfl) ?_
    refine c_X3_namesOf (d := (d + 3)) 0 (mSign (h 18 0) (h 5 0 3).toNat (fwOr (mWil h 0) x) 0) (by decide) (by first | assumption | omega | decide) ?_
    show fwWP mX11_names (d + 5) 29 [some (aR 0 0), some (aI x)] [aI (mNames (h 18 0) (mSign (h 18 0) (h 5 0 3).toNat (fwOr (mWil h 0) x) 0) (h 5 0 3).toNat)] (fwUc (fwUc h 19 0 A23) 20 0 B23) Q
    refine w_goto 34 dX11_names_29 (by decide) ?_
    exact w_iretE dX11_names_34 rfl (by unfold an_names; first | (rw [if_pos (by omega)]; done) | (rw [if_neg (by omega)]; done) | (rw [if_pos (by omega)]; first | rfl | omega) | (rw [if_neg (by omega)]; first | rfl | omega)) (k _ (scr_uc (scr_uc (scr_rf hsc) rfl (by decide) (by decide) (by decide)) rfl (by decide) (by decide) (by decide)))
def an_firsts (h : fwH)  : Int := if 0 < h 3 0 6 then (mFew (mEnoB h) (fwShl 1 (h 5 0 3)).toNat).1 else -2
set_option maxRecDepth 100000 in
set_option maxHeartbeats 4000000 in
theorem c_X11_firsts {d : Nat} {h : fwH} {Q : Option fwV → fwH → Prop}  (J : cOk h)  (k : ∀ g, scr h g → Q (some (aI (an_firsts h ))) g) : fwCt mX11_firsts (d + 5) [aR 0 0] h Q := by
  refine fwCt_of [some (aR 0 0)] rfl rfl rfl ?_
  obtain ⟨hl, hP, hG, hM0, htd, hut, hlw, hhc, ha, hs, hT, hsc⟩ := id J
  have hM : ∀ c : Nat, c < 10 → h 17 0 c ≤ 999 := fun c hc => by have := hM0 c hc; omega
  have hM9 : ∀ c : Nat, c < 10 → 0 ≤ h 17 0 c ∧ h 17 0 c ≤ 900 := fun c hc => by have := hM0 c hc; omega
  obtain ⟨⟨g1, g2⟩, ⟨g3, g4⟩, ⟨g5, g6⟩, g7, g8⟩ := id hG
  have hpz := hP.1
  refine w_aload_n dX11_firsts_0 rfl ?_
  refine w_getr 3 0 dX11_firsts_1 fl_X11_28 rfl (by decide) ?_
  refine w_callV (d := d + 4) (S := []) [] dX11_firsts_4 ml_X11_157 ok_X2_isTold vi_X2_isTold rfl rfl (by decide) rfl (Nat.le_of_ble_eq_true rfl) ?_
  refine c_X2_isTold (d := (d + 4)) (show 0 ≤ h 3 0 6 ∧ h 3 0 6 ≤ 1000 by first | assumption | omega | decide) ?_
  show fwWP mX11_firsts (d + 5) 7 [some (aR 0 0)] [aI (fwB (0 < h 3 0 6))] h Q
  refine w_ifB_eq 20 dX11_firsts_7 (by decide) (fun c7 => ?_) (fun c7 => ?_)
  · refine w_bipush dX11_firsts_20 rfl ?_
    exact w_iretE dX11_firsts_22 rfl (by unfold an_firsts; first | (rw [if_pos (by omega)]; done) | (rw [if_neg (by omega)]; done) | (rw [if_pos (by omega)]; first | rfl | omega) | (rw [if_neg (by omega)]; first | rfl | omega)) (k _ (scr_rf hsc))
  · refine w_aload_n dX11_firsts_10 rfl ?_
    refine w_getr 6 0 dX11_firsts_11 fl_X11_59 rfl (by decide) ?_
    refine w_callV (d := d + 4) (S := []) [] dX11_firsts_14 ml_X11_215 ok_X4_fewestSet vi_X4_fewestSet rfl rfl (by decide) rfl (Nat.le_of_ble_eq_true rfl) ?_
    refine c_X4_fewestSet (d := d) hP hG (by omega) hM hlw ?_
    intro A14 B14
    show fwWP mX11_firsts (d + 5) 17 [some (aR 0 0)] [aI ((mFew (mEnoB h) (fwShl 1 (h 5 0 3)).toNat).1)] (fwUc (fwUc h 19 0 A14) 20 0 B14) Q
    refine w_goto 22 dX11_firsts_17 (by decide) ?_
    exact w_iretE dX11_firsts_22 rfl (by unfold an_firsts; first | (rw [if_pos (by omega)]; done) | (rw [if_neg (by omega)]; done) | (rw [if_pos (by omega)]; first | rfl | omega) | (rw [if_neg (by omega)]; first | rfl | omega)) (k _ (scr_uc (scr_uc (scr_rf hsc) rfl (by decide) (by decide) (by decide)) rfl (by decide) (by decide) (by decide)))
def an_next (h : fwH) (x : Int) : Int := if 0 < h 3 0 6 ∧ 0 ≤ x ∧ x < fwShl 1 (h 5 0 3) then (mBes h x (h 5 0 3).toNat).1 else -2
set_option maxRecDepth 100000 in
set_option maxHeartbeats 4000000 in
theorem c_X11_next {d : Nat} {h : fwH} {Q : Option fwV → fwH → Prop} (x : Int) (J : cOk h) (hx : -2147483648 ≤ x ∧ x < 2147483648) (k : ∀ g, scr h g → Q (some (aI (an_next h x))) g) : fwCt mX11_next (d + 5) [aR 0 0, aI x] h Q := by
  refine fwCt_of [some (aR 0 0), some (aI x)] rfl rfl rfl ?_
  obtain ⟨hl, hP, hG, hM0, htd, hut, hlw, hhc, ha, hs, hT, hsc⟩ := id J
  have hM : ∀ c : Nat, c < 10 → h 17 0 c ≤ 999 := fun c hc => by have := hM0 c hc; omega
  have hM9 : ∀ c : Nat, c < 10 → 0 ≤ h 17 0 c ∧ h 17 0 c ≤ 900 := fun c hc => by have := hM0 c hc; omega
  obtain ⟨⟨g1, g2⟩, ⟨g3, g4⟩, ⟨g5, g6⟩, g7, g8⟩ := id hG
  have hpz := hP.1
  refine w_aload_n dX11_next_0 rfl ?_
  refine w_getr 3 0 dX11_next_1 fl_X11_28 rfl (by decide) ?_
  refine w_iload_n dX11_next_4 rfl ?_
  refine w_callV (d := d + 4) (S := []) [aI x] dX11_next_5 ml_X11_206 ok_X2_hasSet vi_X2_hasSet rfl rfl (by decide) rfl (Nat.le_of_ble_eq_true rfl) ?_
  refine c_X2_hasSet (d := (d + 3)) x (by first | assumption | omega | decide) (by first | assumption | omega | decide) (by first | assumption | omega | decide) ?_
  show fwWP mX11_next (d + 5) 8 [some (aR 0 0), some (aI x)] [aI (fwB (0 < h 3 0 6 ∧ 0 ≤ x ∧ x < fwShl 1 (h 5 0 3)))] h Q
  refine w_ifB_eq 22 dX11_next_8 (by decide) (fun c8 => ?_) (fun c8 => ?_)
  · refine w_bipush dX11_next_22 rfl ?_
    exact w_iretE dX11_next_24 rfl (by unfold an_next; first | (rw [if_pos (by omega)]; done) | (rw [if_neg (by omega)]; done) | (rw [if_pos (by omega)]; first | rfl | omega) | (rw [if_neg (by omega)]; first | rfl | omega)) (k _ (scr_rf hsc))
  · refine w_aload_n dX11_next_11 rfl ?_
    refine w_getr 6 0 dX11_next_12 fl_X11_59 rfl (by decide) ?_
    refine w_iload_n dX11_next_15 rfl ?_
    refine w_callV (d := d + 4) (S := []) [aI x] dX11_next_16 ml_X11_223 ok_X4_bestBeside vi_X4_bestBeside rfl rfl (by decide) rfl (Nat.le_of_ble_eq_true rfl) ?_
    refine c_X4_bestBeside (d := d) x hP hG (by omega) hM ?_
    intro A16 B16
    show fwWP mX11_next (d + 5) 19 [some (aR 0 0), some (aI x)] [aI ((mBes h x (h 5 0 3).toNat).1)] (fwUc (fwUc h 19 0 A16) 20 0 B16) Q
    refine w_goto 24 dX11_next_19 (by decide) ?_
    exact w_iretE dX11_next_24 rfl (by unfold an_next; first | (rw [if_pos (by omega)]; done) | (rw [if_neg (by omega)]; done) | (rw [if_pos (by omega)]; first | rfl | omega) | (rw [if_neg (by omega)]; first | rfl | omega)) (k _ (scr_uc (scr_uc (scr_rf hsc) rfl (by decide) (by decide) (by decide)) rfl (by decide) (by decide) (by decide)))
def an_needed (h : fwH)  : Int := if 0 < h 3 0 6 then mNeed h else -2
set_option maxRecDepth 100000 in
set_option maxHeartbeats 4000000 in
theorem c_X11_needed {d : Nat} {h : fwH} {Q : Option fwV → fwH → Prop}  (J : cOk h)  (k : ∀ g, scr h g → Q (some (aI (an_needed h ))) g) : fwCt mX11_needed (d + 5) [aR 0 0] h Q := by
  refine fwCt_of [some (aR 0 0)] rfl rfl rfl ?_
  obtain ⟨hl, hP, hG, hM0, htd, hut, hlw, hhc, ha, hs, hT, hsc⟩ := id J
  have hM : ∀ c : Nat, c < 10 → h 17 0 c ≤ 999 := fun c hc => by have := hM0 c hc; omega
  have hM9 : ∀ c : Nat, c < 10 → 0 ≤ h 17 0 c ∧ h 17 0 c ≤ 900 := fun c hc => by have := hM0 c hc; omega
  obtain ⟨⟨g1, g2⟩, ⟨g3, g4⟩, ⟨g5, g6⟩, g7, g8⟩ := id hG
  have hpz := hP.1
  refine w_aload_n dX11_needed_0 rfl ?_
  refine w_getr 3 0 dX11_needed_1 fl_X11_28 rfl (by decide) ?_
  refine w_callV (d := d + 4) (S := []) [] dX11_needed_4 ml_X11_157 ok_X2_isTold vi_X2_isTold rfl rfl (by decide) rfl (Nat.le_of_ble_eq_true rfl) ?_
  refine c_X2_isTold (d := (d + 4)) (show 0 ≤ h 3 0 6 ∧ h 3 0 6 ≤ 1000 by first | assumption | omega | decide) ?_
  show fwWP mX11_needed (d + 5) 7 [some (aR 0 0)] [aI (fwB (0 < h 3 0 6))] h Q
  refine w_ifB_eq 20 dX11_needed_7 (by decide) (fun c7 => ?_) (fun c7 => ?_)
  · refine w_bipush dX11_needed_20 rfl ?_
    exact w_iretE dX11_needed_22 rfl (by unfold an_needed; first | (rw [if_pos (by omega)]; done) | (rw [if_neg (by omega)]; done) | (rw [if_pos (by omega)]; first | rfl | omega) | (rw [if_neg (by omega)]; first | rfl | omega)) (k _ (scr_rf hsc))
  · refine w_aload_n dX11_needed_10 rfl ?_
    refine w_getr 6 0 dX11_needed_11 fl_X11_59 rfl (by decide) ?_
    refine w_callV (d := d + 4) (S := []) [] dX11_needed_14 ml_X11_226 ok_X4_neededFolk vi_X4_neededFolk rfl rfl (by decide) rfl (Nat.le_of_ble_eq_true rfl) ?_
    refine c_X4_neededFolk (d := d) hP hG (by omega) hM hlw ?_
    intro A14 B14
    show fwWP mX11_needed (d + 5) 17 [some (aR 0 0)] [aI (mNeed h)] (fwUc (fwUc h 19 0 A14) 20 0 B14) Q
    refine w_goto 22 dX11_needed_17 (by decide) ?_
    exact w_iretE dX11_needed_22 rfl (by unfold an_needed; first | (rw [if_pos (by omega)]; done) | (rw [if_neg (by omega)]; done) | (rw [if_pos (by omega)]; first | rfl | omega) | (rw [if_neg (by omega)]; first | rfl | omega)) (k _ (scr_uc (scr_uc (scr_rf hsc) rfl (by decide) (by decide) (by decide)) rfl (by decide) (by decide) (by decide)))
set_option maxRecDepth 100000 in
set_option maxHeartbeats 4000000 in
theorem c_X11_isPlay {d : Nat} {h : fwH} {Q : Option fwV → fwH → Prop} (x : Int) (y : Int) (J : cOk h) (hx : -2147483648 ≤ x ∧ x < 2147483648) (hy : -2147483648 ≤ y ∧ y < 2147483648) (k : Q (some (aI (fwB (0 < h 3 0 6 ∧ 0 ≤ x ∧ x ≤ 4 ∧ 0 ≤ y ∧ y ≤ 1)))) h) : fwCt mX11_isPlay (d + 1) [aR 0 0, aI x, aI y] h Q := by
  refine fwCt_of [some (aR 0 0), some (aI x), some (aI y)] rfl rfl rfl ?_
  obtain ⟨hl, hP, hG, hM0, htd, hut, hlw, hhc, ha, hs, hT, hsc⟩ := id J
  have hM : ∀ c : Nat, c < 10 → h 17 0 c ≤ 999 := fun c hc => by have := hM0 c hc; omega
  have hM9 : ∀ c : Nat, c < 10 → 0 ≤ h 17 0 c ∧ h 17 0 c ≤ 900 := fun c hc => by have := hM0 c hc; omega
  obtain ⟨⟨g1, g2⟩, ⟨g3, g4⟩, ⟨g5, g6⟩, g7, g8⟩ := id hG
  have hpz := hP.1
  refine w_aload_n dX11_isPlay_0 rfl ?_
  refine w_getr 3 0 dX11_isPlay_1 fl_X11_28 rfl (by decide) ?_
  refine w_callV (d := d + 0) (S := []) [] dX11_isPlay_4 ml_X11_157 ok_X2_isTold vi_X2_isTold rfl rfl (by decide) rfl (Nat.le_of_ble_eq_true rfl) ?_
  refine c_X2_isTold (d := d) (show 0 ≤ h 3 0 6 ∧ h 3 0 6 ≤ 1000 by first | assumption | omega | decide) ?_
  show fwWP mX11_isPlay (d + 1) 7 [some (aR 0 0), some (aI x), some (aI y)] [aI (fwB (0 < h 3 0 6))] h Q
  refine w_ifB_eq 32 dX11_isPlay_7 (by decide) (fun c7 => ?_) (fun c7 => ?_)
  · refine w_iconst dX11_isPlay_32 ?_
    exact w_zretE dX11_isPlay_33 rfl (by first | (exfalso; omega) | (rw [fwB_t (by omega)]) | (rw [fwB_f (by omega)])) k
  · refine w_iload_n dX11_isPlay_10 rfl ?_
    refine w_if_lt 32 dX11_isPlay_11 (by decide) (by omega) (fun c11 => ?_) (fun c11 => ?_)
    · refine w_iconst dX11_isPlay_32 ?_
      exact w_zretE dX11_isPlay_33 rfl (by first | (exfalso; omega) | (rw [fwB_t (by omega)]) | (rw [fwB_f (by omega)])) k
    · refine w_iload_n dX11_isPlay_14 rfl ?_
      refine w_iconst dX11_isPlay_15 ?_
      refine w_icmp_gt 32 dX11_isPlay_16 (by decide) (by omega) (by omega) (fun c16 => ?_) (fun c16 => ?_)
      · refine w_iconst dX11_isPlay_32 ?_
        exact w_zretE dX11_isPlay_33 rfl (by first | (exfalso; omega) | (rw [fwB_t (by omega)]) | (rw [fwB_f (by omega)])) k
      · refine w_iload_n dX11_isPlay_19 rfl ?_
        refine w_if_lt 32 dX11_isPlay_20 (by decide) (by omega) (fun c20 => ?_) (fun c20 => ?_)
        · refine w_iconst dX11_isPlay_32 ?_
          exact w_zretE dX11_isPlay_33 rfl (by first | (exfalso; omega) | (rw [fwB_t (by omega)]) | (rw [fwB_f (by omega)])) k
        · refine w_iload_n dX11_isPlay_23 rfl ?_
          refine w_iconst dX11_isPlay_24 ?_
          refine w_icmp_gt 32 dX11_isPlay_25 (by decide) (by omega) (by omega) (fun c25 => ?_) (fun c25 => ?_)
          · refine w_iconst dX11_isPlay_32 ?_
            exact w_zretE dX11_isPlay_33 rfl (by first | (exfalso; omega) | (rw [fwB_t (by omega)]) | (rw [fwB_f (by omega)])) k
          · refine w_iconst dX11_isPlay_28 ?_
            refine w_goto 33 dX11_isPlay_29 (by decide) ?_
            exact w_zretE dX11_isPlay_33 rfl (by first | (exfalso; omega) | (rw [fwB_t (by omega)]) | (rw [fwB_f (by omega)])) k
set_option maxRecDepth 100000 in
set_option maxHeartbeats 4000000 in
theorem c_X11_isWalk {d : Nat} {h : fwH} {Q : Option fwV → fwH → Prop} (x : Int) (y : Int) (J : cOk h) (hx : -2147483648 ≤ x ∧ x < 2147483648) (hy : -2147483648 ≤ y ∧ y < 2147483648) (k : Q (some (aI (fwB ((0 ≤ x ∧ x < h 4 0 1) ∧ 1 ≤ y ∧ y ≤ 800)))) h) : fwCt mX11_isWalk (d + 1) [aR 0 0, aI x, aI y] h Q := by
  refine fwCt_of [some (aR 0 0), some (aI x), some (aI y)] rfl rfl rfl ?_
  obtain ⟨hl, hP, hG, hM0, htd, hut, hlw, hhc, ha, hs, hT, hsc⟩ := id J
  have hM : ∀ c : Nat, c < 10 → h 17 0 c ≤ 999 := fun c hc => by have := hM0 c hc; omega
  have hM9 : ∀ c : Nat, c < 10 → 0 ≤ h 17 0 c ∧ h 17 0 c ≤ 900 := fun c hc => by have := hM0 c hc; omega
  obtain ⟨⟨g1, g2⟩, ⟨g3, g4⟩, ⟨g5, g6⟩, g7, g8⟩ := id hG
  have hpz := hP.1
  refine w_aload_n dX11_isWalk_0 rfl ?_
  refine w_getr 3 0 dX11_isWalk_1 fl_X11_28 rfl (by decide) ?_
  refine w_getr 4 0 dX11_isWalk_4 fl_X11_139 rfl (by decide) ?_
  refine w_iload_n dX11_isWalk_7 rfl ?_
  refine w_callV (d := d + 0) (S := []) [aI x] dX11_isWalk_8 ml_X11_142 ok_X1_has vi_X1_has rfl rfl (by decide) rfl (Nat.le_of_ble_eq_true rfl) ?_
  refine c_X1_has (d := d) 0 x (by decide) (by first | assumption | omega | decide) (by first | assumption | omega | decide) ?_
  show fwWP mX11_isWalk (d + 1) 11 [some (aR 0 0), some (aI x), some (aI y)] [aI (fwB (0 ≤ x ∧ x < h 4 0 1))] h Q
  refine w_ifB_eq 30 dX11_isWalk_11 (by decide) (fun c11 => ?_) (fun c11 => ?_)
  · refine w_iconst dX11_isWalk_30 ?_
    exact w_zretE dX11_isWalk_31 rfl (by first | (exfalso; omega) | (rw [fwB_t (by omega)]) | (rw [fwB_f (by omega)])) k
  · refine w_iload_n dX11_isWalk_14 rfl ?_
    refine w_iconst dX11_isWalk_15 ?_
    refine w_icmp_lt 30 dX11_isWalk_16 (by decide) (by omega) (by omega) (fun c16 => ?_) (fun c16 => ?_)
    · refine w_iconst dX11_isWalk_30 ?_
      exact w_zretE dX11_isWalk_31 rfl (by first | (exfalso; omega) | (rw [fwB_t (by omega)]) | (rw [fwB_f (by omega)])) k
    · refine w_iload_n dX11_isWalk_19 rfl ?_
      refine w_sipush dX11_isWalk_20 rfl ?_
      refine w_icmp_gt 30 dX11_isWalk_23 (by decide) (by omega) (by omega) (fun c23 => ?_) (fun c23 => ?_)
      · refine w_iconst dX11_isWalk_30 ?_
        exact w_zretE dX11_isWalk_31 rfl (by first | (exfalso; omega) | (rw [fwB_t (by omega)]) | (rw [fwB_f (by omega)])) k
      · refine w_iconst dX11_isWalk_26 ?_
        refine w_goto 31 dX11_isWalk_27 (by decide) ?_
        exact w_zretE dX11_isWalk_31 rfl (by first | (exfalso; omega) | (rw [fwB_t (by omega)]) | (rw [fwB_f (by omega)])) k
set_option maxRecDepth 100000 in
set_option maxHeartbeats 4000000 in
theorem c_X11_isLaw {d : Nat} {h : fwH} {Q : Option fwV → fwH → Prop} (x : Int) (J : cOk h) (hx : -2147483648 ≤ x ∧ x < 2147483648) (k : Q (some (aI (fwB (0 < h 3 0 6 ∧ 1 ≤ x ∧ x ≤ 999)))) h) : fwCt mX11_isLaw (d + 1) [aR 0 0, aI x] h Q := by
  refine fwCt_of [some (aR 0 0), some (aI x)] rfl rfl rfl ?_
  obtain ⟨hl, hP, hG, hM0, htd, hut, hlw, hhc, ha, hs, hT, hsc⟩ := id J
  have hM : ∀ c : Nat, c < 10 → h 17 0 c ≤ 999 := fun c hc => by have := hM0 c hc; omega
  have hM9 : ∀ c : Nat, c < 10 → 0 ≤ h 17 0 c ∧ h 17 0 c ≤ 900 := fun c hc => by have := hM0 c hc; omega
  obtain ⟨⟨g1, g2⟩, ⟨g3, g4⟩, ⟨g5, g6⟩, g7, g8⟩ := id hG
  have hpz := hP.1
  refine w_aload_n dX11_isLaw_0 rfl ?_
  refine w_getr 3 0 dX11_isLaw_1 fl_X11_28 rfl (by decide) ?_
  refine w_callV (d := d + 0) (S := []) [] dX11_isLaw_4 ml_X11_157 ok_X2_isTold vi_X2_isTold rfl rfl (by decide) rfl (Nat.le_of_ble_eq_true rfl) ?_
  refine c_X2_isTold (d := d) (show 0 ≤ h 3 0 6 ∧ h 3 0 6 ≤ 1000 by first | assumption | omega | decide) ?_
  show fwWP mX11_isLaw (d + 1) 7 [some (aR 0 0), some (aI x)] [aI (fwB (0 < h 3 0 6))] h Q
  refine w_ifB_eq 26 dX11_isLaw_7 (by decide) (fun c7 => ?_) (fun c7 => ?_)
  · refine w_iconst dX11_isLaw_26 ?_
    exact w_zretE dX11_isLaw_27 rfl (by first | (exfalso; omega) | (rw [fwB_t (by omega)]) | (rw [fwB_f (by omega)])) k
  · refine w_iload_n dX11_isLaw_10 rfl ?_
    refine w_iconst dX11_isLaw_11 ?_
    refine w_icmp_lt 26 dX11_isLaw_12 (by decide) (by omega) (by omega) (fun c12 => ?_) (fun c12 => ?_)
    · refine w_iconst dX11_isLaw_26 ?_
      exact w_zretE dX11_isLaw_27 rfl (by first | (exfalso; omega) | (rw [fwB_t (by omega)]) | (rw [fwB_f (by omega)])) k
    · refine w_iload_n dX11_isLaw_15 rfl ?_
      refine w_sipush dX11_isLaw_16 rfl ?_
      refine w_icmp_gt 26 dX11_isLaw_19 (by decide) (by omega) (by omega) (fun c19 => ?_) (fun c19 => ?_)
      · refine w_iconst dX11_isLaw_26 ?_
        exact w_zretE dX11_isLaw_27 rfl (by first | (exfalso; omega) | (rw [fwB_t (by omega)]) | (rw [fwB_f (by omega)])) k
      · refine w_iconst dX11_isLaw_22 ?_
        refine w_goto 27 dX11_isLaw_23 (by decide) ?_
        exact w_zretE dX11_isLaw_27 rfl (by first | (exfalso; omega) | (rw [fwB_t (by omega)]) | (rw [fwB_f (by omega)])) k
set_option maxRecDepth 100000 in
set_option maxHeartbeats 4000000 in
theorem c_X11_isDraw {d : Nat} {h : fwH} {Q : Option fwV → fwH → Prop} (x : Int) (y : Int) (J : cOk h) (hx : -2147483648 ≤ x ∧ x < 2147483648) (hy : -2147483648 ≤ y ∧ y < 2147483648) (k : Q (some (aI (fwB (0 < h 3 0 6 ∧ 0 ≤ x ∧ x ≤ 2000000000 ∧ 0 ≤ y ∧ y ≤ 40)))) h) : fwCt mX11_isDraw (d + 1) [aR 0 0, aI x, aI y] h Q := by
  refine fwCt_of [some (aR 0 0), some (aI x), some (aI y)] rfl rfl rfl ?_
  obtain ⟨hl, hP, hG, hM0, htd, hut, hlw, hhc, ha, hs, hT, hsc⟩ := id J
  have hM : ∀ c : Nat, c < 10 → h 17 0 c ≤ 999 := fun c hc => by have := hM0 c hc; omega
  have hM9 : ∀ c : Nat, c < 10 → 0 ≤ h 17 0 c ∧ h 17 0 c ≤ 900 := fun c hc => by have := hM0 c hc; omega
  obtain ⟨⟨g1, g2⟩, ⟨g3, g4⟩, ⟨g5, g6⟩, g7, g8⟩ := id hG
  have hpz := hP.1
  refine w_aload_n dX11_isDraw_0 rfl ?_
  refine w_getr 3 0 dX11_isDraw_1 fl_X11_28 rfl (by decide) ?_
  refine w_callV (d := d + 0) (S := []) [] dX11_isDraw_4 ml_X11_157 ok_X2_isTold vi_X2_isTold rfl rfl (by decide) rfl (Nat.le_of_ble_eq_true rfl) ?_
  refine c_X2_isTold (d := d) (show 0 ≤ h 3 0 6 ∧ h 3 0 6 ≤ 1000 by first | assumption | omega | decide) ?_
  show fwWP mX11_isDraw (d + 1) 7 [some (aR 0 0), some (aI x), some (aI y)] [aI (fwB (0 < h 3 0 6))] h Q
  refine w_ifB_eq 35 dX11_isDraw_7 (by decide) (fun c7 => ?_) (fun c7 => ?_)
  · refine w_iconst dX11_isDraw_35 ?_
    exact w_zretE dX11_isDraw_36 rfl (by first | (exfalso; omega) | (rw [fwB_t (by omega)]) | (rw [fwB_f (by omega)])) k
  · refine w_iload_n dX11_isDraw_10 rfl ?_
    refine w_if_lt 35 dX11_isDraw_11 (by decide) (by omega) (fun c11 => ?_) (fun c11 => ?_)
    · refine w_iconst dX11_isDraw_35 ?_
      exact w_zretE dX11_isDraw_36 rfl (by first | (exfalso; omega) | (rw [fwB_t (by omega)]) | (rw [fwB_f (by omega)])) k
    · refine w_iload_n dX11_isDraw_14 rfl ?_
      refine w_ldcw (n := 2000000000) dX11_isDraw_15 cs_X11_378 ?_
      refine w_icmp_gt 35 dX11_isDraw_18 (by decide) (by omega) (by omega) (fun c18 => ?_) (fun c18 => ?_)
      · refine w_iconst dX11_isDraw_35 ?_
        exact w_zretE dX11_isDraw_36 rfl (by first | (exfalso; omega) | (rw [fwB_t (by omega)]) | (rw [fwB_f (by omega)])) k
      · refine w_iload_n dX11_isDraw_21 rfl ?_
        refine w_if_lt 35 dX11_isDraw_22 (by decide) (by omega) (fun c22 => ?_) (fun c22 => ?_)
        · refine w_iconst dX11_isDraw_35 ?_
          exact w_zretE dX11_isDraw_36 rfl (by first | (exfalso; omega) | (rw [fwB_t (by omega)]) | (rw [fwB_f (by omega)])) k
        · refine w_iload_n dX11_isDraw_25 rfl ?_
          refine w_bipush dX11_isDraw_26 rfl ?_
          refine w_icmp_gt 35 dX11_isDraw_28 (by decide) (by omega) (by omega) (fun c28 => ?_) (fun c28 => ?_)
          · refine w_iconst dX11_isDraw_35 ?_
            exact w_zretE dX11_isDraw_36 rfl (by first | (exfalso; omega) | (rw [fwB_t (by omega)]) | (rw [fwB_f (by omega)])) k
          · refine w_iconst dX11_isDraw_31 ?_
            refine w_goto 36 dX11_isDraw_32 (by decide) ?_
            exact w_zretE dX11_isDraw_36 rfl (by first | (exfalso; omega) | (rw [fwB_t (by omega)]) | (rw [fwB_f (by omega)])) k
def an_play (h : fwH) (x : Int) (y : Int) : Int := if 0 < h 3 0 6 ∧ 0 ≤ x ∧ x ≤ 4 ∧ 0 ≤ y ∧ y ≤ 1 then (if mPlay h x.toNat y = true then 1 else 0) else -2
set_option maxRecDepth 100000 in
set_option maxHeartbeats 4000000 in
theorem c_X11_play {d : Nat} {h : fwH} {Q : Option fwV → fwH → Prop} (x : Int) (y : Int) (J : cOk h) (hx : -2147483648 ≤ x ∧ x < 2147483648) (hy : -2147483648 ≤ y ∧ y < 2147483648) (k : ∀ g, scr h g → Q (some (aI (an_play h x y))) g) : fwCt mX11_play (d + 30) [aR 0 0, aI x, aI y] h Q := by
  refine fwCt_of [some (aR 0 0), some (aI x), some (aI y)] rfl rfl rfl ?_
  obtain ⟨hl, hP, hG, hM0, htd, hut, hlw, hhc, ha, hs, hT, hsc⟩ := id J
  have hM : ∀ c : Nat, c < 10 → h 17 0 c ≤ 999 := fun c hc => by have := hM0 c hc; omega
  have hM9 : ∀ c : Nat, c < 10 → 0 ≤ h 17 0 c ∧ h 17 0 c ≤ 900 := fun c hc => by have := hM0 c hc; omega
  obtain ⟨⟨g1, g2⟩, ⟨g3, g4⟩, ⟨g5, g6⟩, g7, g8⟩ := id hG
  have hpz := hP.1
  refine w_aload_n dX11_play_0 rfl ?_
  refine w_iload_n dX11_play_1 rfl ?_
  refine w_iload_n dX11_play_2 rfl ?_
  refine w_callV (d := d + 29) (S := []) [aI x, aI y] dX11_play_3 ml_X11_229 ok_X11_isPlay vi_X11_isPlay rfl rfl (by decide) rfl (Nat.le_of_ble_eq_true rfl) ?_
  refine c_X11_isPlay (d := (d + 28)) x y J (by first | assumption | omega | decide) (by first | assumption | omega | decide) ?_
  show fwWP mX11_play (d + 30) 6 [some (aR 0 0), some (aI x), some (aI y)] [aI (fwB (0 < h 3 0 6 ∧ 0 ≤ x ∧ x ≤ 4 ∧ 0 ≤ y ∧ y ≤ 1))] h Q
  refine w_ifB_ne 12 dX11_play_6 (by decide) (fun c6 => ?_) (fun c6 => ?_)
  · refine w_aload_n dX11_play_12 rfl ?_
    refine w_getr 6 0 dX11_play_13 fl_X11_59 rfl (by decide) ?_
    refine w_iload_n dX11_play_16 rfl ?_
    refine w_iload_n dX11_play_17 rfl ?_
    obtain ⟨u, rfl⟩ : ∃ u : Nat, x = (u : Int) := ⟨x.toNat, by omega⟩
    refine w_callV (d := d + 29) (S := []) [aI (u : Int), aI y] dX11_play_18 ml_X11_232 ok_X4_playOut vi_X4_playOut rfl rfl (by decide) rfl (Nat.le_of_ble_eq_true rfl) ?_
    refine c_X4_playOut (d := d) u y hP hG (by omega) hM hlw (by omega) (by omega) ?_
    intro A18 B18 O18
    show fwWP mX11_play (d + 30) 21 [some (aR 0 0), some (aI (u : Int)), some (aI y)] [aI (fwB (mPlay h u y = true))] (beH h (u : Int) y A18 B18 O18) Q
    refine w_ifB_eq 28 dX11_play_21 (by decide) (fun c21 => ?_) (fun c21 => ?_)
    · refine w_iconst dX11_play_28 ?_
      exact w_iretE dX11_play_29 rfl (by unfold an_play; first | (rw [if_pos (by omega), if_pos (by assumption)]; done) | (rw [if_pos (by omega), if_neg (by assumption)]; done) | (rw [if_neg (by omega)]; done)) (k _ (scr_uc (scr_uc (scr_uc (scr_uc (scr_rf hsc) rfl (by decide) (by decide) (by decide)) rfl (by decide) (by decide) (by decide)) rfl (by decide) (by decide) (by decide)) rfl (by decide) (by decide) (by decide)))
    · refine w_iconst dX11_play_24 ?_
      refine w_goto 29 dX11_play_25 (by decide) ?_
      exact w_iretE dX11_play_29 rfl (by unfold an_play; first | (rw [if_pos (by omega), if_pos (by assumption)]; done) | (rw [if_pos (by omega), if_neg (by assumption)]; done) | (rw [if_neg (by omega)]; done)) (k _ (scr_uc (scr_uc (scr_uc (scr_uc (scr_rf hsc) rfl (by decide) (by decide) (by decide)) rfl (by decide) (by decide) (by decide)) rfl (by decide) (by decide) (by decide)) rfl (by decide) (by decide) (by decide)))
  · refine w_bipush dX11_play_9 rfl ?_
    exact w_iretE dX11_play_11 rfl (by unfold an_play; first | (rw [if_pos (by omega), if_pos (by assumption)]; done) | (rw [if_pos (by omega), if_neg (by assumption)]; done) | (rw [if_neg (by omega)]; done)) (k _ (scr_rf hsc))
def an_moves (h : fwH) (x : Int) (y : Int) : Int := if 0 < h 3 0 6 ∧ 0 ≤ x ∧ x ≤ 4 ∧ 0 ≤ y ∧ y ≤ 1 then mMov h x.toNat y else -2
set_option maxRecDepth 100000 in
set_option maxHeartbeats 4000000 in
theorem c_X11_moves {d : Nat} {h : fwH} {Q : Option fwV → fwH → Prop} (x : Int) (y : Int) (J : cOk h) (hx : -2147483648 ≤ x ∧ x < 2147483648) (hy : -2147483648 ≤ y ∧ y < 2147483648) (k : ∀ g, scr h g → Q (some (aI (an_moves h x y))) g) : fwCt mX11_moves (d + 31) [aR 0 0, aI x, aI y] h Q := by
  refine fwCt_of [some (aR 0 0), some (aI x), some (aI y)] rfl rfl rfl ?_
  obtain ⟨hl, hP, hG, hM0, htd, hut, hlw, hhc, ha, hs, hT, hsc⟩ := id J
  have hM : ∀ c : Nat, c < 10 → h 17 0 c ≤ 999 := fun c hc => by have := hM0 c hc; omega
  have hM9 : ∀ c : Nat, c < 10 → 0 ≤ h 17 0 c ∧ h 17 0 c ≤ 900 := fun c hc => by have := hM0 c hc; omega
  obtain ⟨⟨g1, g2⟩, ⟨g3, g4⟩, ⟨g5, g6⟩, g7, g8⟩ := id hG
  have hpz := hP.1
  refine w_aload_n dX11_moves_0 rfl ?_
  refine w_iload_n dX11_moves_1 rfl ?_
  refine w_iload_n dX11_moves_2 rfl ?_
  refine w_callV (d := d + 30) (S := []) [aI x, aI y] dX11_moves_3 ml_X11_229 ok_X11_isPlay vi_X11_isPlay rfl rfl (by decide) rfl (Nat.le_of_ble_eq_true rfl) ?_
  refine c_X11_isPlay (d := (d + 29)) x y J (by first | assumption | omega | decide) (by first | assumption | omega | decide) ?_
  show fwWP mX11_moves (d + 31) 6 [some (aR 0 0), some (aI x), some (aI y)] [aI (fwB (0 < h 3 0 6 ∧ 0 ≤ x ∧ x ≤ 4 ∧ 0 ≤ y ∧ y ≤ 1))] h Q
  refine w_ifB_ne 12 dX11_moves_6 (by decide) (fun c6 => ?_) (fun c6 => ?_)
  · refine w_aload_n dX11_moves_12 rfl ?_
    refine w_getr 6 0 dX11_moves_13 fl_X11_59 rfl (by decide) ?_
    refine w_iload_n dX11_moves_16 rfl ?_
    refine w_iload_n dX11_moves_17 rfl ?_
    obtain ⟨u, rfl⟩ : ∃ u : Nat, x = (u : Int) := ⟨x.toNat, by omega⟩
    refine w_callV (d := d + 30) (S := []) [aI (u : Int), aI y] dX11_moves_18 ml_X11_235 ok_X4_firstMove vi_X4_firstMove rfl rfl (by decide) rfl (Nat.le_of_ble_eq_true rfl) ?_
    refine c_X4_firstMove (d := d) u y hP hG (by omega) hM hlw (by omega) (by omega) ⟨fun _ => ?_, fun A18 B18 O18 => ?_⟩
    · show fwWP mX11_moves (d + 31) 21 [some (aR 0 0), some (aI (u : Int)), some (aI y)] [aI (mMov h u y)] h Q
      exact w_iretE dX11_moves_21 rfl (by unfold an_moves; first | (rw [if_pos (by omega)]; done) | (rw [if_neg (by omega)]; done) | (rw [if_pos (by omega)]; first | rfl | omega) | (rw [if_neg (by omega)]; first | rfl | omega)) (k _ (scr_rf hsc))
    · show fwWP mX11_moves (d + 31) 21 [some (aR 0 0), some (aI (u : Int)), some (aI y)] [aI (mMov h u y)] (beH h (u : Int) y A18 B18 O18) Q
      exact w_iretE dX11_moves_21 rfl (by unfold an_moves; first | (rw [if_pos (by omega)]; done) | (rw [if_neg (by omega)]; done) | (rw [if_pos (by omega)]; first | rfl | omega) | (rw [if_neg (by omega)]; first | rfl | omega)) (k _ (scr_uc (scr_uc (scr_uc (scr_uc (scr_rf hsc) rfl (by decide) (by decide) (by decide)) rfl (by decide) (by decide) (by decide)) rfl (by decide) (by decide) (by decide)) rfl (by decide) (by decide) (by decide)))
  · refine w_bipush dX11_moves_9 rfl ?_
    exact w_iretE dX11_moves_11 rfl (by unfold an_moves; first | (rw [if_pos (by omega)]; done) | (rw [if_neg (by omega)]; done) | (rw [if_pos (by omega)]; first | rfl | omega) | (rw [if_neg (by omega)]; first | rfl | omega)) (k _ (scr_rf hsc))
theorem mFew_r1 (E : Int → Bool) : ∀ s : Nat, -1 ≤ (mFew E s).1 ∧ (mFew E s).1 ≤ s := by
  intro s
  induction s with
  | zero => simp [mFew]
  | succ s ih =>
    rw [mFew]
    split
    · dsimp only; omega
    · omega
theorem mWt_ok {h : fwH} (hp : h 5 0 3 ≤ 8) : mWok (fwUc (fwUc (fwUc h 4 5 (h 4 0)) 17 5 (h 17 0)) 26 0 (mWt h (h 4 0 1).toNat)) := fun c f h1 h2 h3 => mWt_at (by omega) _ c f h1 h2 h3
def an_first (h : fwH)  : Int := if 0 < h 3 0 6 then (if (mFew (mEnoB h) (fwShl 1 (h 5 0 3)).toNat).1 = -1 then -1 else fwPop (mFew (mEnoB h) (fwShl 1 (h 5 0 3)).toNat).1) else -2
set_option maxRecDepth 100000 in
set_option maxHeartbeats 4000000 in
theorem c_X11_first {d : Nat} {h : fwH} {Q : Option fwV → fwH → Prop}  (J : cOk h)  (k : ∀ g, scr h g → Q (some (aI (an_first h ))) g) : fwCt mX11_first (d + 5) [aR 0 0] h Q := by
  refine fwCt_of [some (aR 0 0), none] rfl rfl rfl ?_
  obtain ⟨hl, hP, hG, hM0, htd, hut, hlw, hhc, ha, hs, hT, hsc⟩ := id J
  have hM : ∀ c : Nat, c < 10 → h 17 0 c ≤ 999 := fun c hc => by have := hM0 c hc; omega
  have hM9 : ∀ c : Nat, c < 10 → 0 ≤ h 17 0 c ∧ h 17 0 c ≤ 900 := fun c hc => by have := hM0 c hc; omega
  obtain ⟨⟨g1, g2⟩, ⟨g3, g4⟩, ⟨g5, g6⟩, g7, g8⟩ := id hG
  have hpz := hP.1
  refine w_aload_n dX11_first_0 rfl ?_
  refine w_getr 3 0 dX11_first_1 fl_X11_28 rfl (by decide) ?_
  refine w_callV (d := d + 4) (S := []) [] dX11_first_4 ml_X11_157 ok_X2_isTold vi_X2_isTold rfl rfl (by decide) rfl (Nat.le_of_ble_eq_true rfl) ?_
  refine c_X2_isTold (d := (d + 4)) (show 0 ≤ h 3 0 6 ∧ h 3 0 6 ≤ 1000 by first | assumption | omega | decide) ?_
  show fwWP mX11_first (d + 5) 7 [some (aR 0 0), none] [aI (fwB (0 < h 3 0 6))] h Q
  refine w_ifB_ne 13 dX11_first_7 (by decide) (fun c7 => ?_) (fun c7 => ?_)
  · refine w_aload_n dX11_first_13 rfl ?_
    refine w_getr 6 0 dX11_first_14 fl_X11_59 rfl (by decide) ?_
    refine w_callV (d := d + 4) (S := []) [] dX11_first_17 ml_X11_215 ok_X4_fewestSet vi_X4_fewestSet rfl rfl (by decide) rfl (Nat.le_of_ble_eq_true rfl) ?_
    refine c_X4_fewestSet (d := d) hP hG (by omega) hM hlw ?_
    intro A17 B17
    show fwWP mX11_first (d + 5) 20 [some (aR 0 0), none] [aI ((mFew (mEnoB h) (fwShl 1 (h 5 0 3)).toNat).1)] (fwUc (fwUc h 19 0 A17) 20 0 B17) Q
    have hfw := mFew_r1 (mEnoB h) (fwShl 1 (h 5 0 3)).toNat
    have hsh := fwShl1_rng (x := h 5 0 3) (by omega)
    refine w_istore_n [some (aR 0 0), some (aI ((mFew (mEnoB h) (fwShl 1 (h 5 0 3)).toNat).1))] dX11_first_20 rfl (by decide) ?_
    refine w_iload_n dX11_first_21 rfl ?_
    refine w_iconst dX11_first_22 ?_
    refine w_icmp_ne 30 dX11_first_23 (by decide) (by omega) (by omega) (fun c23 => ?_) (fun c23 => ?_)
    · refine w_iload_n dX11_first_30 rfl ?_
      refine w_callS (d := d + 4) (S := []) [aI ((mFew (mEnoB h) (fwShl 1 (h 5 0 3)).toNat).1)] dX11_first_31 ml_X11_218 ok_J6_bitCount_0f7a4 st_J6_bitCount_0f7a4 rfl (Nat.le_of_ble_eq_true rfl) ?_
      refine c_bitCount (d := (d + 4)) ((mFew (mEnoB h) (fwShl 1 (h 5 0 3)).toNat).1) ?_
      show fwWP mX11_first (d + 5) 34 [some (aR 0 0), some (aI ((mFew (mEnoB h) (fwShl 1 (h 5 0 3)).toNat).1))] [aI (fwPop ((mFew (mEnoB h) (fwShl 1 (h 5 0 3)).toNat).1))] (fwUc (fwUc h 19 0 A17) 20 0 B17) Q
      exact w_iretE dX11_first_34 rfl (by unfold an_first; first | (rw [if_neg (by omega)]; done) | (rw [if_pos (by omega), if_pos (by omega)]; done) | (rw [if_pos (by omega), if_neg (by omega)]; done)) (k _ (scr_uc (scr_uc (scr_rf hsc) rfl (by decide) (by decide) (by decide)) rfl (by decide) (by decide) (by decide)))
    · refine w_iconst dX11_first_26 ?_
      refine w_goto 34 dX11_first_27 (by decide) ?_
      exact w_iretE dX11_first_34 rfl (by unfold an_first; first | (rw [if_neg (by omega)]; done) | (rw [if_pos (by omega), if_pos (by omega)]; done) | (rw [if_pos (by omega), if_neg (by omega)]; done)) (k _ (scr_uc (scr_uc (scr_rf hsc) rfl (by decide) (by decide) (by decide)) rfl (by decide) (by decide) (by decide)))
  · refine w_bipush dX11_first_10 rfl ?_
    exact w_iretE dX11_first_12 rfl (by unfold an_first; first | (rw [if_neg (by omega)]; done) | (rw [if_pos (by omega), if_pos (by omega)]; done) | (rw [if_pos (by omega), if_neg (by omega)]; done)) (k _ (scr_rf hsc))
theorem scr_up {h g : fwH} {k i j : Nat} {x : Int} (a : scr h g) (hk : fwScr k i = true) (h1 : k ≠ 12) (h2 : k ≠ 25) (h3 : k ≠ 8) : scr h (fwUp g k i j x) := by
  rw [fwUp_fu]
  exact scr_uc a hk h1 h2 h3
def mRnd (h : fwH) (x : Nat) (y : Int) : Int × Int × Int := mW1o (mAh (h 18 0) (mWil h 0) (h 5 0 3).toNat) x y ((h 4 0 1).toNat - x) (-1, 0, 0) (x + 1)
/-- the way doesn't hang on what was there before -/
def w1q (s t : Int × Int × Int) : Prop := s.1 = t.1 ∧ (s.1 = -1 ∨ s = t)
theorem mW1i_q (N : Nat → Int) (x : Nat) (n : Int) (a : Nat) {s t : Int × Int × Int} (h : w1q s t) : ∀ j, w1q (mW1i N x n a s j) (mW1i N x n a t j) := by
  intro j
  induction j with
  | zero => exact h
  | succ j ih =>
    rw [mW1i, mW1i, ih.1]
    split
    · exact ⟨rfl, Or.inr rfl⟩
    · exact ih
theorem mW1o_q (N : Nat → Int) (x : Nat) (n : Int) (m : Nat) {s t : Int × Int × Int} (h : w1q s t) : ∀ j, w1q (mW1o N x n m s j) (mW1o N x n m t j) := by
  intro j
  induction j with
  | zero => exact h
  | succ j ih =>
    rw [mW1o, mW1o]
    exact mW1i_q N x n j ih m
theorem mRnd_q (h : fwH) (x : Nat) (y : Int) : w1q (mW1o (mAh (h 18 0) (mWil h 0) (h 5 0 3).toNat) x y ((h 4 0 1).toNat - x) (-1, h 7 0 2, h 7 0 3) (x + 1)) (mRnd h x y) := mW1o_q _ _ _ _ (s := (-1, h 7 0 2, h 7 0 3)) (t := (-1, 0, 0)) ⟨rfl, Or.inl rfl⟩ _
def an_round (h : fwH) (x : Int) (y : Int) : Int := if (0 ≤ x ∧ x < h 4 0 1) ∧ 1 ≤ y ∧ y ≤ 800 then (mRnd h x.toNat y).1 else -2
set_option maxRecDepth 100000 in
set_option maxHeartbeats 4000000 in
theorem c_X11_round {d : Nat} {h : fwH} {Q : Option fwV → fwH → Prop} (x : Int) (y : Int) (J : cOk h) (hx : -2147483648 ≤ x ∧ x < 2147483648) (hy : -2147483648 ≤ y ∧ y < 2147483648) (k : ∀ g, scr h g → Q (some (aI (an_round h x y))) g) : fwCt mX11_round (d + 6) [aR 0 0, aI x, aI y] h Q := by
  refine fwCt_of [some (aR 0 0), some (aI x), some (aI y)] rfl rfl rfl ?_
  obtain ⟨hl, hP, hG, hM0, htd, hut, hlw, hhc, ha, hs, hT, hsc⟩ := id J
  have hM : ∀ c : Nat, c < 10 → h 17 0 c ≤ 999 := fun c hc => by have := hM0 c hc; omega
  have hM9 : ∀ c : Nat, c < 10 → 0 ≤ h 17 0 c ∧ h 17 0 c ≤ 900 := fun c hc => by have := hM0 c hc; omega
  obtain ⟨⟨g1, g2⟩, ⟨g3, g4⟩, ⟨g5, g6⟩, g7, g8⟩ := id hG
  have hpz := hP.1
  refine w_aload_n dX11_round_0 rfl ?_
  refine w_iload_n dX11_round_1 rfl ?_
  refine w_iload_n dX11_round_2 rfl ?_
  refine w_callV (d := d + 5) (S := []) [aI x, aI y] dX11_round_3 ml_X11_238 ok_X11_isWalk vi_X11_isWalk rfl rfl (by decide) rfl (Nat.le_of_ble_eq_true rfl) ?_
  refine c_X11_isWalk (d := (d + 4)) x y J (by first | assumption | omega | decide) (by first | assumption | omega | decide) ?_
  show fwWP mX11_round (d + 6) 6 [some (aR 0 0), some (aI x), some (aI y)] [aI (fwB ((0 ≤ x ∧ x < h 4 0 1) ∧ 1 ≤ y ∧ y ≤ 800))] h Q
  refine w_ifB_eq 21 dX11_round_6 (by decide) (fun c6 => ?_) (fun c6 => ?_)
  · refine w_bipush dX11_round_21 rfl ?_
    exact w_iretE dX11_round_23 rfl (by unfold an_round; first | (rw [if_neg (by omega)]; done) | (rw [if_pos (by omega)]; exact (mRnd_q h _ _).1)) (k _ (scr_rf hsc))
  · refine w_aload_n dX11_round_9 rfl ?_
    refine w_getr 7 0 dX11_round_10 fl_X11_66 rfl (by decide) ?_
    refine w_iload_n dX11_round_13 rfl ?_
    refine w_iload_n dX11_round_14 rfl ?_
    obtain ⟨f, rfl⟩ : ∃ f : Nat, x = (f : Int) := ⟨x.toNat, by omega⟩
    refine w_callV (d := d + 5) (S := []) [aI (f : Int), aI y] dX11_round_15 ml_X11_241 ok_X10_walkOne vi_X10_walkOne rfl rfl (by decide) rfl (Nat.le_of_ble_eq_true rfl) ?_
    refine c_X10_walkOne (d := d) f y hP hG (by omega) hM hsc.1 (by omega) (by omega) ?_
    intro A15 B15
    show fwWP mX11_round (d + 6) 18 [some (aR 0 0), some (aI (f : Int)), some (aI y)] [aI ((mW1o (mAh (h 18 0) (mWil h 0) (h 5 0 3).toNat) f y ((h 4 0 1).toNat - f) (-1, h 7 0 2, h 7 0 3) (f + 1)).1)] (fwUp (fwUp (fwUc (fwUc (fwUc h 19 0 A15) 20 0 B15) 25 0 (mAh (h 18 0) (mWil h 0) (h 5 0 3).toNat)) 7 0 2 (mW1o (mAh (h 18 0) (mWil h 0) (h 5 0 3).toNat) f y ((h 4 0 1).toNat - f) (-1, h 7 0 2, h 7 0 3) (f + 1)).2.1) 7 0 3 (mW1o (mAh (h 18 0) (mWil h 0) (h 5 0 3).toNat) f y ((h 4 0 1).toNat - f) (-1, h 7 0 2, h 7 0 3) (f + 1)).2.2) Q
    refine w_goto 23 dX11_round_18 (by decide) ?_
    exact w_iretE dX11_round_23 rfl (by unfold an_round; first | (rw [if_neg (by omega)]; done) | (rw [if_pos (by omega)]; exact (mRnd_q h _ _).1)) (k _ (scr_up (scr_up (scr_25 (scr_uc (scr_uc (scr_rf hsc) rfl (by decide) (by decide) (by decide)) rfl (by decide) (by decide) (by decide)) rfl) rfl (by decide) (by decide) (by decide)) rfl (by decide) (by decide) (by decide)))
theorem mW1i_r2 (N : Nat → Int) (x : Nat) (n : Int) (a : Nat) {s : Int × Int × Int} (hx : x ≤ 10) (ha : a ≤ x) (h : (-1 ≤ s.1 ∧ s.1 ≤ 100) ∧ (-1 ≤ s.2.1 ∧ s.2.1 ≤ 100) ∧ -1 ≤ s.2.2 ∧ s.2.2 ≤ 100) : ∀ j, j ≤ 10 → (-1 ≤ (mW1i N x n a s j).1 ∧ (mW1i N x n a s j).1 ≤ 100) ∧ (-1 ≤ (mW1i N x n a s j).2.1 ∧ (mW1i N x n a s j).2.1 ≤ 100) ∧ -1 ≤ (mW1i N x n a s j).2.2 ∧ (mW1i N x n a s j).2.2 ≤ 100 := by
  intro j
  induction j with
  | zero => intro _; exact h
  | succ j ih =>
    intro hj
    have := ih (by omega)
    rw [mW1i]
    split
    · dsimp only [mSteps]
      omega
    · exact this
theorem mW1o_r2 (N : Nat → Int) (x : Nat) (n : Int) (m : Nat) (hx : x ≤ 10) (hm : m ≤ 10) : ∀ j, j ≤ x + 1 → (-1 ≤ (mW1o N x n m (-1, 0, 0) j).1 ∧ (mW1o N x n m (-1, 0, 0) j).1 ≤ 100) ∧ (-1 ≤ (mW1o N x n m (-1, 0, 0) j).2.1 ∧ (mW1o N x n m (-1, 0, 0) j).2.1 ≤ 100) ∧ -1 ≤ (mW1o N x n m (-1, 0, 0) j).2.2 ∧ (mW1o N x n m (-1, 0, 0) j).2.2 ≤ 100 := by
  intro j
  induction j with
  | zero => intro _; rw [mW1o]; dsimp only; omega
  | succ j ih =>
    intro hj
    rw [mW1o]
    exact mW1i_r2 N x n j hx (by omega) (ih (by omega)) m hm
theorem mRnd_rng {h : fwH} {x : Nat} {y : Int} (hx : x ≤ 10) (hn : h 4 0 1 ≤ 10) : (-1 ≤ (mRnd h x y).1 ∧ (mRnd h x y).1 ≤ 100) ∧ (-1 ≤ (mRnd h x y).2.1 ∧ (mRnd h x y).2.1 ≤ 100) ∧ -1 ≤ (mRnd h x y).2.2 ∧ (mRnd h x y).2.2 ≤ 100 := mW1o_r2 _ _ _ _ hx (by omega) _ (Nat.le_refl _)
def an_goes (h : fwH) (x : Int) (y : Int) (z : Int) : Int := if ((0 ≤ x ∧ x < h 4 0 1) ∧ 1 ≤ y ∧ y ≤ 800) ∧ 0 ≤ z ∧ z ≤ 1 then (if (mRnd h x.toNat y).1 = -1 then -1 else if z = 0 then (mRnd h x.toNat y).2.1 else (mRnd h x.toNat y).2.2) else -2
set_option maxRecDepth 100000 in
set_option maxHeartbeats 4000000 in
theorem c_X11_goes {d : Nat} {h : fwH} {Q : Option fwV → fwH → Prop} (x : Int) (y : Int) (z : Int) (J : cOk h) (hx : -2147483648 ≤ x ∧ x < 2147483648) (hy : -2147483648 ≤ y ∧ y < 2147483648) (hz : -2147483648 ≤ z ∧ z < 2147483648) (k : ∀ g, scr h g → Q (some (aI (an_goes h x y z))) g) : fwCt mX11_goes (d + 6) [aR 0 0, aI x, aI y, aI z] h Q := by
  refine fwCt_of [some (aR 0 0), some (aI x), some (aI y), some (aI z)] rfl rfl rfl ?_
  obtain ⟨hl, hP, hG, hM0, htd, hut, hlw, hhc, ha, hs, hT, hsc⟩ := id J
  have hM : ∀ c : Nat, c < 10 → h 17 0 c ≤ 999 := fun c hc => by have := hM0 c hc; omega
  have hM9 : ∀ c : Nat, c < 10 → 0 ≤ h 17 0 c ∧ h 17 0 c ≤ 900 := fun c hc => by have := hM0 c hc; omega
  obtain ⟨⟨g1, g2⟩, ⟨g3, g4⟩, ⟨g5, g6⟩, g7, g8⟩ := id hG
  have hpz := hP.1
  refine w_aload_n dX11_goes_0 rfl ?_
  refine w_iload_n dX11_goes_1 rfl ?_
  refine w_iload_n dX11_goes_2 rfl ?_
  refine w_callV (d := d + 5) (S := []) [aI x, aI y] dX11_goes_3 ml_X11_238 ok_X11_isWalk vi_X11_isWalk rfl rfl (by decide) rfl (Nat.le_of_ble_eq_true rfl) ?_
  refine c_X11_isWalk (d := (d + 4)) x y J (by first | assumption | omega | decide) (by first | assumption | omega | decide) ?_
  show fwWP mX11_goes (d + 6) 6 [some (aR 0 0), some (aI x), some (aI y), some (aI z)] [aI (fwB ((0 ≤ x ∧ x < h 4 0 1) ∧ 1 ≤ y ∧ y ≤ 800))] h Q
  refine w_ifB_eq 18 dX11_goes_6 (by decide) (fun c6 => ?_) (fun c6 => ?_)
  · refine w_bipush dX11_goes_18 rfl ?_
    exact w_iretE dX11_goes_20 rfl (by unfold an_goes; first | (rw [if_neg (by omega)]; done) | (rw [if_pos (by omega)]; show _ = if (mRnd h f y).1 = -1 then -1 else if z = 0 then (mRnd h f y).2.1 else (mRnd h f y).2.2; first | (rw [if_pos (by omega)]; done) | (rw [if_neg (by omega), if_pos (by omega), (hrq.2.resolve_left (by omega))]; done) | (rw [if_neg (by omega), if_neg (by omega), (hrq.2.resolve_left (by omega))]; done))) (k _ (scr_rf hsc))
  · refine w_iload_n dX11_goes_9 rfl ?_
    refine w_if_lt 18 dX11_goes_10 (by decide) (by omega) (fun c10 => ?_) (fun c10 => ?_)
    · refine w_bipush dX11_goes_18 rfl ?_
      exact w_iretE dX11_goes_20 rfl (by unfold an_goes; first | (rw [if_neg (by omega)]; done) | (rw [if_pos (by omega)]; show _ = if (mRnd h f y).1 = -1 then -1 else if z = 0 then (mRnd h f y).2.1 else (mRnd h f y).2.2; first | (rw [if_pos (by omega)]; done) | (rw [if_neg (by omega), if_pos (by omega), (hrq.2.resolve_left (by omega))]; done) | (rw [if_neg (by omega), if_neg (by omega), (hrq.2.resolve_left (by omega))]; done))) (k _ (scr_rf hsc))
    · refine w_iload_n dX11_goes_13 rfl ?_
      refine w_iconst dX11_goes_14 ?_
      refine w_icmp_le 21 dX11_goes_15 (by decide) (by omega) (by omega) (fun c15 => ?_) (fun c15 => ?_)
      · refine w_aload_n dX11_goes_21 rfl ?_
        refine w_getr 7 0 dX11_goes_22 fl_X11_66 rfl (by decide) ?_
        refine w_iload_n dX11_goes_25 rfl ?_
        refine w_iload_n dX11_goes_26 rfl ?_
        obtain ⟨f, rfl⟩ : ∃ f : Nat, x = (f : Int) := ⟨x.toNat, by omega⟩
        refine w_callV (d := d + 5) (S := []) [aI (f : Int), aI y] dX11_goes_27 ml_X11_241 ok_X10_walkOne vi_X10_walkOne rfl rfl (by decide) rfl (Nat.le_of_ble_eq_true rfl) ?_
        refine c_X10_walkOne (d := d) f y hP hG (by omega) hM hsc.1 (by omega) (by omega) ?_
        intro A27 B27
        show fwWP mX11_goes (d + 6) 30 [some (aR 0 0), some (aI (f : Int)), some (aI y), some (aI z)] [aI ((mW1o (mAh (h 18 0) (mWil h 0) (h 5 0 3).toNat) f y ((h 4 0 1).toNat - f) (-1, h 7 0 2, h 7 0 3) (f + 1)).1)] (fwUp (fwUp (fwUc (fwUc (fwUc h 19 0 A27) 20 0 B27) 25 0 (mAh (h 18 0) (mWil h 0) (h 5 0 3).toNat)) 7 0 2 (mW1o (mAh (h 18 0) (mWil h 0) (h 5 0 3).toNat) f y ((h 4 0 1).toNat - f) (-1, h 7 0 2, h 7 0 3) (f + 1)).2.1) 7 0 3 (mW1o (mAh (h 18 0) (mWil h 0) (h 5 0 3).toNat) f y ((h 4 0 1).toNat - f) (-1, h 7 0 2, h 7 0 3) (f + 1)).2.2) Q
        have hrq := mRnd_q h f y
        have hq1 := hrq.1
        have hrg := mRnd_rng (h := h) (x := f) (y := y) (by omega) (by omega)
        refine w_iconst dX11_goes_30 ?_
        refine w_icmp_ne 36 dX11_goes_31 (by decide) (by omega) (by omega) (fun c31 => ?_) (fun c31 => ?_)
        · refine w_iload_n dX11_goes_36 rfl ?_
          refine w_if_ne 50 dX11_goes_37 (by decide) (by omega) (fun c37 => ?_) (fun c37 => ?_)
          · refine w_aload_n dX11_goes_50 rfl ?_
            refine w_getr 7 0 dX11_goes_51 fl_X11_66 rfl (by decide) ?_
            refine w_getiE (v := (mW1o (mAh (h 18 0) (mWil h 0) (h 5 0 3).toNat) f y ((h 4 0 1).toNat - f) (-1, h 7 0 2, h 7 0 3) (f + 1)).2.2) dX11_goes_54 fl_X11_247 rfl (by decide) rfl ?_
            exact w_iretE dX11_goes_57 rfl (by unfold an_goes; first | (rw [if_neg (by omega)]; done) | (rw [if_pos (by omega)]; show _ = if (mRnd h f y).1 = -1 then -1 else if z = 0 then (mRnd h f y).2.1 else (mRnd h f y).2.2; first | (rw [if_pos (by omega)]; done) | (rw [if_neg (by omega), if_pos (by omega), (hrq.2.resolve_left (by omega))]; done) | (rw [if_neg (by omega), if_neg (by omega), (hrq.2.resolve_left (by omega))]; done))) (k _ (scr_up (scr_up (scr_25 (scr_uc (scr_uc (scr_rf hsc) rfl (by decide) (by decide) (by decide)) rfl (by decide) (by decide) (by decide)) rfl) rfl (by decide) (by decide) (by decide)) rfl (by decide) (by decide) (by decide)))
          · refine w_aload_n dX11_goes_40 rfl ?_
            refine w_getr 7 0 dX11_goes_41 fl_X11_66 rfl (by decide) ?_
            refine w_getiE (v := (mW1o (mAh (h 18 0) (mWil h 0) (h 5 0 3).toNat) f y ((h 4 0 1).toNat - f) (-1, h 7 0 2, h 7 0 3) (f + 1)).2.1) dX11_goes_44 fl_X11_244 rfl (by decide) rfl ?_
            refine w_goto 57 dX11_goes_47 (by decide) ?_
            exact w_iretE dX11_goes_57 rfl (by unfold an_goes; first | (rw [if_neg (by omega)]; done) | (rw [if_pos (by omega)]; show _ = if (mRnd h f y).1 = -1 then -1 else if z = 0 then (mRnd h f y).2.1 else (mRnd h f y).2.2; first | (rw [if_pos (by omega)]; done) | (rw [if_neg (by omega), if_pos (by omega), (hrq.2.resolve_left (by omega))]; done) | (rw [if_neg (by omega), if_neg (by omega), (hrq.2.resolve_left (by omega))]; done))) (k _ (scr_up (scr_up (scr_25 (scr_uc (scr_uc (scr_rf hsc) rfl (by decide) (by decide) (by decide)) rfl (by decide) (by decide) (by decide)) rfl) rfl (by decide) (by decide) (by decide)) rfl (by decide) (by decide) (by decide)))
        · refine w_iconst dX11_goes_34 ?_
          exact w_iretE dX11_goes_35 rfl (by unfold an_goes; first | (rw [if_neg (by omega)]; done) | (rw [if_pos (by omega)]; show _ = if (mRnd h f y).1 = -1 then -1 else if z = 0 then (mRnd h f y).2.1 else (mRnd h f y).2.2; first | (rw [if_pos (by omega)]; done) | (rw [if_neg (by omega), if_pos (by omega), (hrq.2.resolve_left (by omega))]; done) | (rw [if_neg (by omega), if_neg (by omega), (hrq.2.resolve_left (by omega))]; done))) (k _ (scr_up (scr_up (scr_25 (scr_uc (scr_uc (scr_rf hsc) rfl (by decide) (by decide) (by decide)) rfl (by decide) (by decide) (by decide)) rfl) rfl (by decide) (by decide) (by decide)) rfl (by decide) (by decide) (by decide)))
      · refine w_bipush dX11_goes_18 rfl ?_
        exact w_iretE dX11_goes_20 rfl (by unfold an_goes; first | (rw [if_neg (by omega)]; done) | (rw [if_pos (by omega)]; show _ = if (mRnd h f y).1 = -1 then -1 else if z = 0 then (mRnd h f y).2.1 else (mRnd h f y).2.2; first | (rw [if_pos (by omega)]; done) | (rw [if_neg (by omega), if_pos (by omega), (hrq.2.resolve_left (by omega))]; done) | (rw [if_neg (by omega), if_neg (by omega), (hrq.2.resolve_left (by omega))]; done))) (k _ (scr_rf hsc))
def an_two (h : fwH) (x : Int) (y : Int) (z : Int) : Int := if (0 ≤ x ∧ x < h 4 0 1) ∧ (0 ≤ y ∧ y < h 4 0 1) ∧ 1 ≤ z ∧ z ≤ 800 then mT2o (mAh (h 18 0) (mWil h 0) (h 5 0 3).toNat) x.toNat y.toNat z ((h 4 0 1).toNat - x.toNat) ((h 4 0 1).toNat - y.toNat) (x.toNat + 1) else -2
set_option maxRecDepth 100000 in
set_option maxHeartbeats 4000000 in
theorem c_X11_two {d : Nat} {h : fwH} {Q : Option fwV → fwH → Prop} (x : Int) (y : Int) (z : Int) (J : cOk h) (hx : -2147483648 ≤ x ∧ x < 2147483648) (hy : -2147483648 ≤ y ∧ y < 2147483648) (hz : -2147483648 ≤ z ∧ z < 2147483648) (k : ∀ g, scr h g → Q (some (aI (an_two h x y z))) g) : fwCt mX11_two (d + 6) [aR 0 0, aI x, aI y, aI z] h Q := by
  refine fwCt_of [some (aR 0 0), some (aI x), some (aI y), some (aI z)] rfl rfl rfl ?_
  obtain ⟨hl, hP, hG, hM0, htd, hut, hlw, hhc, ha, hs, hT, hsc⟩ := id J
  have hM : ∀ c : Nat, c < 10 → h 17 0 c ≤ 999 := fun c hc => by have := hM0 c hc; omega
  have hM9 : ∀ c : Nat, c < 10 → 0 ≤ h 17 0 c ∧ h 17 0 c ≤ 900 := fun c hc => by have := hM0 c hc; omega
  obtain ⟨⟨g1, g2⟩, ⟨g3, g4⟩, ⟨g5, g6⟩, g7, g8⟩ := id hG
  have hpz := hP.1
  refine w_aload_n dX11_two_0 rfl ?_
  refine w_iload_n dX11_two_1 rfl ?_
  refine w_iload_n dX11_two_2 rfl ?_
  refine w_callV (d := d + 5) (S := []) [aI x, aI z] dX11_two_3 ml_X11_238 ok_X11_isWalk vi_X11_isWalk rfl rfl (by decide) rfl (Nat.le_of_ble_eq_true rfl) ?_
  refine c_X11_isWalk (d := (d + 4)) x z J (by first | assumption | omega | decide) (by first | assumption | omega | decide) ?_
  show fwWP mX11_two (d + 6) 6 [some (aR 0 0), some (aI x), some (aI y), some (aI z)] [aI (fwB ((0 ≤ x ∧ x < h 4 0 1) ∧ 1 ≤ z ∧ z ≤ 800))] h Q
  refine w_ifB_eq 31 dX11_two_6 (by decide) (fun c6 => ?_) (fun c6 => ?_)
  · refine w_bipush dX11_two_31 rfl ?_
    exact w_iretE dX11_two_33 rfl (by unfold an_two; first | (rw [if_pos (by omega)]; done) | (rw [if_neg (by omega)]; done) | (rw [if_pos (by omega)]; first | rfl | omega) | (rw [if_neg (by omega)]; first | rfl | omega)) (k _ (scr_rf hsc))
  · refine w_aload_n dX11_two_9 rfl ?_
    refine w_iload_n dX11_two_10 rfl ?_
    refine w_iload_n dX11_two_11 rfl ?_
    refine w_callV (d := d + 5) (S := []) [aI y, aI z] dX11_two_12 ml_X11_238 ok_X11_isWalk vi_X11_isWalk rfl rfl (by decide) rfl (Nat.le_of_ble_eq_true rfl) ?_
    refine c_X11_isWalk (d := (d + 4)) y z J (by first | assumption | omega | decide) (by first | assumption | omega | decide) ?_
    show fwWP mX11_two (d + 6) 15 [some (aR 0 0), some (aI x), some (aI y), some (aI z)] [aI (fwB ((0 ≤ y ∧ y < h 4 0 1) ∧ 1 ≤ z ∧ z ≤ 800))] h Q
    refine w_ifB_eq 31 dX11_two_15 (by decide) (fun c15 => ?_) (fun c15 => ?_)
    · refine w_bipush dX11_two_31 rfl ?_
      exact w_iretE dX11_two_33 rfl (by unfold an_two; first | (rw [if_pos (by omega)]; done) | (rw [if_neg (by omega)]; done) | (rw [if_pos (by omega)]; first | rfl | omega) | (rw [if_neg (by omega)]; first | rfl | omega)) (k _ (scr_rf hsc))
    · refine w_aload_n dX11_two_18 rfl ?_
      refine w_getr 7 0 dX11_two_19 fl_X11_66 rfl (by decide) ?_
      refine w_iload_n dX11_two_22 rfl ?_
      refine w_iload_n dX11_two_23 rfl ?_
      refine w_iload_n dX11_two_24 rfl ?_
      obtain ⟨f, rfl⟩ : ∃ f : Nat, x = (f : Int) := ⟨x.toNat, by omega⟩
      obtain ⟨u, rfl⟩ : ∃ u : Nat, y = (u : Int) := ⟨y.toNat, by omega⟩
      refine w_callV (d := d + 5) (S := []) [aI (f : Int), aI (u : Int), aI z] dX11_two_25 ml_X11_250 ok_X10_walkTwo vi_X10_walkTwo rfl rfl (by decide) rfl (Nat.le_of_ble_eq_true rfl) ?_
      refine c_X10_walkTwo (d := d) f u z hP hG (by omega) hM hsc.1 (by omega) (by omega) (by omega) ?_
      intro A25 B25
      show fwWP mX11_two (d + 6) 28 [some (aR 0 0), some (aI (f : Int)), some (aI (u : Int)), some (aI z)] [aI (mT2o (mAh (h 18 0) (mWil h 0) (h 5 0 3).toNat) f u z ((h 4 0 1).toNat - f) ((h 4 0 1).toNat - u) (f + 1))] (fwUc (fwUc (fwUc h 19 0 A25) 20 0 B25) 25 0 (mAh (h 18 0) (mWil h 0) (h 5 0 3).toNat)) Q
      refine w_goto 33 dX11_two_28 (by decide) ?_
      exact w_iretE dX11_two_33 rfl (by unfold an_two; first | (rw [if_pos (by omega)]; done) | (rw [if_neg (by omega)]; done) | (rw [if_pos (by omega)]; first | rfl | omega) | (rw [if_neg (by omega)]; first | rfl | omega)) (k _ (scr_25 (scr_uc (scr_uc (scr_rf hsc) rfl (by decide) (by decide) (by decide)) rfl (by decide) (by decide) (by decide)) rfl))
def an_flows (h : fwH) (x : Int) : Int := if 0 ≤ x ∧ x < h 4 0 1 then mDesc (h 4 0 1) (h 17 0) 0 10 x else -2
set_option maxRecDepth 100000 in
set_option maxHeartbeats 4000000 in
theorem c_X11_flows {d : Nat} {h : fwH} {Q : Option fwV → fwH → Prop} (x : Int) (J : cOk h) (hx : -2147483648 ≤ x ∧ x < 2147483648) (k : ∀ g, scr h g → Q (some (aI (an_flows h x))) g) : fwCt mX11_flows (d + 4) [aR 0 0, aI x] h Q := by
  refine fwCt_of [some (aR 0 0), some (aI x)] rfl rfl rfl ?_
  obtain ⟨hl, hP, hG, hM0, htd, hut, hlw, hhc, ha, hs, hT, hsc⟩ := id J
  have hM : ∀ c : Nat, c < 10 → h 17 0 c ≤ 999 := fun c hc => by have := hM0 c hc; omega
  have hM9 : ∀ c : Nat, c < 10 → 0 ≤ h 17 0 c ∧ h 17 0 c ≤ 900 := fun c hc => by have := hM0 c hc; omega
  obtain ⟨⟨g1, g2⟩, ⟨g3, g4⟩, ⟨g5, g6⟩, g7, g8⟩ := id hG
  have hpz := hP.1
  refine w_aload_n dX11_flows_0 rfl ?_
  refine w_getr 3 0 dX11_flows_1 fl_X11_28 rfl (by decide) ?_
  refine w_getr 4 0 dX11_flows_4 fl_X11_139 rfl (by decide) ?_
  refine w_iload_n dX11_flows_7 rfl ?_
  refine w_callV (d := d + 3) (S := []) [aI x] dX11_flows_8 ml_X11_142 ok_X1_has vi_X1_has rfl rfl (by decide) rfl (Nat.le_of_ble_eq_true rfl) ?_
  refine c_X1_has (d := (d + 3)) 0 x (by decide) (by first | assumption | omega | decide) (by first | assumption | omega | decide) ?_
  show fwWP mX11_flows (d + 4) 11 [some (aR 0 0), some (aI x)] [aI (fwB (0 ≤ x ∧ x < h 4 0 1))] h Q
  refine w_ifB_eq 28 dX11_flows_11 (by decide) (fun c11 => ?_) (fun c11 => ?_)
  · refine w_bipush dX11_flows_28 rfl ?_
    exact w_iretE dX11_flows_30 rfl (by unfold an_flows; first | (rw [if_pos (by omega)]; done) | (rw [if_neg (by omega)]; done) | (rw [if_pos (by omega)]; first | rfl | omega) | (rw [if_neg (by omega)]; first | rfl | omega)) (k _ (scr_rf hsc))
  · refine w_aload_n dX11_flows_14 rfl ?_
    refine w_getr 3 0 dX11_flows_15 fl_X11_28 rfl (by decide) ?_
    refine w_getr 4 0 dX11_flows_18 fl_X11_139 rfl (by decide) ?_
    refine w_iload_n dX11_flows_21 rfl ?_
    refine w_callV (d := d + 3) (S := []) [aI x] dX11_flows_22 ml_X11_254 ok_X1_waterEnd vi_X1_waterEnd rfl rfl (by decide) rfl (Nat.le_of_ble_eq_true rfl) ?_
    refine c_X1_waterEnd (d := d) 0 x (by decide) (by first | assumption | omega | decide) (by first | assumption | omega | decide) ?_
    show fwWP mX11_flows (d + 4) 25 [some (aR 0 0), some (aI x)] [aI (mDesc (h 4 0 1) (h 17 0) 0 10 x)] h Q
    refine w_goto 30 dX11_flows_25 (by decide) ?_
    exact w_iretE dX11_flows_30 rfl (by unfold an_flows; first | (rw [if_pos (by omega)]; done) | (rw [if_neg (by omega)]; done) | (rw [if_pos (by omega)]; first | rfl | omega) | (rw [if_neg (by omega)]; first | rfl | omega)) (k _ (scr_rf hsc))
def an_basin (h : fwH) (x : Int) : Int := if 0 ≤ x ∧ x < h 4 0 1 then mBits (fun c => decide (mDesc (h 4 0 1) (h 17 0) 0 10 (c : Int) = x)) (h 4 0 1).toNat else -2
set_option maxRecDepth 100000 in
set_option maxHeartbeats 4000000 in
theorem c_X11_basin {d : Nat} {h : fwH} {Q : Option fwV → fwH → Prop} (x : Int) (J : cOk h) (hx : -2147483648 ≤ x ∧ x < 2147483648) (k : ∀ g, scr h g → Q (some (aI (an_basin h x))) g) : fwCt mX11_basin (d + 5) [aR 0 0, aI x] h Q := by
  refine fwCt_of [some (aR 0 0), some (aI x)] rfl rfl rfl ?_
  obtain ⟨hl, hP, hG, hM0, htd, hut, hlw, hhc, ha, hs, hT, hsc⟩ := id J
  have hM : ∀ c : Nat, c < 10 → h 17 0 c ≤ 999 := fun c hc => by have := hM0 c hc; omega
  have hM9 : ∀ c : Nat, c < 10 → 0 ≤ h 17 0 c ∧ h 17 0 c ≤ 900 := fun c hc => by have := hM0 c hc; omega
  obtain ⟨⟨g1, g2⟩, ⟨g3, g4⟩, ⟨g5, g6⟩, g7, g8⟩ := id hG
  have hpz := hP.1
  refine w_aload_n dX11_basin_0 rfl ?_
  refine w_getr 3 0 dX11_basin_1 fl_X11_28 rfl (by decide) ?_
  refine w_getr 4 0 dX11_basin_4 fl_X11_139 rfl (by decide) ?_
  refine w_iload_n dX11_basin_7 rfl ?_
  refine w_callV (d := d + 4) (S := []) [aI x] dX11_basin_8 ml_X11_142 ok_X1_has vi_X1_has rfl rfl (by decide) rfl (Nat.le_of_ble_eq_true rfl) ?_
  refine c_X1_has (d := (d + 4)) 0 x (by decide) (by first | assumption | omega | decide) (by first | assumption | omega | decide) ?_
  show fwWP mX11_basin (d + 5) 11 [some (aR 0 0), some (aI x)] [aI (fwB (0 ≤ x ∧ x < h 4 0 1))] h Q
  refine w_ifB_eq 28 dX11_basin_11 (by decide) (fun c11 => ?_) (fun c11 => ?_)
  · refine w_bipush dX11_basin_28 rfl ?_
    exact w_iretE dX11_basin_30 rfl (by unfold an_basin; first | (rw [if_pos (by omega)]; done) | (rw [if_neg (by omega)]; done) | (rw [if_pos (by omega)]; first | rfl | omega) | (rw [if_neg (by omega)]; first | rfl | omega)) (k _ (scr_rf hsc))
  · refine w_aload_n dX11_basin_14 rfl ?_
    refine w_getr 3 0 dX11_basin_15 fl_X11_28 rfl (by decide) ?_
    refine w_getr 4 0 dX11_basin_18 fl_X11_139 rfl (by decide) ?_
    refine w_iload_n dX11_basin_21 rfl ?_
    refine w_callV (d := d + 4) (S := []) [aI x] dX11_basin_22 ml_X11_257 ok_X1_drainedTo vi_X1_drainedTo rfl rfl (by decide) rfl (Nat.le_of_ble_eq_true rfl) ?_
    refine c_X1_drainedTo (d := d) 0 x (by decide) (by first | assumption | omega | decide) (by first | assumption | omega | decide) ?_
    show fwWP mX11_basin (d + 5) 25 [some (aR 0 0), some (aI x)] [aI (mBits (fun c => decide (mDesc (h 4 0 1) (h 17 0) 0 10 (c : Int) = x)) (h 4 0 1).toNat)] h Q
    refine w_goto 30 dX11_basin_25 (by decide) ?_
    exact w_iretE dX11_basin_30 rfl (by unfold an_basin; first | (rw [if_pos (by omega)]; done) | (rw [if_neg (by omega)]; done) | (rw [if_pos (by omega)]; first | rfl | omega) | (rw [if_neg (by omega)]; first | rfl | omega)) (k _ (scr_rf hsc))
def an_cliffs (h : fwH)  : Int := if 0 < h 3 0 6 then mCliff (h 17 0) (h 4 0 3) ((h 4 0 1).toNat - 1) else -2
set_option maxRecDepth 100000 in
set_option maxHeartbeats 4000000 in
theorem c_X11_cliffs {d : Nat} {h : fwH} {Q : Option fwV → fwH → Prop}  (J : cOk h)  (k : ∀ g, scr h g → Q (some (aI (an_cliffs h ))) g) : fwCt mX11_cliffs (d + 2) [aR 0 0] h Q := by
  refine fwCt_of [some (aR 0 0)] rfl rfl rfl ?_
  obtain ⟨hl, hP, hG, hM0, htd, hut, hlw, hhc, ha, hs, hT, hsc⟩ := id J
  have hM : ∀ c : Nat, c < 10 → h 17 0 c ≤ 999 := fun c hc => by have := hM0 c hc; omega
  have hM9 : ∀ c : Nat, c < 10 → 0 ≤ h 17 0 c ∧ h 17 0 c ≤ 900 := fun c hc => by have := hM0 c hc; omega
  obtain ⟨⟨g1, g2⟩, ⟨g3, g4⟩, ⟨g5, g6⟩, g7, g8⟩ := id hG
  have hpz := hP.1
  refine w_aload_n dX11_cliffs_0 rfl ?_
  refine w_getr 3 0 dX11_cliffs_1 fl_X11_28 rfl (by decide) ?_
  refine w_callV (d := d + 1) (S := []) [] dX11_cliffs_4 ml_X11_157 ok_X2_isTold vi_X2_isTold rfl rfl (by decide) rfl (Nat.le_of_ble_eq_true rfl) ?_
  refine c_X2_isTold (d := (d + 1)) (show 0 ≤ h 3 0 6 ∧ h 3 0 6 ≤ 1000 by first | assumption | omega | decide) ?_
  show fwWP mX11_cliffs (d + 2) 7 [some (aR 0 0)] [aI (fwB (0 < h 3 0 6))] h Q
  refine w_ifB_eq 23 dX11_cliffs_7 (by decide) (fun c7 => ?_) (fun c7 => ?_)
  · refine w_bipush dX11_cliffs_23 rfl ?_
    exact w_iretE dX11_cliffs_25 rfl (by unfold an_cliffs; first | (rw [if_pos (by omega)]; done) | (rw [if_neg (by omega)]; done) | (rw [if_pos (by omega)]; first | rfl | omega) | (rw [if_neg (by omega)]; first | rfl | omega)) (k _ (scr_rf hsc))
  · refine w_aload_n dX11_cliffs_10 rfl ?_
    refine w_getr 3 0 dX11_cliffs_11 fl_X11_28 rfl (by decide) ?_
    refine w_getr 4 0 dX11_cliffs_14 fl_X11_139 rfl (by decide) ?_
    refine w_callV (d := d + 1) (S := []) [] dX11_cliffs_17 ml_X11_260 ok_X1_cliffPairs vi_X1_cliffPairs rfl rfl (by decide) rfl (Nat.le_of_ble_eq_true rfl) ?_
    refine c_X1_cliffPairs (d := d) 0  (by decide) (by first | assumption | omega | decide) ?_
    show fwWP mX11_cliffs (d + 2) 20 [some (aR 0 0)] [aI (mCliff (h 17 0) (h 4 0 3) ((h 4 0 1).toNat - 1))] h Q
    refine w_goto 25 dX11_cliffs_20 (by decide) ?_
    exact w_iretE dX11_cliffs_25 rfl (by unfold an_cliffs; first | (rw [if_pos (by omega)]; done) | (rw [if_neg (by omega)]; done) | (rw [if_pos (by omega)]; first | rfl | omega) | (rw [if_neg (by omega)]; first | rfl | omega)) (k _ (scr_rf hsc))
def an_springs (h : fwH)  : Int := if 0 < h 3 0 6 then mEnds (h 4 0 1) (h 17 0) (h 4 0 1).toNat else -2
set_option maxRecDepth 100000 in
set_option maxHeartbeats 4000000 in
theorem c_X11_springs {d : Nat} {h : fwH} {Q : Option fwV → fwH → Prop}  (J : cOk h)  (k : ∀ g, scr h g → Q (some (aI (an_springs h ))) g) : fwCt mX11_springs (d + 5) [aR 0 0] h Q := by
  refine fwCt_of [some (aR 0 0)] rfl rfl rfl ?_
  obtain ⟨hl, hP, hG, hM0, htd, hut, hlw, hhc, ha, hs, hT, hsc⟩ := id J
  have hM : ∀ c : Nat, c < 10 → h 17 0 c ≤ 999 := fun c hc => by have := hM0 c hc; omega
  have hM9 : ∀ c : Nat, c < 10 → 0 ≤ h 17 0 c ∧ h 17 0 c ≤ 900 := fun c hc => by have := hM0 c hc; omega
  obtain ⟨⟨g1, g2⟩, ⟨g3, g4⟩, ⟨g5, g6⟩, g7, g8⟩ := id hG
  have hpz := hP.1
  refine w_aload_n dX11_springs_0 rfl ?_
  refine w_getr 3 0 dX11_springs_1 fl_X11_28 rfl (by decide) ?_
  refine w_callV (d := d + 4) (S := []) [] dX11_springs_4 ml_X11_157 ok_X2_isTold vi_X2_isTold rfl rfl (by decide) rfl (Nat.le_of_ble_eq_true rfl) ?_
  refine c_X2_isTold (d := (d + 4)) (show 0 ≤ h 3 0 6 ∧ h 3 0 6 ≤ 1000 by first | assumption | omega | decide) ?_
  show fwWP mX11_springs (d + 5) 7 [some (aR 0 0)] [aI (fwB (0 < h 3 0 6))] h Q
  refine w_ifB_eq 23 dX11_springs_7 (by decide) (fun c7 => ?_) (fun c7 => ?_)
  · refine w_bipush dX11_springs_23 rfl ?_
    exact w_iretE dX11_springs_25 rfl (by unfold an_springs; first | (rw [if_pos (by omega)]; done) | (rw [if_neg (by omega)]; done) | (rw [if_pos (by omega)]; first | rfl | omega) | (rw [if_neg (by omega)]; first | rfl | omega)) (k _ (scr_rf hsc))
  · refine w_aload_n dX11_springs_10 rfl ?_
    refine w_getr 3 0 dX11_springs_11 fl_X11_28 rfl (by decide) ?_
    refine w_getr 4 0 dX11_springs_14 fl_X11_139 rfl (by decide) ?_
    refine w_callV (d := d + 4) (S := []) [] dX11_springs_17 ml_X11_263 ok_X1_waterEnds vi_X1_waterEnds rfl rfl (by decide) rfl (Nat.le_of_ble_eq_true rfl) ?_
    refine c_X1_waterEnds (d := d) 0  (by decide) (by first | assumption | omega | decide) ?_
    show fwWP mX11_springs (d + 5) 20 [some (aR 0 0)] [aI (mEnds (h 4 0 1) (h 17 0) (h 4 0 1).toNat)] h Q
    refine w_goto 25 dX11_springs_20 (by decide) ?_
    exact w_iretE dX11_springs_25 rfl (by unfold an_springs; first | (rw [if_pos (by omega)]; done) | (rw [if_neg (by omega)]; done) | (rw [if_pos (by omega)]; first | rfl | omega) | (rw [if_neg (by omega)]; first | rfl | omega)) (k _ (scr_rf hsc))
def an_sees (h : fwH) (x : Int) : Int := if 0 ≤ x ∧ x < h 4 0 1 then mBits (mSeenB (h 17 0) x.toNat) (h 4 0 1).toNat else -2
set_option maxRecDepth 100000 in
set_option maxHeartbeats 4000000 in
theorem c_X11_sees {d : Nat} {h : fwH} {Q : Option fwV → fwH → Prop} (x : Int) (J : cOk h) (hx : -2147483648 ≤ x ∧ x < 2147483648) (k : ∀ g, scr h g → Q (some (aI (an_sees h x))) g) : fwCt mX11_sees (d + 3) [aR 0 0, aI x] h Q := by
  refine fwCt_of [some (aR 0 0), some (aI x)] rfl rfl rfl ?_
  obtain ⟨hl, hP, hG, hM0, htd, hut, hlw, hhc, ha, hs, hT, hsc⟩ := id J
  have hM : ∀ c : Nat, c < 10 → h 17 0 c ≤ 999 := fun c hc => by have := hM0 c hc; omega
  have hM9 : ∀ c : Nat, c < 10 → 0 ≤ h 17 0 c ∧ h 17 0 c ≤ 900 := fun c hc => by have := hM0 c hc; omega
  obtain ⟨⟨g1, g2⟩, ⟨g3, g4⟩, ⟨g5, g6⟩, g7, g8⟩ := id hG
  have hpz := hP.1
  refine w_aload_n dX11_sees_0 rfl ?_
  refine w_getr 3 0 dX11_sees_1 fl_X11_28 rfl (by decide) ?_
  refine w_getr 4 0 dX11_sees_4 fl_X11_139 rfl (by decide) ?_
  refine w_iload_n dX11_sees_7 rfl ?_
  refine w_callV (d := d + 2) (S := []) [aI x] dX11_sees_8 ml_X11_142 ok_X1_has vi_X1_has rfl rfl (by decide) rfl (Nat.le_of_ble_eq_true rfl) ?_
  refine c_X1_has (d := (d + 2)) 0 x (by decide) (by first | assumption | omega | decide) (by first | assumption | omega | decide) ?_
  show fwWP mX11_sees (d + 3) 11 [some (aR 0 0), some (aI x)] [aI (fwB (0 ≤ x ∧ x < h 4 0 1))] h Q
  refine w_ifB_eq 28 dX11_sees_11 (by decide) (fun c11 => ?_) (fun c11 => ?_)
  · refine w_bipush dX11_sees_28 rfl ?_
    exact w_iretE dX11_sees_30 rfl (by unfold an_sees; first | (rw [if_pos (by omega)]; done) | (rw [if_neg (by omega)]; done) | (rw [if_pos (by omega)]; first | rfl | omega) | (rw [if_neg (by omega)]; first | rfl | omega)) (k _ (scr_rf hsc))
  · refine w_aload_n dX11_sees_14 rfl ?_
    refine w_getr 3 0 dX11_sees_15 fl_X11_28 rfl (by decide) ?_
    refine w_getr 4 0 dX11_sees_18 fl_X11_139 rfl (by decide) ?_
    refine w_iload_n dX11_sees_21 rfl ?_
    obtain ⟨f, rfl⟩ : ∃ f : Nat, x = (f : Int) := ⟨x.toNat, by omega⟩
    refine w_callV (d := d + 2) (S := []) [aI (f : Int)] dX11_sees_22 ml_X11_266 ok_X1_seenFrom vi_X1_seenFrom rfl rfl (by decide) rfl (Nat.le_of_ble_eq_true rfl) ?_
    refine c_X1_seenFrom (d := d) 0 f (by decide) hG (by omega) ?_
    show fwWP mX11_sees (d + 3) 25 [some (aR 0 0), some (aI (f : Int))] [aI (mBits (mSeenB (h 17 0) f) (h 4 0 1).toNat)] h Q
    refine w_goto 30 dX11_sees_25 (by decide) ?_
    exact w_iretE dX11_sees_30 rfl (by unfold an_sees; first | (rw [if_pos (by omega)]; done) | (rw [if_neg (by omega)]; done) | (rw [if_pos (by omega)]; first | rfl | omega) | (rw [if_neg (by omega)]; first | rfl | omega)) (k _ (scr_rf hsc))
def an_lookout (h : fwH)  : Int := if 0 < h 3 0 6 then (mLook (h 17 0) (h 4 0 1).toNat (h 4 0 1).toNat).1 else -2
set_option maxRecDepth 100000 in
set_option maxHeartbeats 4000000 in
theorem c_X11_lookout {d : Nat} {h : fwH} {Q : Option fwV → fwH → Prop}  (J : cOk h)  (k : ∀ g, scr h g → Q (some (aI (an_lookout h ))) g) : fwCt mX11_lookout (d + 4) [aR 0 0] h Q := by
  refine fwCt_of [some (aR 0 0)] rfl rfl rfl ?_
  obtain ⟨hl, hP, hG, hM0, htd, hut, hlw, hhc, ha, hs, hT, hsc⟩ := id J
  have hM : ∀ c : Nat, c < 10 → h 17 0 c ≤ 999 := fun c hc => by have := hM0 c hc; omega
  have hM9 : ∀ c : Nat, c < 10 → 0 ≤ h 17 0 c ∧ h 17 0 c ≤ 900 := fun c hc => by have := hM0 c hc; omega
  obtain ⟨⟨g1, g2⟩, ⟨g3, g4⟩, ⟨g5, g6⟩, g7, g8⟩ := id hG
  have hpz := hP.1
  refine w_aload_n dX11_lookout_0 rfl ?_
  refine w_getr 3 0 dX11_lookout_1 fl_X11_28 rfl (by decide) ?_
  refine w_callV (d := d + 3) (S := []) [] dX11_lookout_4 ml_X11_157 ok_X2_isTold vi_X2_isTold rfl rfl (by decide) rfl (Nat.le_of_ble_eq_true rfl) ?_
  refine c_X2_isTold (d := (d + 3)) (show 0 ≤ h 3 0 6 ∧ h 3 0 6 ≤ 1000 by first | assumption | omega | decide) ?_
  show fwWP mX11_lookout (d + 4) 7 [some (aR 0 0)] [aI (fwB (0 < h 3 0 6))] h Q
  refine w_ifB_eq 23 dX11_lookout_7 (by decide) (fun c7 => ?_) (fun c7 => ?_)
  · refine w_bipush dX11_lookout_23 rfl ?_
    exact w_iretE dX11_lookout_25 rfl (by unfold an_lookout; first | (rw [if_pos (by omega)]; done) | (rw [if_neg (by omega)]; done) | (rw [if_pos (by omega)]; first | rfl | omega) | (rw [if_neg (by omega)]; first | rfl | omega)) (k _ (scr_rf hsc))
  · refine w_aload_n dX11_lookout_10 rfl ?_
    refine w_getr 3 0 dX11_lookout_11 fl_X11_28 rfl (by decide) ?_
    refine w_getr 4 0 dX11_lookout_14 fl_X11_139 rfl (by decide) ?_
    refine w_callV (d := d + 3) (S := []) [] dX11_lookout_17 ml_X11_269 ok_X1_bestLookout vi_X1_bestLookout rfl rfl (by decide) rfl (Nat.le_of_ble_eq_true rfl) ?_
    refine c_X1_bestLookout (d := d) 0  (by decide) (by first | assumption | omega | decide) ?_
    show fwWP mX11_lookout (d + 4) 20 [some (aR 0 0)] [aI ((mLook (h 17 0) (h 4 0 1).toNat (h 4 0 1).toNat).1)] h Q
    refine w_goto 25 dX11_lookout_20 (by decide) ?_
    exact w_iretE dX11_lookout_25 rfl (by unfold an_lookout; first | (rw [if_pos (by omega)]; done) | (rw [if_neg (by omega)]; done) | (rw [if_pos (by omega)]; first | rfl | omega) | (rw [if_neg (by omega)]; first | rfl | omega)) (k _ (scr_rf hsc))
theorem hOf_i2 {n : Int} {H : Nat → Int} {f : Nat} (h : (f : Int) < n) : hOf n H (f : Int) = H f := by
  unfold hOf
  rw [if_pos (by omega)]
  rfl
theorem hOf_out {n : Int} {H : Nat → Int} {x : Int} (h : hOf n H x ≠ 0) : 0 ≤ x ∧ x < n := by
  unfold hOf at h
  split at h
  · assumption
  · exact absurd rfl h
theorem hOf_r2 {h : fwH} (J : cOk h) (x : Int) : 0 ≤ hOf (h 4 0 1) (h 17 0) x ∧ hOf (h 4 0 1) (h 17 0) x ≤ 99 := by
  unfold hOf
  split
  · have := J.2.2.2.1 x.toNat (by have := J.2.2.1.1; omega)
    exact this
  · omega
def an_votes (h : fwH) (x : Int) (y : Int) : Int := if hOf (h 4 0 1) (h 17 0) x = 0 ∨ hOf (h 4 0 1) (h 17 0) y = 0 then -2 else mVo h x.toNat y.toNat
set_option maxRecDepth 100000 in
set_option maxHeartbeats 4000000 in
theorem c_X11_votes {d : Nat} {h : fwH} {Q : Option fwV → fwH → Prop} (x : Int) (y : Int) (J : cOk h) (hx : -2147483648 ≤ x ∧ x < 2147483648) (hy : -2147483648 ≤ y ∧ y < 2147483648) (k : ∀ g, scr h g → Q (some (aI (an_votes h x y))) g) : fwCt mX11_votes (d + 4) [aR 0 0, aI x, aI y] h Q := by
  refine fwCt_of [some (aR 0 0), some (aI x), some (aI y)] rfl rfl rfl ?_
  obtain ⟨hl, hP, hG, hM0, htd, hut, hlw, hhc, ha, hs, hT, hsc⟩ := id J
  have hM : ∀ c : Nat, c < 10 → h 17 0 c ≤ 999 := fun c hc => by have := hM0 c hc; omega
  have hM9 : ∀ c : Nat, c < 10 → 0 ≤ h 17 0 c ∧ h 17 0 c ≤ 900 := fun c hc => by have := hM0 c hc; omega
  obtain ⟨⟨g1, g2⟩, ⟨g3, g4⟩, ⟨g5, g6⟩, g7, g8⟩ := id hG
  have hpz := hP.1
  have hox := hOf_r2 J x
  have hoy := hOf_r2 J y
  refine w_aload_n dX11_votes_0 rfl ?_
  refine w_getr 3 0 dX11_votes_1 fl_X11_28 rfl (by decide) ?_
  refine w_getr 4 0 dX11_votes_4 fl_X11_139 rfl (by decide) ?_
  refine w_iload_n dX11_votes_7 rfl ?_
  refine w_callV (d := d + 3) (S := []) [aI x] dX11_votes_8 ml_X11_143 ok_X1_heightOf vi_X1_heightOf rfl rfl (by decide) rfl (Nat.le_of_ble_eq_true rfl) ?_
  refine c_X1_heightOf (d := (d + 3)) 0 x (by decide) (by first | assumption | omega | decide) (by first | assumption | omega | decide) ?_
  show fwWP mX11_votes (d + 4) 11 [some (aR 0 0), some (aI x), some (aI y)] [aI (hOf (h 4 0 1) (h 17 0) x)] h Q
  have hb1 := hOf_rng (n := (h 4 0 1)) (H := (h 17 0)) (b := 1000) (by omega) (by omega) (by assumption) x
  refine w_if_eq 28 dX11_votes_11 (by decide) (by omega) (fun c11 => ?_) (fun c11 => ?_)
  · refine w_bipush dX11_votes_28 rfl ?_
    exact w_iretE dX11_votes_30 rfl (by unfold an_votes; first | (rw [if_pos (by omega)]; done) | (rw [if_neg (by omega)]; rfl)) (k _ (scr_rf hsc))
  · refine w_aload_n dX11_votes_14 rfl ?_
    refine w_getr 3 0 dX11_votes_15 fl_X11_28 rfl (by decide) ?_
    refine w_getr 4 0 dX11_votes_18 fl_X11_139 rfl (by decide) ?_
    refine w_iload_n dX11_votes_21 rfl ?_
    refine w_callV (d := d + 3) (S := []) [aI y] dX11_votes_22 ml_X11_143 ok_X1_heightOf vi_X1_heightOf rfl rfl (by decide) rfl (Nat.le_of_ble_eq_true rfl) ?_
    refine c_X1_heightOf (d := (d + 3)) 0 y (by decide) (by first | assumption | omega | decide) (by first | assumption | omega | decide) ?_
    show fwWP mX11_votes (d + 4) 25 [some (aR 0 0), some (aI x), some (aI y)] [aI (hOf (h 4 0 1) (h 17 0) y)] h Q
    have hb3 := hOf_rng (n := (h 4 0 1)) (H := (h 17 0)) (b := 1000) (by omega) (by omega) (by assumption) y
    refine w_if_ne 31 dX11_votes_25 (by decide) (by omega) (fun c25 => ?_) (fun c25 => ?_)
    · refine w_aload_n dX11_votes_31 rfl ?_
      refine w_getr 8 0 dX11_votes_32 fl_X11_75 rfl (by decide) ?_
      have hx1 := hOf_out c11
      have hy1 := hOf_out c25
      obtain ⟨f, rfl⟩ : ∃ f : Nat, x = (f : Int) := ⟨x.toNat, by omega⟩
      obtain ⟨u, rfl⟩ : ∃ u : Nat, y = (u : Int) := ⟨y.toNat, by omega⟩
      have hvx : 0 < h 17 0 f := by have := hOf_i2 (n := h 4 0 1) (H := h 17 0) (f := f) (by omega); have := (hOf_r2 J (f : Int)).1; omega
      have hvy : 0 < h 17 0 u := by have := hOf_i2 (n := h 4 0 1) (H := h 17 0) (f := u) (by omega); have := (hOf_r2 J (u : Int)).1; omega
      refine w_callV (d := d + 3) (S := []) [] dX11_votes_35 ml_X11_272 ok_X7_weighCells vi_X7_weighCells rfl rfl (by decide) rfl (Nat.le_of_ble_eq_true rfl) ?_
      refine c_X7_weighCells (d := d) hP hG (by omega) hM ?_
      show fwWP mX11_votes (d + 4) 38 [some (aR 0 0), some (aI (f : Int)), some (aI (u : Int))] [] (fwUc (fwUc (fwUc h 4 5 (h 4 0)) 17 5 (h 17 0)) 26 0 (mWt h (h 4 0 1).toNat)) Q
      refine w_aload_n dX11_votes_38 rfl ?_
      refine w_getr 8 0 dX11_votes_39 fl_X11_75 rfl (by decide) ?_
      refine w_iload_n dX11_votes_42 rfl ?_
      refine w_iload_n dX11_votes_43 rfl ?_
      refine w_callV (d := d + 3) (S := []) [aI (f : Int), aI (u : Int)] dX11_votes_44 ml_X11_275 ok_X7_votersFor vi_X7_votersFor rfl rfl (by decide) rfl (Nat.le_of_ble_eq_true rfl) ?_
      refine c_X7_votersFor (d := (d + 2)) f u hP hG (mWt_ok (by omega)) (by show _ < h 4 0 1; omega) hvx (by show _ < h 4 0 1; omega) hvy ?_
      show fwWP mX11_votes (d + 4) 47 [some (aR 0 0), some (aI (f : Int)), some (aI (u : Int))] [aI (mVo h f u)] (fwUc (fwUc (fwUc h 4 5 (h 4 0)) 17 5 (h 17 0)) 26 0 (mWt h (h 4 0 1).toNat)) Q
      exact w_iretE dX11_votes_47 rfl (by unfold an_votes; first | (rw [if_pos (by omega)]; done) | (rw [if_neg (by omega)]; rfl)) (k _ (scr_uc (scr_uc (scr_uc (scr_rf hsc) rfl (by decide) (by decide) (by decide)) rfl (by decide) (by decide) (by decide)) rfl (by decide) (by decide) (by decide)))
    · refine w_bipush dX11_votes_28 rfl ?_
      exact w_iretE dX11_votes_30 rfl (by unfold an_votes; first | (rw [if_pos (by omega)]; done) | (rw [if_neg (by omega)]; rfl)) (k _ (scr_rf hsc))
def an_elected (h : fwH)  : Int := if 0 < h 3 0 6 then mEl h else -2
set_option maxRecDepth 100000 in
set_option maxHeartbeats 4000000 in
theorem c_X11_elected {d : Nat} {h : fwH} {Q : Option fwV → fwH → Prop}  (J : cOk h)  (k : ∀ g, scr h g → Q (some (aI (an_elected h ))) g) : fwCt mX11_elected (d + 5) [aR 0 0] h Q := by
  refine fwCt_of [some (aR 0 0)] rfl rfl rfl ?_
  obtain ⟨hl, hP, hG, hM0, htd, hut, hlw, hhc, ha, hs, hT, hsc⟩ := id J
  have hM : ∀ c : Nat, c < 10 → h 17 0 c ≤ 999 := fun c hc => by have := hM0 c hc; omega
  have hM9 : ∀ c : Nat, c < 10 → 0 ≤ h 17 0 c ∧ h 17 0 c ≤ 900 := fun c hc => by have := hM0 c hc; omega
  obtain ⟨⟨g1, g2⟩, ⟨g3, g4⟩, ⟨g5, g6⟩, g7, g8⟩ := id hG
  have hpz := hP.1
  refine w_aload_n dX11_elected_0 rfl ?_
  refine w_getr 3 0 dX11_elected_1 fl_X11_28 rfl (by decide) ?_
  refine w_callV (d := d + 4) (S := []) [] dX11_elected_4 ml_X11_157 ok_X2_isTold vi_X2_isTold rfl rfl (by decide) rfl (Nat.le_of_ble_eq_true rfl) ?_
  refine c_X2_isTold (d := (d + 4)) (show 0 ≤ h 3 0 6 ∧ h 3 0 6 ≤ 1000 by first | assumption | omega | decide) ?_
  show fwWP mX11_elected (d + 5) 7 [some (aR 0 0)] [aI (fwB (0 < h 3 0 6))] h Q
  refine w_ifB_eq 20 dX11_elected_7 (by decide) (fun c7 => ?_) (fun c7 => ?_)
  · refine w_bipush dX11_elected_20 rfl ?_
    exact w_iretE dX11_elected_22 rfl (by unfold an_elected; first | (rw [if_pos (by omega)]; done) | (rw [if_neg (by omega)]; done) | (rw [if_pos (by omega)]; first | rfl | omega) | (rw [if_neg (by omega)]; first | rfl | omega)) (k _ (scr_rf hsc))
  · refine w_aload_n dX11_elected_10 rfl ?_
    refine w_getr 8 0 dX11_elected_11 fl_X11_75 rfl (by decide) ?_
    refine w_callV (d := d + 4) (S := []) [] dX11_elected_14 ml_X11_278 ok_X7_electedCell vi_X7_electedCell rfl rfl (by decide) rfl (Nat.le_of_ble_eq_true rfl) ?_
    refine c_X7_electedCell (d := d) hP hG (by omega) hM ?_
    show fwWP mX11_elected (d + 5) 17 [some (aR 0 0)] [aI (mEl h)] (fwUc (fwUc (fwUc h 4 5 (h 4 0)) 17 5 (h 17 0)) 26 0 (mWt h (h 4 0 1).toNat)) Q
    refine w_goto 22 dX11_elected_17 (by decide) ?_
    exact w_iretE dX11_elected_22 rfl (by unfold an_elected; first | (rw [if_pos (by omega)]; done) | (rw [if_neg (by omega)]; done) | (rw [if_pos (by omega)]; first | rfl | omega) | (rw [if_neg (by omega)]; first | rfl | omega)) (k _ (scr_uc (scr_uc (scr_uc (scr_rf hsc) rfl (by decide) (by decide) (by decide)) rfl (by decide) (by decide) (by decide)) rfl (by decide) (by decide) (by decide)))
theorem shp_bg {h : fwH} (J : cOk h) (n : Nat) : stOk (mShp h n) := mShp_ok J.2.1 J.2.2.1 J.2.2.2.2.2.2.2.2.2.2.2.2 n
def an_shape (h : fwH) (x : Int) : Int := if 0 < h 3 0 6 ∧ 0 ≤ x ∧ x ≤ 3 ∧ x ≤ mSum (h 17 0) (h 4 0 1).toNat then (mShp h x.toNat).2.2.1 else -2
set_option maxRecDepth 100000 in
set_option maxHeartbeats 4000000 in
theorem c_X11_shape {d : Nat} {h : fwH} {Q : Option fwV → fwH → Prop} (x : Int) (J : cOk h) (hx : -2147483648 ≤ x ∧ x < 2147483648) (k : ∀ g, scr h g → Q (some (aI (an_shape h x))) g) : fwCt mX11_shape (d + 10) [aR 0 0, aI x] h Q := by
  refine fwCt_of [some (aR 0 0), some (aI x)] rfl rfl rfl ?_
  obtain ⟨hl, hP, hG, hM0, htd, hut, hlw, hhc, ha, hs, hT, hsc⟩ := id J
  have hM : ∀ c : Nat, c < 10 → h 17 0 c ≤ 999 := fun c hc => by have := hM0 c hc; omega
  have hM9 : ∀ c : Nat, c < 10 → 0 ≤ h 17 0 c ∧ h 17 0 c ≤ 900 := fun c hc => by have := hM0 c hc; omega
  obtain ⟨⟨g1, g2⟩, ⟨g3, g4⟩, ⟨g5, g6⟩, g7, g8⟩ := id hG
  have hpz := hP.1
  refine w_aload_n dX11_shape_0 rfl ?_
  refine w_getr 8 0 dX11_shape_1 fl_X11_75 rfl (by decide) ?_
  refine w_iload_n dX11_shape_4 rfl ?_
  refine w_callV (d := d + 9) (S := []) [aI x] dX11_shape_5 ml_X11_281 ok_X7_canShape vi_X7_canShape rfl rfl (by decide) rfl (Nat.le_of_ble_eq_true rfl) ?_
  refine c_X7_canShape (d := (d + 7)) x hl hP hG (by omega) ?_
  show fwWP mX11_shape (d + 10) 8 [some (aR 0 0), some (aI x)] [aI (fwB (0 < h 3 0 6 ∧ 0 ≤ x ∧ x ≤ 3 ∧ x ≤ mSum (h 17 0) (h 4 0 1).toNat))] h Q
  refine w_ifB_eq 22 dX11_shape_8 (by decide) (fun c8 => ?_) (fun c8 => ?_)
  · refine w_bipush dX11_shape_22 rfl ?_
    exact w_iretE dX11_shape_24 rfl (by unfold an_shape; first | (rw [if_pos (by omega)]; done) | (rw [if_neg (by omega)]; done) | (rw [if_pos (by omega)]; first | rfl | omega) | (rw [if_neg (by omega)]; first | rfl | omega)) (k _ (scr_rf hsc))
  · refine w_aload_n dX11_shape_11 rfl ?_
    refine w_getr 8 0 dX11_shape_12 fl_X11_75 rfl (by decide) ?_
    refine w_iload_n dX11_shape_15 rfl ?_
    obtain ⟨u, rfl⟩ : ∃ u : Nat, x = (u : Int) := ⟨x.toNat, by omega⟩
    refine w_callV (d := d + 9) (S := []) [aI (u : Int)] dX11_shape_16 ml_X11_284 ok_X7_shapeBy vi_X7_shapeBy rfl rfl (by decide) rfl (Nat.le_of_ble_eq_true rfl) ?_
    refine c_X7_shapeBy (d := d) u hP hG (by omega) hM (by omega) hsc.2 ?_
    intro A16
    show fwWP mX11_shape (d + 10) 19 [some (aR 0 0), some (aI (u : Int))] [aI ((mShp h u).2.2.1)] (shpH h u A16) Q
    have hbg := shp_bg J u
    refine w_goto 24 dX11_shape_19 (by decide) ?_
    exact w_iretE dX11_shape_24 rfl (by unfold an_shape; first | (rw [if_pos (by omega)]; done) | (rw [if_neg (by omega)]; done) | (rw [if_pos (by omega)]; first | rfl | omega) | (rw [if_neg (by omega)]; first | rfl | omega)) (k _ (scr_uc (scr_uc (scr_uc (scr_uc (scr_8 (scr_uc (scr_rf hsc) rfl (by decide) (by decide) (by decide)) hbg.2) rfl (by decide) (by decide) (by decide)) rfl (by decide) (by decide) (by decide)) rfl (by decide) (by decide) (by decide)) rfl (by decide) (by decide) (by decide)))
def an_shaped (h : fwH) (x : Int) (y : Int) : Int := if 0 < h 3 0 6 ∧ 0 ≤ x ∧ x ≤ 3 ∧ x ≤ mSum (h 17 0) (h 4 0 1).toNat then (if 0 ≤ y ∧ y < x then (mShp h x.toNat).2.2.2 y.toNat else -1) else -2
set_option maxRecDepth 100000 in
set_option maxHeartbeats 4000000 in
theorem c_X11_shaped {d : Nat} {h : fwH} {Q : Option fwV → fwH → Prop} (x : Int) (y : Int) (J : cOk h) (hx : -2147483648 ≤ x ∧ x < 2147483648) (hy : -2147483648 ≤ y ∧ y < 2147483648) (k : ∀ g, scr h g → Q (some (aI (an_shaped h x y))) g) : fwCt mX11_shaped (d + 10) [aR 0 0, aI x, aI y] h Q := by
  refine fwCt_of [some (aR 0 0), some (aI x), some (aI y)] rfl rfl rfl ?_
  obtain ⟨hl, hP, hG, hM0, htd, hut, hlw, hhc, ha, hs, hT, hsc⟩ := id J
  have hM : ∀ c : Nat, c < 10 → h 17 0 c ≤ 999 := fun c hc => by have := hM0 c hc; omega
  have hM9 : ∀ c : Nat, c < 10 → 0 ≤ h 17 0 c ∧ h 17 0 c ≤ 900 := fun c hc => by have := hM0 c hc; omega
  obtain ⟨⟨g1, g2⟩, ⟨g3, g4⟩, ⟨g5, g6⟩, g7, g8⟩ := id hG
  have hpz := hP.1
  refine w_aload_n dX11_shaped_0 rfl ?_
  refine w_getr 8 0 dX11_shaped_1 fl_X11_75 rfl (by decide) ?_
  refine w_iload_n dX11_shaped_4 rfl ?_
  refine w_callV (d := d + 9) (S := []) [aI x] dX11_shaped_5 ml_X11_281 ok_X7_canShape vi_X7_canShape rfl rfl (by decide) rfl (Nat.le_of_ble_eq_true rfl) ?_
  refine c_X7_canShape (d := (d + 7)) x hl hP hG (by omega) ?_
  show fwWP mX11_shaped (d + 10) 8 [some (aR 0 0), some (aI x), some (aI y)] [aI (fwB (0 < h 3 0 6 ∧ 0 ≤ x ∧ x ≤ 3 ∧ x ≤ mSum (h 17 0) (h 4 0 1).toNat))] h Q
  refine w_ifB_ne 14 dX11_shaped_8 (by decide) (fun c8 => ?_) (fun c8 => ?_)
  · refine w_aload_n dX11_shaped_14 rfl ?_
    refine w_getr 8 0 dX11_shaped_15 fl_X11_75 rfl (by decide) ?_
    refine w_iload_n dX11_shaped_18 rfl ?_
    obtain ⟨u, rfl⟩ : ∃ u : Nat, x = (u : Int) := ⟨x.toNat, by omega⟩
    refine w_callV (d := d + 9) (S := []) [aI (u : Int)] dX11_shaped_19 ml_X11_284 ok_X7_shapeBy vi_X7_shapeBy rfl rfl (by decide) rfl (Nat.le_of_ble_eq_true rfl) ?_
    refine c_X7_shapeBy (d := d) u hP hG (by omega) hM (by omega) hsc.2 ?_
    intro A19
    show fwWP mX11_shaped (d + 10) 22 [some (aR 0 0), some (aI (u : Int)), some (aI y)] [aI ((mShp h u).2.2.1)] (shpH h u A19) Q
    have hbg := shp_bg J u
    refine w_pop dX11_shaped_22 rfl ?_
    refine w_iload_n dX11_shaped_23 rfl ?_
    refine w_if_lt 32 dX11_shaped_24 (by decide) (by omega) (fun c24 => ?_) (fun c24 => ?_)
    · refine w_iconst dX11_shaped_32 ?_
      refine w_goto 44 dX11_shaped_33 (by decide) ?_
      exact w_iretE dX11_shaped_44 rfl (by unfold an_shaped; first | (rw [if_neg (by omega)]; done) | (rw [if_pos (by omega), if_neg (by omega)]; done) | (rw [if_pos (by omega), if_pos (by omega)]; rfl)) (k _ (scr_uc (scr_uc (scr_uc (scr_uc (scr_8 (scr_uc (scr_rf hsc) rfl (by decide) (by decide) (by decide)) hbg.2) rfl (by decide) (by decide) (by decide)) rfl (by decide) (by decide) (by decide)) rfl (by decide) (by decide) (by decide)) rfl (by decide) (by decide) (by decide)))
    · refine w_iload_n dX11_shaped_27 rfl ?_
      refine w_iload_n dX11_shaped_28 rfl ?_
      refine w_icmp_lt 36 dX11_shaped_29 (by decide) (by omega) (by omega) (fun c29 => ?_) (fun c29 => ?_)
      · refine w_aload_n dX11_shaped_36 rfl ?_
        refine w_getr 8 0 dX11_shaped_37 fl_X11_75 rfl (by decide) ?_
        refine w_iload_n dX11_shaped_40 rfl ?_
        refine w_callV (d := d + 9) (S := []) [aI y] dX11_shaped_41 ml_X11_287 ok_X7_shapedCell vi_X7_shapedCell rfl rfl (by decide) rfl (Nat.le_of_ble_eq_true rfl) ?_
        refine c_X7_shapedCell (d := (d + 9)) y (by omega) ?_
        show fwWP mX11_shaped (d + 10) 44 [some (aR 0 0), some (aI (u : Int)), some (aI y)] [aI ((mShp h u).2.2.2 (y : Int).toNat)] (shpH h u A19) Q
        exact w_iretE dX11_shaped_44 rfl (by unfold an_shaped; first | (rw [if_neg (by omega)]; done) | (rw [if_pos (by omega), if_neg (by omega)]; done) | (rw [if_pos (by omega), if_pos (by omega)]; rfl)) (k _ (scr_uc (scr_uc (scr_uc (scr_uc (scr_8 (scr_uc (scr_rf hsc) rfl (by decide) (by decide) (by decide)) hbg.2) rfl (by decide) (by decide) (by decide)) rfl (by decide) (by decide) (by decide)) rfl (by decide) (by decide) (by decide)) rfl (by decide) (by decide) (by decide)))
      · refine w_iconst dX11_shaped_32 ?_
        refine w_goto 44 dX11_shaped_33 (by decide) ?_
        exact w_iretE dX11_shaped_44 rfl (by unfold an_shaped; first | (rw [if_neg (by omega)]; done) | (rw [if_pos (by omega), if_neg (by omega)]; done) | (rw [if_pos (by omega), if_pos (by omega)]; rfl)) (k _ (scr_uc (scr_uc (scr_uc (scr_uc (scr_8 (scr_uc (scr_rf hsc) rfl (by decide) (by decide) (by decide)) hbg.2) rfl (by decide) (by decide) (by decide)) rfl (by decide) (by decide) (by decide)) rfl (by decide) (by decide) (by decide)) rfl (by decide) (by decide) (by decide)))
  · refine w_bipush dX11_shaped_11 rfl ?_
    exact w_iretE dX11_shaped_13 rfl (by unfold an_shaped; first | (rw [if_neg (by omega)]; done) | (rw [if_pos (by omega), if_neg (by omega)]; done) | (rw [if_pos (by omega), if_pos (by omega)]; rfl)) (k _ (scr_rf hsc))
def an_best (h : fwH)  : Int := if 0 < h 3 0 6 then (if 1 ≤ mSum (h 17 0) (h 4 0 1).toNat then (mShp h 1).2.2.2 0 else -1) else -2
set_option maxRecDepth 100000 in
set_option maxHeartbeats 4000000 in
theorem c_X11_best {d : Nat} {h : fwH} {Q : Option fwV → fwH → Prop}  (J : cOk h)  (k : ∀ g, scr h g → Q (some (aI (an_best h ))) g) : fwCt mX11_best (d + 10) [aR 0 0] h Q := by
  refine fwCt_of [some (aR 0 0)] rfl rfl rfl ?_
  obtain ⟨hl, hP, hG, hM0, htd, hut, hlw, hhc, ha, hs, hT, hsc⟩ := id J
  have hM : ∀ c : Nat, c < 10 → h 17 0 c ≤ 999 := fun c hc => by have := hM0 c hc; omega
  have hM9 : ∀ c : Nat, c < 10 → 0 ≤ h 17 0 c ∧ h 17 0 c ≤ 900 := fun c hc => by have := hM0 c hc; omega
  obtain ⟨⟨g1, g2⟩, ⟨g3, g4⟩, ⟨g5, g6⟩, g7, g8⟩ := id hG
  have hpz := hP.1
  refine w_aload_n dX11_best_0 rfl ?_
  refine w_getr 3 0 dX11_best_1 fl_X11_28 rfl (by decide) ?_
  refine w_callV (d := d + 9) (S := []) [] dX11_best_4 ml_X11_157 ok_X2_isTold vi_X2_isTold rfl rfl (by decide) rfl (Nat.le_of_ble_eq_true rfl) ?_
  refine c_X2_isTold (d := (d + 9)) (show 0 ≤ h 3 0 6 ∧ h 3 0 6 ≤ 1000 by first | assumption | omega | decide) ?_
  show fwWP mX11_best (d + 10) 7 [some (aR 0 0)] [aI (fwB (0 < h 3 0 6))] h Q
  refine w_ifB_ne 13 dX11_best_7 (by decide) (fun c7 => ?_) (fun c7 => ?_)
  · refine w_aload_n dX11_best_13 rfl ?_
    refine w_getr 8 0 dX11_best_14 fl_X11_75 rfl (by decide) ?_
    refine w_iconst dX11_best_17 ?_
    refine w_callV (d := d + 9) (S := []) [aI 1] dX11_best_18 ml_X11_281 ok_X7_canShape vi_X7_canShape rfl rfl (by decide) rfl (Nat.le_of_ble_eq_true rfl) ?_
    refine c_X7_canShape (d := (d + 7)) 1 hl hP hG (by omega) ?_
    show fwWP mX11_best (d + 10) 21 [some (aR 0 0)] [aI (fwB (0 < h 3 0 6 ∧ 0 ≤ 1 ∧ 1 ≤ 3 ∧ 1 ≤ mSum (h 17 0) (h 4 0 1).toNat))] h Q
    refine w_ifB_ne 26 dX11_best_21 (by decide) (fun c21 => ?_) (fun c21 => ?_)
    · refine w_aload_n dX11_best_26 rfl ?_
      refine w_getr 8 0 dX11_best_27 fl_X11_75 rfl (by decide) ?_
      refine w_iconst dX11_best_30 ?_
      refine w_callV (d := d + 9) (S := []) [aI 1] dX11_best_31 ml_X11_284 ok_X7_shapeBy vi_X7_shapeBy rfl rfl (by decide) rfl (Nat.le_of_ble_eq_true rfl) ?_
      refine c_X7_shapeBy (d := d) 1 hP hG (by omega) hM (by omega) hsc.2 ?_
      intro A31
      show fwWP mX11_best (d + 10) 34 [some (aR 0 0)] [aI ((mShp h 1).2.2.1)] (shpH h 1 A31) Q
      have hbg := shp_bg J 1
      refine w_pop dX11_best_34 rfl ?_
      refine w_aload_n dX11_best_35 rfl ?_
      refine w_getr 8 0 dX11_best_36 fl_X11_75 rfl (by decide) ?_
      refine w_iconst dX11_best_39 ?_
      refine w_callV (d := d + 9) (S := []) [aI 0] dX11_best_40 ml_X11_287 ok_X7_shapedCell vi_X7_shapedCell rfl rfl (by decide) rfl (Nat.le_of_ble_eq_true rfl) ?_
      refine c_X7_shapedCell (d := (d + 9)) 0 (by omega) ?_
      show fwWP mX11_best (d + 10) 43 [some (aR 0 0)] [aI ((mShp h 1).2.2.2 (0 : Int).toNat)] (shpH h 1 A31) Q
      exact w_iretE dX11_best_43 rfl (by unfold an_best; first | (rw [if_neg (by omega)]; done) | (rw [if_pos (by omega), if_neg (by omega)]; done) | (rw [if_pos (by omega), if_pos (by omega)]; rfl)) (k _ (scr_uc (scr_uc (scr_uc (scr_uc (scr_8 (scr_uc (scr_rf hsc) rfl (by decide) (by decide) (by decide)) hbg.2) rfl (by decide) (by decide) (by decide)) rfl (by decide) (by decide) (by decide)) rfl (by decide) (by decide) (by decide)) rfl (by decide) (by decide) (by decide)))
    · refine w_iconst dX11_best_24 ?_
      exact w_iretE dX11_best_25 rfl (by unfold an_best; first | (rw [if_neg (by omega)]; done) | (rw [if_pos (by omega), if_neg (by omega)]; done) | (rw [if_pos (by omega), if_pos (by omega)]; rfl)) (k _ (scr_rf hsc))
  · refine w_bipush dX11_best_10 rfl ?_
    exact w_iretE dX11_best_12 rfl (by unfold an_best; first | (rw [if_neg (by omega)]; done) | (rw [if_pos (by omega), if_neg (by omega)]; done) | (rw [if_pos (by omega), if_pos (by omega)]; rfl)) (k _ (scr_rf hsc))
def an_spoil (h : fwH)  : Int := if 0 < h 3 0 6 then (mSpo h (h 4 0 1).toNat).1 else -2
set_option maxRecDepth 100000 in
set_option maxHeartbeats 4000000 in
theorem c_X11_spoil {d : Nat} {h : fwH} {Q : Option fwV → fwH → Prop}  (J : cOk h)  (k : ∀ g, scr h g → Q (some (aI (an_spoil h ))) g) : fwCt mX11_spoil (d + 5) [aR 0 0] h Q := by
  refine fwCt_of [some (aR 0 0)] rfl rfl rfl ?_
  obtain ⟨hl, hP, hG, hM0, htd, hut, hlw, hhc, ha, hs, hT, hsc⟩ := id J
  have hM : ∀ c : Nat, c < 10 → h 17 0 c ≤ 999 := fun c hc => by have := hM0 c hc; omega
  have hM9 : ∀ c : Nat, c < 10 → 0 ≤ h 17 0 c ∧ h 17 0 c ≤ 900 := fun c hc => by have := hM0 c hc; omega
  obtain ⟨⟨g1, g2⟩, ⟨g3, g4⟩, ⟨g5, g6⟩, g7, g8⟩ := id hG
  have hpz := hP.1
  refine w_aload_n dX11_spoil_0 rfl ?_
  refine w_getr 3 0 dX11_spoil_1 fl_X11_28 rfl (by decide) ?_
  refine w_callV (d := d + 4) (S := []) [] dX11_spoil_4 ml_X11_157 ok_X2_isTold vi_X2_isTold rfl rfl (by decide) rfl (Nat.le_of_ble_eq_true rfl) ?_
  refine c_X2_isTold (d := (d + 4)) (show 0 ≤ h 3 0 6 ∧ h 3 0 6 ≤ 1000 by first | assumption | omega | decide) ?_
  show fwWP mX11_spoil (d + 5) 7 [some (aR 0 0)] [aI (fwB (0 < h 3 0 6))] h Q
  refine w_ifB_eq 20 dX11_spoil_7 (by decide) (fun c7 => ?_) (fun c7 => ?_)
  · refine w_bipush dX11_spoil_20 rfl ?_
    exact w_iretE dX11_spoil_22 rfl (by unfold an_spoil; first | (rw [if_pos (by omega)]; done) | (rw [if_neg (by omega)]; done) | (rw [if_pos (by omega)]; first | rfl | omega) | (rw [if_neg (by omega)]; first | rfl | omega)) (k _ (scr_rf hsc))
  · refine w_aload_n dX11_spoil_10 rfl ?_
    refine w_getr 8 0 dX11_spoil_11 fl_X11_75 rfl (by decide) ?_
    refine w_callV (d := d + 4) (S := []) [] dX11_spoil_14 ml_X11_290 ok_X7_spoilCell vi_X7_spoilCell rfl rfl (by decide) rfl (Nat.le_of_ble_eq_true rfl) ?_
    refine c_X7_spoilCell (d := d) hP hG (by omega) hM ?_
    intro A14
    show fwWP mX11_spoil (d + 5) 17 [some (aR 0 0)] [aI ((mSpo h (h 4 0 1).toNat).1)] (fwUc (fwUc (fwUc h 4 5 (h 4 0)) 17 5 (h 17 0)) 20 0 A14) Q
    refine w_goto 22 dX11_spoil_17 (by decide) ?_
    exact w_iretE dX11_spoil_22 rfl (by unfold an_spoil; first | (rw [if_pos (by omega)]; done) | (rw [if_neg (by omega)]; done) | (rw [if_pos (by omega)]; first | rfl | omega) | (rw [if_neg (by omega)]; first | rfl | omega)) (k _ (scr_uc (scr_uc (scr_uc (scr_rf hsc) rfl (by decide) (by decide) (by decide)) rfl (by decide) (by decide) (by decide)) rfl (by decide) (by decide) (by decide)))
set_option maxRecDepth 100000 in
theorem c_followE {d : Nat} {h : fwH} {Q : Option fwV → fwH → Prop} (x : Int) (u : Nat) (eu : u = mFst (mGoB h x) 60) (hP : pOk h 0) (hG : gOk h 0) (hn : 1 ≤ h 4 0 1) (hM : ∀ c : Nat, c < 10 → h 17 0 c ≤ 999) (hx : 1 ≤ x ∧ x ≤ 999) (k : ∀ A B, Q (some (aI (u : Int))) (fwUc (fwUc (fwUc (fwUc h 4 5 (h 4 0)) 17 5 (mLw h u)) 19 0 A) 20 0 B)) : fwCt mX0_followLaw (d + 5) [aR 9 0, aI x] h Q := by
  refine c_X0_followLaw x hP hG hn hM hx (fun A B => ?_)
  rw [← eu]
  exact k A B
def an_course (h : fwH) (x : Int) : Int := if 0 < h 3 0 6 ∧ 1 ≤ x ∧ x ≤ 999 then ((mFst (mGoB h x) 60 : Nat) : Int) else -2
set_option maxRecDepth 100000 in
set_option maxHeartbeats 4000000 in
theorem c_X11_course {d : Nat} {h : fwH} {Q : Option fwV → fwH → Prop} (x : Int) (J : cOk h) (hx : -2147483648 ≤ x ∧ x < 2147483648) (k : ∀ g, scr h g → Q (some (aI (an_course h x))) g) : fwCt mX11_course (d + 6) [aR 0 0, aI x] h Q := by
  refine fwCt_of [some (aR 0 0), some (aI x)] rfl rfl rfl ?_
  obtain ⟨hl, hP, hG, hM0, htd, hut, hlw, hhc, ha, hs, hT, hsc⟩ := id J
  have hM : ∀ c : Nat, c < 10 → h 17 0 c ≤ 999 := fun c hc => by have := hM0 c hc; omega
  have hM9 : ∀ c : Nat, c < 10 → 0 ≤ h 17 0 c ∧ h 17 0 c ≤ 900 := fun c hc => by have := hM0 c hc; omega
  obtain ⟨⟨g1, g2⟩, ⟨g3, g4⟩, ⟨g5, g6⟩, g7, g8⟩ := id hG
  have hpz := hP.1
  refine w_aload_n dX11_course_0 rfl ?_
  refine w_iload_n dX11_course_1 rfl ?_
  refine w_callV (d := d + 5) (S := []) [aI x] dX11_course_2 ml_X11_293 ok_X11_isLaw vi_X11_isLaw rfl rfl (by decide) rfl (Nat.le_of_ble_eq_true rfl) ?_
  refine c_X11_isLaw (d := (d + 4)) x J (by first | assumption | omega | decide) ?_
  show fwWP mX11_course (d + 6) 5 [some (aR 0 0), some (aI x)] [aI (fwB (0 < h 3 0 6 ∧ 1 ≤ x ∧ x ≤ 999))] h Q
  refine w_ifB_eq 19 dX11_course_5 (by decide) (fun c5 => ?_) (fun c5 => ?_)
  · refine w_bipush dX11_course_19 rfl ?_
    exact w_iretE dX11_course_21 rfl (by unfold an_course; first | (rw [if_neg (by omega)]; done) | (rw [if_pos (by omega), eu9]; done)) (k _ (scr_rf hsc))
  · refine w_aload_n dX11_course_8 rfl ?_
    refine w_getr 9 0 dX11_course_9 fl_X11_82 rfl (by decide) ?_
    refine w_iload_n dX11_course_12 rfl ?_
    refine w_callV (d := d + 5) (S := []) [aI x] dX11_course_13 ml_X11_296 ok_X0_followLaw vi_X0_followLaw rfl rfl (by decide) rfl (Nat.le_of_ble_eq_true rfl) ?_
    obtain ⟨u9, eu9⟩ : ∃ u9, u9 = mFst (mGoB h x) 60 := ⟨_, rfl⟩
    refine c_followE (d := d) x u9 eu9 hP hG (by omega) hM (by omega) ?_
    intro A13 B13
    show fwWP mX11_course (d + 6) 16 [some (aR 0 0), some (aI x)] [aI (u9 : Int)] (fwUc (fwUc (fwUc (fwUc h 4 5 (h 4 0)) 17 5 (mLw h u9)) 19 0 A13) 20 0 B13) Q
    refine w_goto 21 dX11_course_16 (by decide) ?_
    exact w_iretE dX11_course_21 rfl (by unfold an_course; first | (rw [if_neg (by omega)]; done) | (rw [if_pos (by omega), eu9]; done)) (k _ (scr_uc (scr_uc (scr_uc (scr_uc (scr_rf hsc) rfl (by decide) (by decide) (by decide)) rfl (by decide) (by decide) (by decide)) rfl (by decide) (by decide) (by decide)) rfl (by decide) (by decide) (by decide)))
theorem gOk_lw {h : fwH} (J : cOk h) (A B : Nat → Int) (n : Nat) : gOk (fwUc (fwUc (fwUc (fwUc h 4 5 (h 4 0)) 17 5 (mLw h n)) 19 0 A) 20 0 B) 5 := by
  obtain ⟨a, b, c, e, f⟩ := id J.2.2.1
  exact ⟨a, b, c, e, mLowN_rng (by omega) J.2.2.1.2.2.2.2 n⟩
def an_ends (h : fwH) (x : Int) : Int := if 0 < h 3 0 6 ∧ 1 ≤ x ∧ x ≤ 999 then mMax (mLw h (mFst (mGoB h x) 60)) (h 4 0 1).toNat else -2
set_option maxRecDepth 100000 in
set_option maxHeartbeats 4000000 in
theorem c_X11_ends {d : Nat} {h : fwH} {Q : Option fwV → fwH → Prop} (x : Int) (J : cOk h) (hx : -2147483648 ≤ x ∧ x < 2147483648) (k : ∀ g, scr h g → Q (some (aI (an_ends h x))) g) : fwCt mX11_ends (d + 6) [aR 0 0, aI x] h Q := by
  refine fwCt_of [some (aR 0 0), some (aI x)] rfl rfl rfl ?_
  obtain ⟨hl, hP, hG, hM0, htd, hut, hlw, hhc, ha, hs, hT, hsc⟩ := id J
  have hM : ∀ c : Nat, c < 10 → h 17 0 c ≤ 999 := fun c hc => by have := hM0 c hc; omega
  have hM9 : ∀ c : Nat, c < 10 → 0 ≤ h 17 0 c ∧ h 17 0 c ≤ 900 := fun c hc => by have := hM0 c hc; omega
  obtain ⟨⟨g1, g2⟩, ⟨g3, g4⟩, ⟨g5, g6⟩, g7, g8⟩ := id hG
  have hpz := hP.1
  refine w_aload_n dX11_ends_0 rfl ?_
  refine w_iload_n dX11_ends_1 rfl ?_
  refine w_callV (d := d + 5) (S := []) [aI x] dX11_ends_2 ml_X11_293 ok_X11_isLaw vi_X11_isLaw rfl rfl (by decide) rfl (Nat.le_of_ble_eq_true rfl) ?_
  refine c_X11_isLaw (d := (d + 4)) x J (by first | assumption | omega | decide) ?_
  show fwWP mX11_ends (d + 6) 5 [some (aR 0 0), some (aI x)] [aI (fwB (0 < h 3 0 6 ∧ 1 ≤ x ∧ x ≤ 999))] h Q
  refine w_ifB_ne 11 dX11_ends_5 (by decide) (fun c5 => ?_) (fun c5 => ?_)
  · refine w_aload_n dX11_ends_11 rfl ?_
    refine w_getr 9 0 dX11_ends_12 fl_X11_82 rfl (by decide) ?_
    refine w_iload_n dX11_ends_15 rfl ?_
    refine w_callV (d := d + 5) (S := []) [aI x] dX11_ends_16 ml_X11_296 ok_X0_followLaw vi_X0_followLaw rfl rfl (by decide) rfl (Nat.le_of_ble_eq_true rfl) ?_
    obtain ⟨u9, eu9⟩ : ∃ u9, u9 = mFst (mGoB h x) 60 := ⟨_, rfl⟩
    refine c_followE (d := d) x u9 eu9 hP hG (by omega) hM (by omega) ?_
    intro A16 B16
    show fwWP mX11_ends (d + 6) 19 [some (aR 0 0), some (aI x)] [aI (u9 : Int)] (fwUc (fwUc (fwUc (fwUc h 4 5 (h 4 0)) 17 5 (mLw h u9)) 19 0 A16) 20 0 B16) Q
    have hG5 : gOk (fwUc (fwUc (fwUc (fwUc h 4 5 (h 4 0)) 17 5 (mLw h u9)) 19 0 A16) 20 0 B16) 5 := gOk_lw J _ _ _
    refine w_pop dX11_ends_19 rfl ?_
    refine w_aload_n dX11_ends_20 rfl ?_
    refine w_getr 4 5 dX11_ends_21 fl_X11_50 rfl (by decide) ?_
    refine w_callV (d := d + 5) (S := []) [] dX11_ends_24 ml_X11_187 ok_X1_topHeight vi_X1_topHeight rfl rfl (by decide) rfl (Nat.le_of_ble_eq_true rfl) ?_
    refine c_X1_topHeight (d := (d + 4)) 5 (by decide) hG5 ?_
    show fwWP mX11_ends (d + 6) 27 [some (aR 0 0), some (aI x)] [aI (mMax (mLw h u9) ((h 4 0) 1).toNat)] (fwUc (fwUc (fwUc (fwUc h 4 5 (h 4 0)) 17 5 (mLw h u9)) 19 0 A16) 20 0 B16) Q
    exact w_iretE dX11_ends_27 rfl (by unfold an_ends; first | (rw [if_neg (by omega)]; done) | (rw [if_pos (by omega), ← eu9]; done)) (k _ (scr_uc (scr_uc (scr_uc (scr_uc (scr_rf hsc) rfl (by decide) (by decide) (by decide)) rfl (by decide) (by decide) (by decide)) rfl (by decide) (by decide) (by decide)) rfl (by decide) (by decide) (by decide)))
  · refine w_bipush dX11_ends_8 rfl ?_
    exact w_iretE dX11_ends_10 rfl (by unfold an_ends; first | (rw [if_neg (by omega)]; done) | (rw [if_pos (by omega), ← eu9]; done)) (k _ (scr_rf hsc))
def an_left (h : fwH) (x : Int) (y : Int) : Int := if (0 < h 3 0 6 ∧ 1 ≤ x ∧ x ≤ 999) ∧ (0 ≤ y ∧ y < h 5 0 3) then mGain (h 4 0 1) (mLw h (mFst (mGoB h x) 60)) (h 4 0 2) (h 18 0) y.toNat else -1000
set_option maxRecDepth 100000 in
set_option maxHeartbeats 4000000 in
theorem c_X11_left {d : Nat} {h : fwH} {Q : Option fwV → fwH → Prop} (x : Int) (y : Int) (J : cOk h) (hx : -2147483648 ≤ x ∧ x < 2147483648) (hy : -2147483648 ≤ y ∧ y < 2147483648) (k : ∀ g, scr h g → Q (some (aI (an_left h x y))) g) : fwCt mX11_left (d + 6) [aR 0 0, aI x, aI y] h Q := by
  refine fwCt_of [some (aR 0 0), some (aI x), some (aI y)] rfl rfl rfl ?_
  obtain ⟨hl, hP, hG, hM0, htd, hut, hlw, hhc, ha, hs, hT, hsc⟩ := id J
  have hM : ∀ c : Nat, c < 10 → h 17 0 c ≤ 999 := fun c hc => by have := hM0 c hc; omega
  have hM9 : ∀ c : Nat, c < 10 → 0 ≤ h 17 0 c ∧ h 17 0 c ≤ 900 := fun c hc => by have := hM0 c hc; omega
  obtain ⟨⟨g1, g2⟩, ⟨g3, g4⟩, ⟨g5, g6⟩, g7, g8⟩ := id hG
  have hpz := hP.1
  refine w_aload_n dX11_left_0 rfl ?_
  refine w_iload_n dX11_left_1 rfl ?_
  refine w_callV (d := d + 5) (S := []) [aI x] dX11_left_2 ml_X11_293 ok_X11_isLaw vi_X11_isLaw rfl rfl (by decide) rfl (Nat.le_of_ble_eq_true rfl) ?_
  refine c_X11_isLaw (d := (d + 4)) x J (by first | assumption | omega | decide) ?_
  show fwWP mX11_left (d + 6) 5 [some (aR 0 0), some (aI x), some (aI y)] [aI (fwB (0 < h 3 0 6 ∧ 1 ≤ x ∧ x ≤ 999))] h Q
  refine w_ifB_eq 22 dX11_left_5 (by decide) (fun c5 => ?_) (fun c5 => ?_)
  · refine w_sipush dX11_left_22 rfl ?_
    exact w_iretE dX11_left_25 rfl (by unfold an_left; first | (rw [if_neg (by omega)]; done) | (rw [if_pos (by omega), ← eu9]; done) | (rw [if_pos (by omega), ← eu9]; rfl)) (k _ (scr_rf hsc))
  · refine w_aload_n dX11_left_8 rfl ?_
    refine w_getr 3 0 dX11_left_9 fl_X11_28 rfl (by decide) ?_
    refine w_getr 5 0 dX11_left_12 fl_X11_126 rfl (by decide) ?_
    refine w_iload_n dX11_left_15 rfl ?_
    refine w_callV (d := d + 5) (S := []) [aI y] dX11_left_16 ml_X11_130 ok_X3_has vi_X3_has rfl rfl (by decide) rfl (Nat.le_of_ble_eq_true rfl) ?_
    refine c_X3_has (d := (d + 5)) 0 y (by decide) (by first | assumption | omega | decide) (by first | assumption | omega | decide) ?_
    show fwWP mX11_left (d + 6) 19 [some (aR 0 0), some (aI x), some (aI y)] [aI (fwB (0 ≤ y ∧ y < h 5 0 3))] h Q
    refine w_ifB_ne 26 dX11_left_19 (by decide) (fun c19 => ?_) (fun c19 => ?_)
    · refine w_aload_n dX11_left_26 rfl ?_
      refine w_getr 9 0 dX11_left_27 fl_X11_82 rfl (by decide) ?_
      refine w_iload_n dX11_left_30 rfl ?_
      obtain ⟨f, rfl⟩ : ∃ f : Nat, y = (f : Int) := ⟨y.toNat, by omega⟩
      refine w_callV (d := d + 5) (S := []) [aI x] dX11_left_31 ml_X11_296 ok_X0_followLaw vi_X0_followLaw rfl rfl (by decide) rfl (Nat.le_of_ble_eq_true rfl) ?_
      obtain ⟨u9, eu9⟩ : ∃ u9, u9 = mFst (mGoB h x) 60 := ⟨_, rfl⟩
      refine c_followE (d := d) x u9 eu9 hP hG (by omega) hM (by omega) ?_
      intro A31 B31
      show fwWP mX11_left (d + 6) 34 [some (aR 0 0), some (aI x), some (aI (f : Int))] [aI (u9 : Int)] (fwUc (fwUc (fwUc (fwUc h 4 5 (h 4 0)) 17 5 (mLw h u9)) 19 0 A31) 20 0 B31) Q
      have hG5 : gOk (fwUc (fwUc (fwUc (fwUc h 4 5 (h 4 0)) 17 5 (mLw h u9)) 19 0 A31) 20 0 B31) 5 := gOk_lw J _ _ _
      refine w_pop dX11_left_34 rfl ?_
      refine w_aload_n dX11_left_35 rfl ?_
      refine w_getr 3 0 dX11_left_36 fl_X11_28 rfl (by decide) ?_
      refine w_getr 5 0 dX11_left_39 fl_X11_126 rfl (by decide) ?_
      refine w_aload_n dX11_left_42 rfl ?_
      refine w_getr 4 5 dX11_left_43 fl_X11_50 rfl (by decide) ?_
      refine w_iload_n dX11_left_46 rfl ?_
      refine w_callV (d := d + 5) (S := []) [aR 4 5, aI (f : Int)] dX11_left_47 ml_X11_170 ok_X3_gainOn vi_X3_gainOn rfl rfl (by decide) rfl (Nat.le_of_ble_eq_true rfl) ?_
      refine c_X3_gainOn (d := (d + 2)) 0 5 f (by decide) (by decide) hP hG5 (show (f : Int) < h 5 0 3 by omega) ?_
      intro A47
      show fwWP mX11_left (d + 6) 50 [some (aR 0 0), some (aI x), some (aI (f : Int))] [aI (mGain ((h 4 0) 1) (mLw h u9) ((h 4 0) 2) (h 18 0) f)] (fwUc (fwUc (fwUc (fwUc (fwUc h 4 5 (h 4 0)) 17 5 (mLw h u9)) 19 0 A31) 20 0 B31) 20 0 A47) Q
      rw [show (fwUc (fwUc (fwUc (fwUc (fwUc h 4 5 (h 4 0)) 17 5 (mLw h u9)) 19 0 A31) 20 0 B31) 20 0 A47) = (fwUc (fwUc (fwUc (fwUc h 4 5 (h 4 0)) 17 5 (mLw h u9)) 19 0 A31) 20 0 A47) from by funext a b; simp only [fwUc]; (repeat' split); all_goals first | rfl | (exfalso; omega)]
      exact w_iretE dX11_left_50 rfl (by unfold an_left; first | (rw [if_neg (by omega)]; done) | (rw [if_pos (by omega), ← eu9]; done) | (rw [if_pos (by omega), ← eu9]; rfl)) (k _ (scr_uc (scr_uc (scr_uc (scr_uc (scr_rf hsc) rfl (by decide) (by decide) (by decide)) rfl (by decide) (by decide) (by decide)) rfl (by decide) (by decide) (by decide)) rfl (by decide) (by decide) (by decide)))
    · refine w_sipush dX11_left_22 rfl ?_
      exact w_iretE dX11_left_25 rfl (by unfold an_left; first | (rw [if_neg (by omega)]; done) | (rw [if_pos (by omega), ← eu9]; done) | (rw [if_pos (by omega), ← eu9]; rfl)) (k _ (scr_rf hsc))
def an_law (h : fwH) (x : Int) : Int := if 0 < h 3 0 6 ∧ 1 ≤ x ∧ x ≤ 60 then mGrt h x.toNat else -2
set_option maxRecDepth 100000 in
set_option maxHeartbeats 4000000 in
theorem c_X11_law {d : Nat} {h : fwH} {Q : Option fwV → fwH → Prop} (x : Int) (J : cOk h) (hx : -2147483648 ≤ x ∧ x < 2147483648) (k : ∀ g, scr h g → Q (some (aI (an_law h x))) g) : fwCt mX11_law (d + 6) [aR 0 0, aI x] h Q := by
  refine fwCt_of [some (aR 0 0), some (aI x)] rfl rfl rfl ?_
  obtain ⟨hl, hP, hG, hM0, htd, hut, hlw, hhc, ha, hs, hT, hsc⟩ := id J
  have hM : ∀ c : Nat, c < 10 → h 17 0 c ≤ 999 := fun c hc => by have := hM0 c hc; omega
  have hM9 : ∀ c : Nat, c < 10 → 0 ≤ h 17 0 c ∧ h 17 0 c ≤ 900 := fun c hc => by have := hM0 c hc; omega
  obtain ⟨⟨g1, g2⟩, ⟨g3, g4⟩, ⟨g5, g6⟩, g7, g8⟩ := id hG
  have hpz := hP.1
  refine w_aload_n dX11_law_0 rfl ?_
  refine w_getr 3 0 dX11_law_1 fl_X11_28 rfl (by decide) ?_
  refine w_callV (d := d + 5) (S := []) [] dX11_law_4 ml_X11_157 ok_X2_isTold vi_X2_isTold rfl rfl (by decide) rfl (Nat.le_of_ble_eq_true rfl) ?_
  refine c_X2_isTold (d := (d + 5)) (show 0 ≤ h 3 0 6 ∧ h 3 0 6 ≤ 1000 by first | assumption | omega | decide) ?_
  show fwWP mX11_law (d + 6) 7 [some (aR 0 0), some (aI x)] [aI (fwB (0 < h 3 0 6))] h Q
  refine w_ifB_eq 21 dX11_law_7 (by decide) (fun c7 => ?_) (fun c7 => ?_)
  · refine w_bipush dX11_law_21 rfl ?_
    exact w_iretE dX11_law_23 rfl (by unfold an_law; first | (rw [if_pos (by omega)]; done) | (rw [if_neg (by omega)]; done) | (rw [if_pos (by omega)]; first | rfl | omega) | (rw [if_neg (by omega)]; first | rfl | omega)) (k _ (scr_rf hsc))
  · refine w_iload_n dX11_law_10 rfl ?_
    refine w_iconst dX11_law_11 ?_
    refine w_icmp_lt 21 dX11_law_12 (by decide) (by omega) (by omega) (fun c12 => ?_) (fun c12 => ?_)
    · refine w_bipush dX11_law_21 rfl ?_
      exact w_iretE dX11_law_23 rfl (by unfold an_law; first | (rw [if_pos (by omega)]; done) | (rw [if_neg (by omega)]; done) | (rw [if_pos (by omega)]; first | rfl | omega) | (rw [if_neg (by omega)]; first | rfl | omega)) (k _ (scr_rf hsc))
    · refine w_iload_n dX11_law_15 rfl ?_
      refine w_bipush dX11_law_16 rfl ?_
      refine w_icmp_le 24 dX11_law_18 (by decide) (by omega) (by omega) (fun c18 => ?_) (fun c18 => ?_)
      · refine w_aload_n dX11_law_24 rfl ?_
        refine w_getr 9 0 dX11_law_25 fl_X11_82 rfl (by decide) ?_
        refine w_iload_n dX11_law_28 rfl ?_
        obtain ⟨u, rfl⟩ : ∃ u : Nat, x = (u : Int) := ⟨x.toNat, by omega⟩
        refine w_callV (d := d + 5) (S := []) [aI (u : Int)] dX11_law_29 ml_X11_299 ok_X0_greatestLaw vi_X0_greatestLaw rfl rfl (by decide) rfl (Nat.le_of_ble_eq_true rfl) ?_
        refine c_X0_greatestLaw (d := d) u hP hG (by omega) hM (by omega) ?_
        intro H29 A29 B29
        show fwWP mX11_law (d + 6) 32 [some (aR 0 0), some (aI (u : Int))] [aI (mGrt h u)] (fwUc (fwUc (fwUc (fwUc h 4 5 (h 4 0)) 17 5 H29) 19 0 A29) 20 0 B29) Q
        exact w_iretE dX11_law_32 rfl (by unfold an_law; first | (rw [if_pos (by omega)]; done) | (rw [if_neg (by omega)]; done) | (rw [if_pos (by omega)]; first | rfl | omega) | (rw [if_neg (by omega)]; first | rfl | omega)) (k _ (scr_uc (scr_uc (scr_uc (scr_uc (scr_rf hsc) rfl (by decide) (by decide) (by decide)) rfl (by decide) (by decide) (by decide)) rfl (by decide) (by decide) (by decide)) rfl (by decide) (by decide) (by decide)))
      · refine w_bipush dX11_law_21 rfl ?_
        exact w_iretE dX11_law_23 rfl (by unfold an_law; first | (rw [if_pos (by omega)]; done) | (rw [if_neg (by omega)]; done) | (rw [if_pos (by omega)]; first | rfl | omega) | (rw [if_neg (by omega)]; first | rfl | omega)) (k _ (scr_rf hsc))
theorem gOk_dr {h : fwH} (J : cOk h) (A B : Nat → Int) (x : Int) (n : Nat) (ht : 0 < h 3 0 6) : gOk (fwUc (fwUc (fwUc (fwUc h 4 5 (h 4 0)) 17 5 (mDrawn h x n).2) 19 0 A) 20 0 B) 5 := by
  obtain ⟨a, b, c, e, f⟩ := id J.2.2.1
  refine ⟨a, b, c, e, fun k hk => ?_⟩
  show 0 ≤ (mDrawn h x n).2 k ∧ (mDrawn h x n).2 k ≤ 1000
  unfold mDrawn
  split
  · exact f k hk
  · have := mDr_rng (x0 := x) a (J.2.2.2.2.2.2.2.1 ht) (fun c hc => by have := J.2.2.2.1 c hc; omega) n k hk
    omega
def an_drawn (h : fwH) (x : Int) (y : Int) (z : Int) : Int := if (0 < h 3 0 6 ∧ 0 ≤ x ∧ x ≤ 2000000000 ∧ 0 ≤ y ∧ y ≤ 40) ∧ 0 ≤ z ∧ z ≤ 2 then (if z = 0 then (mDrawn h x y.toNat).1 else if z = 1 then mMax (mDrawn h x y.toNat).2 (h 4 0 1).toNat else mSum (mGain (h 4 0 1) (mDrawn h x y.toNat).2 (h 4 0 2) (h 18 0)) (h 5 0 3).toNat) else -2
set_option maxRecDepth 100000 in
set_option maxHeartbeats 4000000 in
theorem c_X11_drawn {d : Nat} {h : fwH} {Q : Option fwV → fwH → Prop} (x : Int) (y : Int) (z : Int) (J : cOk h) (hx : -2147483648 ≤ x ∧ x < 2147483648) (hy : -2147483648 ≤ y ∧ y < 2147483648) (hz : -2147483648 ≤ z ∧ z < 2147483648) (k : ∀ g, scr h g → Q (some (aI (an_drawn h x y z))) g) : fwCt mX11_drawn (d + 5) [aR 0 0, aI x, aI y, aI z] h Q := by
  refine fwCt_of [some (aR 0 0), some (aI x), some (aI y), some (aI z), none] rfl rfl rfl ?_
  obtain ⟨hl, hP, hG, hM0, htd, hut, hlw, hhc, ha, hs, hT, hsc⟩ := id J
  have hM : ∀ c : Nat, c < 10 → h 17 0 c ≤ 999 := fun c hc => by have := hM0 c hc; omega
  have hM9 : ∀ c : Nat, c < 10 → 0 ≤ h 17 0 c ∧ h 17 0 c ≤ 900 := fun c hc => by have := hM0 c hc; omega
  obtain ⟨⟨g1, g2⟩, ⟨g3, g4⟩, ⟨g5, g6⟩, g7, g8⟩ := id hG
  have hpz := hP.1
  refine w_aload_n dX11_drawn_0 rfl ?_
  refine w_iload_n dX11_drawn_1 rfl ?_
  refine w_iload_n dX11_drawn_2 rfl ?_
  refine w_callV (d := d + 4) (S := []) [aI x, aI y] dX11_drawn_3 ml_X11_324 ok_X11_isDraw vi_X11_isDraw rfl rfl (by decide) rfl (Nat.le_of_ble_eq_true rfl) ?_
  refine c_X11_isDraw (d := (d + 3)) x y J (by first | assumption | omega | decide) (by first | assumption | omega | decide) ?_
  show fwWP mX11_drawn (d + 5) 6 [some (aR 0 0), some (aI x), some (aI y), some (aI z), none] [aI (fwB (0 < h 3 0 6 ∧ 0 ≤ x ∧ x ≤ 2000000000 ∧ 0 ≤ y ∧ y ≤ 40))] h Q
  refine w_ifB_eq 18 dX11_drawn_6 (by decide) (fun c6 => ?_) (fun c6 => ?_)
  · refine w_bipush dX11_drawn_18 rfl ?_
    exact w_iretE dX11_drawn_20 rfl (by unfold an_drawn; first | (rw [if_neg (by omega)]; done) | (rw [if_pos (by omega), if_pos (by omega)]; rfl) | (rw [if_pos (by omega), if_neg (by omega), if_pos (by omega)]; rfl) | (rw [if_pos (by omega), if_neg (by omega), if_neg (by omega)]; rfl)) (k _ (scr_rf hsc))
  · refine w_iload_n dX11_drawn_9 rfl ?_
    refine w_if_lt 18 dX11_drawn_10 (by decide) (by omega) (fun c10 => ?_) (fun c10 => ?_)
    · refine w_bipush dX11_drawn_18 rfl ?_
      exact w_iretE dX11_drawn_20 rfl (by unfold an_drawn; first | (rw [if_neg (by omega)]; done) | (rw [if_pos (by omega), if_pos (by omega)]; rfl) | (rw [if_pos (by omega), if_neg (by omega), if_pos (by omega)]; rfl) | (rw [if_pos (by omega), if_neg (by omega), if_neg (by omega)]; rfl)) (k _ (scr_rf hsc))
    · refine w_iload_n dX11_drawn_13 rfl ?_
      refine w_iconst dX11_drawn_14 ?_
      refine w_icmp_le 21 dX11_drawn_15 (by decide) (by omega) (by omega) (fun c15 => ?_) (fun c15 => ?_)
      · refine w_aload_n dX11_drawn_21 rfl ?_
        refine w_getr 9 0 dX11_drawn_22 fl_X11_82 rfl (by decide) ?_
        refine w_iload_n dX11_drawn_25 rfl ?_
        refine w_iload_n dX11_drawn_26 rfl ?_
        refine w_bipush dX11_drawn_27 rfl ?_
        obtain ⟨u, rfl⟩ : ∃ u : Nat, y = (u : Int) := ⟨y.toNat, by omega⟩
        refine w_callV (d := d + 4) (S := []) [aI x, aI (u : Int), aI 40] dX11_drawn_29 ml_X11_327 ok_X0_drawMonths vi_X0_drawMonths rfl rfl (by decide) rfl (Nat.le_of_ble_eq_true rfl) ?_
        refine c_X0_drawMonths (d := d) x u hP hG (by omega) hM hlw (by omega) (by omega) (by omega) (by omega) ?_
        intro A29 B29
        show fwWP mX11_drawn (d + 5) 32 [some (aR 0 0), some (aI x), some (aI (u : Int)), some (aI z), none] [aI ((mDrawn h x u).1)] (fwUc (fwUc (fwUc (fwUc h 4 5 (h 4 0)) 17 5 (mDrawn h x u).2) 19 0 A29) 20 0 B29) Q
        rw [show (fwUc (fwUc (fwUc (fwUc h 4 5 (h 4 0)) 17 5 (mDrawn h x u).2) 19 0 A29) 20 0 B29) = (fwUc (fwUc (fwUc (fwUc h 4 5 (h 4 0)) 17 5 ((mDrawn h x u).2)) 19 0 A29) 20 0 B29) from by funext a b; simp only [fwUc]; (repeat' split); all_goals first | rfl | (exfalso; omega)]
        have hG5 : gOk (fwUc (fwUc (fwUc (fwUc h 4 5 (h 4 0)) 17 5 (mDrawn h x u).2) 19 0 A29) 20 0 B29) 5 := gOk_dr J _ _ _ _ (by omega)
        refine w_istore [some (aR 0 0), some (aI x), some (aI (u : Int)), some (aI z), some (aI ((mDrawn h x u).1))] dX11_drawn_32 rfl (by decide) ?_
        refine w_iload_n dX11_drawn_34 rfl ?_
        refine w_if_ne 41 dX11_drawn_35 (by decide) (by omega) (fun c35 => ?_) (fun c35 => ?_)
        · refine w_iload_n dX11_drawn_41 rfl ?_
          refine w_iconst dX11_drawn_42 ?_
          refine w_icmp_ne 56 dX11_drawn_43 (by decide) (by omega) (by omega) (fun c43 => ?_) (fun c43 => ?_)
          · refine w_aload_n dX11_drawn_56 rfl ?_
            refine w_getr 3 0 dX11_drawn_57 fl_X11_28 rfl (by decide) ?_
            refine w_getr 5 0 dX11_drawn_60 fl_X11_126 rfl (by decide) ?_
            refine w_aload_n dX11_drawn_63 rfl ?_
            refine w_getr 4 5 dX11_drawn_64 fl_X11_50 rfl (by decide) ?_
            refine w_callV (d := d + 4) (S := []) [aR 4 5] dX11_drawn_67 ml_X11_180 ok_X3_gainsOn vi_X3_gainsOn rfl rfl (by decide) rfl (Nat.le_of_ble_eq_true rfl) ?_
            refine c_X3_gainsOn (d := (d + 1)) 0 5 (by decide) (by decide) hP hG5 ?_
            intro A67
            show fwWP mX11_drawn (d + 5) 70 [some (aR 0 0), some (aI x), some (aI (u : Int)), some (aI z), some (aI ((mDrawn h x u).1))] [aI (mSum (mGain ((h 4 0) 1) ((mDrawn h x u).2) ((h 4 0) 2) (h 18 0)) (h 5 0 3).toNat)] (fwUc (fwUc (fwUc (fwUc (fwUc h 4 5 (h 4 0)) 17 5 ((mDrawn h x u).2)) 19 0 A29) 20 0 B29) 20 0 A67) Q
            rw [show (fwUc (fwUc (fwUc (fwUc (fwUc h 4 5 (h 4 0)) 17 5 ((mDrawn h x u).2)) 19 0 A29) 20 0 B29) 20 0 A67) = (fwUc (fwUc (fwUc (fwUc h 4 5 (h 4 0)) 17 5 ((mDrawn h x u).2)) 19 0 A29) 20 0 A67) from by funext a b; simp only [fwUc]; (repeat' split); all_goals first | rfl | (exfalso; omega)]
            exact w_iretE dX11_drawn_70 rfl (by unfold an_drawn; first | (rw [if_neg (by omega)]; done) | (rw [if_pos (by omega), if_pos (by omega)]; rfl) | (rw [if_pos (by omega), if_neg (by omega), if_pos (by omega)]; rfl) | (rw [if_pos (by omega), if_neg (by omega), if_neg (by omega)]; rfl)) (k _ (scr_uc (scr_uc (scr_uc (scr_uc (scr_rf hsc) rfl (by decide) (by decide) (by decide)) rfl (by decide) (by decide) (by decide)) rfl (by decide) (by decide) (by decide)) rfl (by decide) (by decide) (by decide)))
          · refine w_aload_n dX11_drawn_46 rfl ?_
            refine w_getr 4 5 dX11_drawn_47 fl_X11_50 rfl (by decide) ?_
            refine w_callV (d := d + 4) (S := []) [] dX11_drawn_50 ml_X11_187 ok_X1_topHeight vi_X1_topHeight rfl rfl (by decide) rfl (Nat.le_of_ble_eq_true rfl) ?_
            refine c_X1_topHeight (d := (d + 3)) 5 (by decide) hG5 ?_
            show fwWP mX11_drawn (d + 5) 53 [some (aR 0 0), some (aI x), some (aI (u : Int)), some (aI z), some (aI ((mDrawn h x u).1))] [aI (mMax ((mDrawn h x u).2) ((h 4 0) 1).toNat)] (fwUc (fwUc (fwUc (fwUc h 4 5 (h 4 0)) 17 5 ((mDrawn h x u).2)) 19 0 A29) 20 0 B29) Q
            refine w_goto 70 dX11_drawn_53 (by decide) ?_
            exact w_iretE dX11_drawn_70 rfl (by unfold an_drawn; first | (rw [if_neg (by omega)]; done) | (rw [if_pos (by omega), if_pos (by omega)]; rfl) | (rw [if_pos (by omega), if_neg (by omega), if_pos (by omega)]; rfl) | (rw [if_pos (by omega), if_neg (by omega), if_neg (by omega)]; rfl)) (k _ (scr_uc (scr_uc (scr_uc (scr_uc (scr_rf hsc) rfl (by decide) (by decide) (by decide)) rfl (by decide) (by decide) (by decide)) rfl (by decide) (by decide) (by decide)) rfl (by decide) (by decide) (by decide)))
        · refine w_iload dX11_drawn_38 rfl ?_
          exact w_iretE dX11_drawn_40 rfl (by unfold an_drawn; first | (rw [if_neg (by omega)]; done) | (rw [if_pos (by omega), if_pos (by omega)]; rfl) | (rw [if_pos (by omega), if_neg (by omega), if_pos (by omega)]; rfl) | (rw [if_pos (by omega), if_neg (by omega), if_neg (by omega)]; rfl)) (k _ (scr_uc (scr_uc (scr_uc (scr_uc (scr_rf hsc) rfl (by decide) (by decide) (by decide)) rfl (by decide) (by decide) (by decide)) rfl (by decide) (by decide) (by decide)) rfl (by decide) (by decide) (by decide)))
      · refine w_bipush dX11_drawn_18 rfl ?_
        exact w_iretE dX11_drawn_20 rfl (by unfold an_drawn; first | (rw [if_neg (by omega)]; done) | (rw [if_pos (by omega), if_pos (by omega)]; rfl) | (rw [if_pos (by omega), if_neg (by omega), if_pos (by omega)]; rfl) | (rw [if_pos (by omega), if_neg (by omega), if_neg (by omega)]; rfl)) (k _ (scr_rf hsc))
abbrev mLd (h : fwH) (x : Int) : Prop := (0 ≤ x ∧ x < 4) ∧ 0 < h 3 0 6 ∧ h 35 0 x.toNat ≠ -1 ∧ mSi (h 33 x.toNat) (h 35 0 x.toNat) (h 4 0 1)
set_option maxRecDepth 100000 in
theorem c_loadE {d : Nat} {h : fwH} {Q : Option fwV → fwH → Prop} (x : Int) (c : Nat) (ec : c = 21) (J : cOk h) (hx : -2147483648 ≤ x ∧ x < 2147483648) (k : (¬ mLd h x → Q (some (aI (mLdR h x))) h) ∧ (mLd h x → Q (some (aI 0)) (ldH h x.toNat c))) : fwCt mX6_load (d + 4) [aR 10 0, aI x] h Q := by
  obtain ⟨hl, hP, hG, hM0, htd, hut, hlw, hhc, ha, hs, hT, hsc⟩ := id J
  by_cases hd : mLd h x
  · obtain ⟨s, rfl⟩ : ∃ s : Nat, x = (s : Int) := ⟨x.toNat, by have := hd.1; omega⟩
    have hsl : s < 4 := by have := hd.1; omega
    have h3 : h 35 0 s ≠ -1 := hd.2.2.1
    have h4 := (hs s hsl).1
    refine c_X6_load s hP hG (by have := htd hd.2.1; omega) (fun c hc => by have := hM0 c hc; omega) hs (fun c hc => by have := hM0 c hc; omega) hl hd.2.1 hsl (by omega) hd.2.2.2 ?_
    rw [← ec]
    exact k.2 hd
  · exact c_X6_loadNo x hG hs hl hx hd (k.1 hd)
theorem mLdR_n (h : fwH) (x : Int) : mLdR h x = -6 ∨ mLdR h x = -2 := by
  unfold mLdR
  split
  · exact Or.inl rfl
  · exact Or.inr rfl
def an_old (h : fwH) (x : Int) : Int := if mLd h x then mPos h x.toNat 21 else mLdR h x
set_option maxRecDepth 100000 in
set_option maxHeartbeats 4000000 in
theorem c_X11_old {d : Nat} {h : fwH} {Q : Option fwV → fwH → Prop} (x : Int) (J : cOk h) (hx : -2147483648 ≤ x ∧ x < 2147483648) (k : ∀ g, scr h g → Q (some (aI (an_old h x))) g) : fwCt mX11_old (d + 5) [aR 0 0, aI x] h Q := by
  refine fwCt_of [some (aR 0 0), some (aI x), none] rfl rfl rfl ?_
  obtain ⟨hl, hP, hG, hM0, htd, hut, hlw, hhc, ha, hs, hT, hsc⟩ := id J
  have hM : ∀ c : Nat, c < 10 → h 17 0 c ≤ 999 := fun c hc => by have := hM0 c hc; omega
  have hM9 : ∀ c : Nat, c < 10 → 0 ≤ h 17 0 c ∧ h 17 0 c ≤ 900 := fun c hc => by have := hM0 c hc; omega
  obtain ⟨⟨g1, g2⟩, ⟨g3, g4⟩, ⟨g5, g6⟩, g7, g8⟩ := id hG
  have hpz := hP.1
  refine w_aload_n dX11_old_0 rfl ?_
  refine w_getr 10 0 dX11_old_1 fl_X11_91 rfl (by decide) ?_
  refine w_iload_n dX11_old_4 rfl ?_
  refine w_callV (d := d + 4) (S := []) [aI x] dX11_old_5 ml_X11_302 ok_X6_load vi_X6_load rfl rfl (by decide) rfl (Nat.le_of_ble_eq_true rfl) ?_
  obtain ⟨c, ec⟩ : ∃ c : Nat, c = 21 := ⟨_, rfl⟩
  refine c_loadE (d := d) x c ec J (by omega) ⟨fun hld => ?_, fun hld => ?_⟩
  · have hrn := mLdR_n h x
    show fwWP mX11_old (d + 5) 8 [some (aR 0 0), some (aI x), none] [aI (mLdR h x)] h Q
    refine w_istore_n [some (aR 0 0), some (aI x), some (aI (mLdR h x))] dX11_old_8 rfl (by decide) ?_
    refine w_iload_n dX11_old_9 rfl ?_
    refine w_if_eq 17 dX11_old_10 (by decide) (by omega) (fun c10 => ?_) (fun c10 => ?_)
    · (exfalso; omega)
    · refine w_iload_n dX11_old_13 rfl ?_
      refine w_goto 24 dX11_old_14 (by decide) ?_
      exact w_iretE dX11_old_24 rfl (by unfold an_old; first | (rw [if_pos hld, ec]; done) | (rw [if_neg hld]; done)) (k _ (scr_rf hsc))
  · show fwWP mX11_old (d + 5) 8 [some (aR 0 0), some (aI x), none] [aI 0] (ldH h (x).toNat c) Q
    refine w_istore_n [some (aR 0 0), some (aI x), some (aI 0)] dX11_old_8 rfl (by decide) ?_
    refine w_iload_n dX11_old_9 rfl ?_
    refine w_if_eq 17 dX11_old_10 (by decide) (by omega) (fun c10 => ?_) (fun c10 => ?_)
    · refine w_aload_n dX11_old_17 rfl ?_
      refine w_getr 10 0 dX11_old_18 fl_X11_91 rfl (by decide) ?_
      refine w_getiE (v := mPos h (x).toNat c) dX11_old_21 fl_X11_305 rfl (by decide) rfl ?_
      exact w_iretE dX11_old_24 rfl (by unfold an_old; first | (rw [if_pos hld, ec]; done) | (rw [if_neg hld]; done)) (k _ (scr_uc (scr_uc (scr_uc (scr_uc (scr_uc (scr_rf hsc) rfl (by decide) (by decide) (by decide)) rfl (by decide) (by decide) (by decide)) rfl (by decide) (by decide) (by decide)) rfl (by decide) (by decide) (by decide)) rfl (by decide) (by decide) (by decide)))
    · (exfalso; omega)
set_option maxRecDepth 100000 in
theorem c_hmE {d : Nat} {h : fwH} {Q : Option fwV → fwH → Prop} (x e : Nat) (ee : e = 18) (hP : pOk h 0) (hG : gOk h 0) (hn : 1 ≤ h 4 0 1) (hM : ∀ c : Nat, c < 10 → h 17 0 c ≤ 999) (hM9 : ∀ c : Nat, c < 10 → 0 ≤ h 17 0 c ∧ h 17 0 c ≤ 900) (hx : (x : Int) < h 4 0 1) (k : Q (some (aI (mAskF h (h 10 0 7) x e).1)) (askH h x e)) : fwCt mX6_hourToMeasure (d + 3) [aR 10 0, aI (x : Int)] h Q := by
  refine c_X6_hourToMeasure x hP hG hn hM hM9 hx ?_
  rw [← ee]
  exact k
theorem ld_rw (h : fwH) (s c : Nat) : rw5 h (ldH h s c) := ⟨rfl, rfl, rfl, rfl, rfl⟩
def an_ask (h : fwH) (x : Int) (y : Int) : Int := if 0 ≤ y ∧ y < h 4 0 1 then (if mLd h x then (mAskF h (mPos h x.toNat 21) y.toNat 18).1 else mLdR h x) else -2
set_option maxRecDepth 100000 in
set_option maxHeartbeats 4000000 in
theorem c_X11_ask {d : Nat} {h : fwH} {Q : Option fwV → fwH → Prop} (x : Int) (y : Int) (J : cOk h) (hx : -2147483648 ≤ x ∧ x < 2147483648) (hy : -2147483648 ≤ y ∧ y < 2147483648) (k : ∀ g, scr h g → Q (some (aI (an_ask h x y))) g) : fwCt mX11_ask (d + 5) [aR 0 0, aI x, aI y] h Q := by
  refine fwCt_of [some (aR 0 0), some (aI x), some (aI y), none] rfl rfl rfl ?_
  obtain ⟨hl, hP, hG, hM0, htd, hut, hlw, hhc, ha, hs, hT, hsc⟩ := id J
  have hM : ∀ c : Nat, c < 10 → h 17 0 c ≤ 999 := fun c hc => by have := hM0 c hc; omega
  have hM9 : ∀ c : Nat, c < 10 → 0 ≤ h 17 0 c ∧ h 17 0 c ≤ 900 := fun c hc => by have := hM0 c hc; omega
  obtain ⟨⟨g1, g2⟩, ⟨g3, g4⟩, ⟨g5, g6⟩, g7, g8⟩ := id hG
  have hpz := hP.1
  refine w_aload_n dX11_ask_0 rfl ?_
  refine w_getr 3 0 dX11_ask_1 fl_X11_28 rfl (by decide) ?_
  refine w_getr 4 0 dX11_ask_4 fl_X11_139 rfl (by decide) ?_
  refine w_iload_n dX11_ask_7 rfl ?_
  refine w_callV (d := d + 4) (S := []) [aI y] dX11_ask_8 ml_X11_142 ok_X1_has vi_X1_has rfl rfl (by decide) rfl (Nat.le_of_ble_eq_true rfl) ?_
  refine c_X1_has (d := (d + 4)) 0 y (by decide) (by first | assumption | omega | decide) (by first | assumption | omega | decide) ?_
  show fwWP mX11_ask (d + 5) 11 [some (aR 0 0), some (aI x), some (aI y), none] [aI (fwB (0 ≤ y ∧ y < h 4 0 1))] h Q
  refine w_ifB_ne 17 dX11_ask_11 (by decide) (fun c11 => ?_) (fun c11 => ?_)
  · refine w_aload_n dX11_ask_17 rfl ?_
    refine w_getr 10 0 dX11_ask_18 fl_X11_91 rfl (by decide) ?_
    refine w_iload_n dX11_ask_21 rfl ?_
    obtain ⟨u, rfl⟩ : ∃ u : Nat, y = (u : Int) := ⟨y.toNat, by omega⟩
    refine w_callV (d := d + 4) (S := []) [aI x] dX11_ask_22 ml_X11_302 ok_X6_load vi_X6_load rfl rfl (by decide) rfl (Nat.le_of_ble_eq_true rfl) ?_
    obtain ⟨c, ec⟩ : ∃ c : Nat, c = 21 := ⟨_, rfl⟩
    refine c_loadE (d := d) x c ec J (by omega) ⟨fun hld => ?_, fun hld => ?_⟩
    · have hrn := mLdR_n h x
      show fwWP mX11_ask (d + 5) 25 [some (aR 0 0), some (aI x), some (aI (u : Int)), none] [aI (mLdR h x)] h Q
      refine w_istore_n [some (aR 0 0), some (aI x), some (aI (u : Int)), some (aI (mLdR h x))] dX11_ask_25 rfl (by decide) ?_
      refine w_iload_n dX11_ask_26 rfl ?_
      refine w_if_eq 34 dX11_ask_27 (by decide) (by omega) (fun c27 => ?_) (fun c27 => ?_)
      · (exfalso; omega)
      · refine w_iload_n dX11_ask_30 rfl ?_
        refine w_goto 42 dX11_ask_31 (by decide) ?_
        exact w_iretE dX11_ask_42 rfl (by unfold an_ask; first | (rw [if_neg (by omega)]; done) | (rw [if_pos (by omega), if_neg hld]; done) | (rw [if_pos (by omega), if_pos hld, cg_AskF (ld_rw h _ _), ec, ee18]; rfl)) (k _ (scr_rf hsc))
    · show fwWP mX11_ask (d + 5) 25 [some (aR 0 0), some (aI x), some (aI (u : Int)), none] [aI 0] (ldH h (x).toNat c) Q
      refine w_istore_n [some (aR 0 0), some (aI x), some (aI (u : Int)), some (aI 0)] dX11_ask_25 rfl (by decide) ?_
      refine w_iload_n dX11_ask_26 rfl ?_
      refine w_if_eq 34 dX11_ask_27 (by decide) (by omega) (fun c27 => ?_) (fun c27 => ?_)
      · refine w_aload_n dX11_ask_34 rfl ?_
        refine w_getr 10 0 dX11_ask_35 fl_X11_91 rfl (by decide) ?_
        refine w_iload_n dX11_ask_38 rfl ?_
        refine w_callV (d := d + 4) (S := []) [aI (u : Int)] dX11_ask_39 ml_X11_308 ok_X6_hourToMeasure vi_X6_hourToMeasure rfl rfl (by decide) rfl (Nat.le_of_ble_eq_true rfl) ?_
        obtain ⟨e18, ee18⟩ : ∃ c : Nat, c = 18 := ⟨_, rfl⟩
        refine c_hmE (d := (d + 1)) u e18 ee18 hP hG (show 1 ≤ h 4 0 1 by omega) hM hM9 (show (u : Int) < h 4 0 1 by omega) ?_
        show fwWP mX11_ask (d + 5) 42 [some (aR 0 0), some (aI x), some (aI (u : Int)), some (aI 0)] [aI ((mAskF (ldH h (x).toNat c) (mPos h (x).toNat c) u e18).1)] (askH (ldH h (x).toNat c) u e18) Q
        exact w_iretE dX11_ask_42 rfl (by unfold an_ask; first | (rw [if_neg (by omega)]; done) | (rw [if_pos (by omega), if_neg hld]; done) | (rw [if_pos (by omega), if_pos hld, cg_AskF (ld_rw h _ _), ec, ee18]; rfl)) (k _ (scr_uc (scr_uc (scr_uc (scr_uc (scr_uc (scr_uc (scr_uc (scr_uc (scr_uc (scr_rf hsc) rfl (by decide) (by decide) (by decide)) rfl (by decide) (by decide) (by decide)) rfl (by decide) (by decide) (by decide)) rfl (by decide) (by decide) (by decide)) rfl (by decide) (by decide) (by decide)) rfl (by decide) (by decide) (by decide)) rfl (by decide) (by decide) (by decide)) rfl (by decide) (by decide) (by decide)) rfl (by decide) (by decide) (by decide)))
      · (exfalso; omega)
  · refine w_bipush dX11_ask_14 rfl ?_
    exact w_iretE dX11_ask_16 rfl (by unfold an_ask; first | (rw [if_neg (by omega)]; done) | (rw [if_pos (by omega), if_neg hld]; done) | (rw [if_pos (by omega), if_pos hld, cg_AskF (ld_rw h _ _), ec, ee18]; rfl)) (k _ (scr_rf hsc))
def an_leaves (h : fwH) (x : Int) (y : Int) : Int := if 0 ≤ y ∧ y < h 4 0 1 then (if mLd h x then (mAskF h (mPos h x.toNat 21) y.toNat 18).2 else mLdR h x) else -2
set_option maxRecDepth 100000 in
set_option maxHeartbeats 4000000 in
theorem c_X11_leaves {d : Nat} {h : fwH} {Q : Option fwV → fwH → Prop} (x : Int) (y : Int) (J : cOk h) (hx : -2147483648 ≤ x ∧ x < 2147483648) (hy : -2147483648 ≤ y ∧ y < 2147483648) (k : ∀ g, scr h g → Q (some (aI (an_leaves h x y))) g) : fwCt mX11_leaves (d + 5) [aR 0 0, aI x, aI y] h Q := by
  refine fwCt_of [some (aR 0 0), some (aI x), some (aI y), none] rfl rfl rfl ?_
  obtain ⟨hl, hP, hG, hM0, htd, hut, hlw, hhc, ha, hs, hT, hsc⟩ := id J
  have hM : ∀ c : Nat, c < 10 → h 17 0 c ≤ 999 := fun c hc => by have := hM0 c hc; omega
  have hM9 : ∀ c : Nat, c < 10 → 0 ≤ h 17 0 c ∧ h 17 0 c ≤ 900 := fun c hc => by have := hM0 c hc; omega
  obtain ⟨⟨g1, g2⟩, ⟨g3, g4⟩, ⟨g5, g6⟩, g7, g8⟩ := id hG
  have hpz := hP.1
  refine w_aload_n dX11_leaves_0 rfl ?_
  refine w_getr 3 0 dX11_leaves_1 fl_X11_28 rfl (by decide) ?_
  refine w_getr 4 0 dX11_leaves_4 fl_X11_139 rfl (by decide) ?_
  refine w_iload_n dX11_leaves_7 rfl ?_
  refine w_callV (d := d + 4) (S := []) [aI y] dX11_leaves_8 ml_X11_142 ok_X1_has vi_X1_has rfl rfl (by decide) rfl (Nat.le_of_ble_eq_true rfl) ?_
  refine c_X1_has (d := (d + 4)) 0 y (by decide) (by first | assumption | omega | decide) (by first | assumption | omega | decide) ?_
  show fwWP mX11_leaves (d + 5) 11 [some (aR 0 0), some (aI x), some (aI y), none] [aI (fwB (0 ≤ y ∧ y < h 4 0 1))] h Q
  refine w_ifB_ne 17 dX11_leaves_11 (by decide) (fun c11 => ?_) (fun c11 => ?_)
  · refine w_aload_n dX11_leaves_17 rfl ?_
    refine w_getr 10 0 dX11_leaves_18 fl_X11_91 rfl (by decide) ?_
    refine w_iload_n dX11_leaves_21 rfl ?_
    obtain ⟨u, rfl⟩ : ∃ u : Nat, y = (u : Int) := ⟨y.toNat, by omega⟩
    refine w_callV (d := d + 4) (S := []) [aI x] dX11_leaves_22 ml_X11_302 ok_X6_load vi_X6_load rfl rfl (by decide) rfl (Nat.le_of_ble_eq_true rfl) ?_
    obtain ⟨c, ec⟩ : ∃ c : Nat, c = 21 := ⟨_, rfl⟩
    refine c_loadE (d := d) x c ec J (by omega) ⟨fun hld => ?_, fun hld => ?_⟩
    · have hrn := mLdR_n h x
      show fwWP mX11_leaves (d + 5) 25 [some (aR 0 0), some (aI x), some (aI (u : Int)), none] [aI (mLdR h x)] h Q
      refine w_istore_n [some (aR 0 0), some (aI x), some (aI (u : Int)), some (aI (mLdR h x))] dX11_leaves_25 rfl (by decide) ?_
      refine w_iload_n dX11_leaves_26 rfl ?_
      refine w_if_eq 32 dX11_leaves_27 (by decide) (by omega) (fun c27 => ?_) (fun c27 => ?_)
      · (exfalso; omega)
      · refine w_iload_n dX11_leaves_30 rfl ?_
        exact w_iretE dX11_leaves_31 rfl (by unfold an_leaves; first | (rw [if_neg (by omega)]; done) | (rw [if_pos (by omega), if_neg hld]; done) | (rw [if_pos (by omega), if_pos hld, cg_AskF (ld_rw h _ _), ec, ee18]; rfl)) (k _ (scr_rf hsc))
    · show fwWP mX11_leaves (d + 5) 25 [some (aR 0 0), some (aI x), some (aI (u : Int)), none] [aI 0] (ldH h (x).toNat c) Q
      refine w_istore_n [some (aR 0 0), some (aI x), some (aI (u : Int)), some (aI 0)] dX11_leaves_25 rfl (by decide) ?_
      refine w_iload_n dX11_leaves_26 rfl ?_
      refine w_if_eq 32 dX11_leaves_27 (by decide) (by omega) (fun c27 => ?_) (fun c27 => ?_)
      · refine w_aload_n dX11_leaves_32 rfl ?_
        refine w_getr 10 0 dX11_leaves_33 fl_X11_91 rfl (by decide) ?_
        refine w_iload_n dX11_leaves_36 rfl ?_
        refine w_callV (d := d + 4) (S := []) [aI (u : Int)] dX11_leaves_37 ml_X11_308 ok_X6_hourToMeasure vi_X6_hourToMeasure rfl rfl (by decide) rfl (Nat.le_of_ble_eq_true rfl) ?_
        obtain ⟨e18, ee18⟩ : ∃ c : Nat, c = 18 := ⟨_, rfl⟩
        refine c_hmE (d := (d + 1)) u e18 ee18 hP hG (show 1 ≤ h 4 0 1 by omega) hM hM9 (show (u : Int) < h 4 0 1 by omega) ?_
        show fwWP mX11_leaves (d + 5) 40 [some (aR 0 0), some (aI x), some (aI (u : Int)), some (aI 0)] [aI ((mAskF (ldH h (x).toNat c) (mPos h (x).toNat c) u e18).1)] (askH (ldH h (x).toNat c) u e18) Q
        refine w_pop dX11_leaves_40 rfl ?_
        refine w_aload_n dX11_leaves_41 rfl ?_
        refine w_getr 10 0 dX11_leaves_42 fl_X11_91 rfl (by decide) ?_
        refine w_getiE (v := (mAskF (ldH h (x).toNat c) (mPos h (x).toNat c) u e18).2) dX11_leaves_45 fl_X11_311 rfl (by decide) rfl ?_
        exact w_iretE dX11_leaves_48 rfl (by unfold an_leaves; first | (rw [if_neg (by omega)]; done) | (rw [if_pos (by omega), if_neg hld]; done) | (rw [if_pos (by omega), if_pos hld, cg_AskF (ld_rw h _ _), ec, ee18]; rfl)) (k _ (scr_uc (scr_uc (scr_uc (scr_uc (scr_uc (scr_uc (scr_uc (scr_uc (scr_uc (scr_rf hsc) rfl (by decide) (by decide) (by decide)) rfl (by decide) (by decide) (by decide)) rfl (by decide) (by decide) (by decide)) rfl (by decide) (by decide) (by decide)) rfl (by decide) (by decide) (by decide)) rfl (by decide) (by decide) (by decide)) rfl (by decide) (by decide) (by decide)) rfl (by decide) (by decide) (by decide)) rfl (by decide) (by decide) (by decide)))
      · (exfalso; omega)
  · refine w_bipush dX11_leaves_14 rfl ?_
    exact w_iretE dX11_leaves_16 rfl (by unfold an_leaves; first | (rw [if_neg (by omega)]; done) | (rw [if_pos (by omega), if_neg hld]; done) | (rw [if_pos (by omega), if_pos hld, cg_AskF (ld_rw h _ _), ec, ee18]; rfl)) (k _ (scr_rf hsc))
/-- how many rows, taken away, leave a k that holds: by the k that miss one row alone -/
def mDb (h : fwH) (s c : Nat) : Int := mDou (ldH h s c)
theorem mBits_rng (p : Nat → Bool) (n : Nat) : -2147483648 ≤ mBits p n ∧ mBits p n < 2147483648 := by
  cases n with
  | zero => simp [mBits]
  | succ n =>
    rw [mBits]
    split
    · exact fwOr_rng _ _
    · exact mBits_rng p n
def an_doubts (h : fwH) (x : Int) : Int := if mLd h x then mDb h x.toNat 21 else mLdR h x
set_option maxRecDepth 100000 in
set_option maxHeartbeats 4000000 in
theorem c_X11_doubts {d : Nat} {h : fwH} {Q : Option fwV → fwH → Prop} (x : Int) (J : cOk h) (hx : -2147483648 ≤ x ∧ x < 2147483648) (k : ∀ g, scr h g → Q (some (aI (an_doubts h x))) g) : fwCt mX11_doubts (d + 5) [aR 0 0, aI x] h Q := by
  refine fwCt_of [some (aR 0 0), some (aI x), none] rfl rfl rfl ?_
  obtain ⟨hl, hP, hG, hM0, htd, hut, hlw, hhc, ha, hs, hT, hsc⟩ := id J
  have hM : ∀ c : Nat, c < 10 → h 17 0 c ≤ 999 := fun c hc => by have := hM0 c hc; omega
  have hM9 : ∀ c : Nat, c < 10 → 0 ≤ h 17 0 c ∧ h 17 0 c ≤ 900 := fun c hc => by have := hM0 c hc; omega
  obtain ⟨⟨g1, g2⟩, ⟨g3, g4⟩, ⟨g5, g6⟩, g7, g8⟩ := id hG
  have hpz := hP.1
  refine w_aload_n dX11_doubts_0 rfl ?_
  refine w_getr 10 0 dX11_doubts_1 fl_X11_91 rfl (by decide) ?_
  refine w_iload_n dX11_doubts_4 rfl ?_
  refine w_callV (d := d + 4) (S := []) [aI x] dX11_doubts_5 ml_X11_302 ok_X6_load vi_X6_load rfl rfl (by decide) rfl (Nat.le_of_ble_eq_true rfl) ?_
  obtain ⟨c, ec⟩ : ∃ c : Nat, c = 21 := ⟨_, rfl⟩
  refine c_loadE (d := d) x c ec J (by omega) ⟨fun hld => ?_, fun hld => ?_⟩
  · have hrn := mLdR_n h x
    show fwWP mX11_doubts (d + 5) 8 [some (aR 0 0), some (aI x), none] [aI (mLdR h x)] h Q
    refine w_istore_n [some (aR 0 0), some (aI x), some (aI (mLdR h x))] dX11_doubts_8 rfl (by decide) ?_
    refine w_iload_n dX11_doubts_9 rfl ?_
    refine w_if_eq 17 dX11_doubts_10 (by decide) (by omega) (fun c10 => ?_) (fun c10 => ?_)
    · (exfalso; omega)
    · refine w_iload_n dX11_doubts_13 rfl ?_
      refine w_goto 24 dX11_doubts_14 (by decide) ?_
      exact w_iretE dX11_doubts_24 rfl (by unfold an_doubts; first | (rw [if_pos hld, ec]; done) | (rw [if_neg hld]; done)) (k _ (scr_rf hsc))
  · show fwWP mX11_doubts (d + 5) 8 [some (aR 0 0), some (aI x), none] [aI 0] (ldH h (x).toNat c) Q
    refine w_istore_n [some (aR 0 0), some (aI x), some (aI 0)] dX11_doubts_8 rfl (by decide) ?_
    refine w_iload_n dX11_doubts_9 rfl ?_
    refine w_if_eq 17 dX11_doubts_10 (by decide) (by omega) (fun c10 => ?_) (fun c10 => ?_)
    · refine w_aload_n dX11_doubts_17 rfl ?_
      refine w_getr 10 0 dX11_doubts_18 fl_X11_91 rfl (by decide) ?_
      refine w_callV (d := d + 4) (S := []) [] dX11_doubts_21 ml_X11_314 ok_X6_doubtful vi_X6_doubtful rfl rfl (by decide) rfl (Nat.le_of_ble_eq_true rfl) ?_
      have hs35 := (hs (x).toNat (by have := hld.1; omega)).1
      have hs36 : h 35 0 (x).toNat ≠ -1 := hld.2.2.1
      refine c_X6_doubtful (d := (d + 3)) (fun k hk => by show (0 ≤ (mMs h (x).toNat k).1 ∧ (mMs h (x).toNat k).1 ≤ 20) ∧ -1 ≤ (mMs h (x).toNat k).2 ∧ (mMs h (x).toNat k).2 < 20; have hmr := mMis_rng (mMiP (h 4 0 1) (mOH h k) (h 33 (x).toNat)) (h 35 0 (x).toNat / 3).toNat; unfold mMs; omega) (show 0 ≤ h 35 0 (x).toNat / 3 ∧ h 35 0 (x).toNat / 3 ≤ 20 by omega) (show -2147483648 ≤ mPos h (x).toNat c ∧ mPos h (x).toNat c < 2147483648 from mBits_rng _ _) ?_
      show fwWP mX11_doubts (d + 5) 24 [some (aR 0 0), some (aI x), some (aI 0)] [aI (mDb h (x).toNat c)] (ldH h (x).toNat c) Q
      exact w_iretE dX11_doubts_24 rfl (by unfold an_doubts; first | (rw [if_pos hld, ec]; done) | (rw [if_neg hld]; done)) (k _ (scr_uc (scr_uc (scr_uc (scr_uc (scr_uc (scr_rf hsc) rfl (by decide) (by decide) (by decide)) rfl (by decide) (by decide) (by decide)) rfl (by decide) (by decide) (by decide)) rfl (by decide) (by decide) (by decide)) rfl (by decide) (by decide) (by decide)))
    · (exfalso; omega)
abbrev mRl (h : fwH) (x : Int) : Prop := (0 ≤ x ∧ x < 4) ∧ 0 < h 3 0 6 ∧ h 35 0 x.toNat ≠ -1 ∧ mRoll (h 33 x.toNat) (h 35 0 x.toNat) (h 5 0 3)
def mRlR (h : fwH) (x : Int) : Int := if (0 ≤ x ∧ x < 4) ∧ 0 < h 3 0 6 ∧ h 35 0 x.toNat = -1 then -6 else -2
theorem mRlR_n (h : fwH) (x : Int) : mRlR h x = -6 ∨ mRlR h x = -2 := by
  unfold mRlR
  split
  · exact Or.inl rfl
  · exact Or.inr rfl
set_option maxRecDepth 100000 in
set_option maxHeartbeats 4000000 in
theorem c_X11_rollRefusal {d : Nat} {h : fwH} {Q : Option fwV → fwH → Prop} (x : Int) (J : cOk h) (hx : -2147483648 ≤ x ∧ x < 2147483648) (k : (¬ mRl h x → Q (some (aI (mRlR h x))) h) ∧ (mRl h x → Q (some (aI 0)) h)) : fwCt mX11_rollRefusal (d + 3) [aR 0 0, aI x] h Q := by
  refine fwCt_of [some (aR 0 0), some (aI x)] rfl rfl rfl ?_
  obtain ⟨hl, hP, hG, hM0, htd, hut, hlw, hhc, ha, hs, hT, hsc⟩ := id J
  have hM : ∀ c : Nat, c < 10 → h 17 0 c ≤ 999 := fun c hc => by have := hM0 c hc; omega
  have hM9 : ∀ c : Nat, c < 10 → 0 ≤ h 17 0 c ∧ h 17 0 c ≤ 900 := fun c hc => by have := hM0 c hc; omega
  obtain ⟨⟨g1, g2⟩, ⟨g3, g4⟩, ⟨g5, g6⟩, g7, g8⟩ := id hG
  have hpz := hP.1
  refine w_aload_n dX11_rollRefusal_0 rfl ?_
  refine w_getr 11 0 dX11_rollRefusal_1 fl_X11_43 rfl (by decide) ?_
  refine w_iload_n dX11_rollRefusal_4 rfl ?_
  refine w_callV (d := d + 2) (S := []) [aI x] dX11_rollRefusal_5 ml_X11_353 ok_X8_has vi_X8_has rfl rfl (by decide) rfl (Nat.le_of_ble_eq_true rfl) ?_
  refine c_X8_has (d := (d + 2)) x (by first | assumption | omega | decide) ?_
  show fwWP mX11_rollRefusal (d + 3) 8 [some (aR 0 0), some (aI x)] [aI (fwB (0 ≤ x ∧ x < 4))] h Q
  refine w_ifB_eq 21 dX11_rollRefusal_8 (by decide) (fun c8 => ?_) (fun c8 => ?_)
  · refine w_bipush dX11_rollRefusal_21 rfl ?_
    exact w_iretE dX11_rollRefusal_23 rfl (by unfold mRlR; rw [if_neg (by omega)]) (k.1 (fun q => by have := q.1; have := q.2.1; omega))
  · refine w_aload_n dX11_rollRefusal_11 rfl ?_
    refine w_getr 3 0 dX11_rollRefusal_12 fl_X11_28 rfl (by decide) ?_
    refine w_callV (d := d + 2) (S := []) [] dX11_rollRefusal_15 ml_X11_157 ok_X2_isTold vi_X2_isTold rfl rfl (by decide) rfl (Nat.le_of_ble_eq_true rfl) ?_
    refine c_X2_isTold (d := (d + 2)) (show 0 ≤ h 3 0 6 ∧ h 3 0 6 ≤ 1000 by first | assumption | omega | decide) ?_
    show fwWP mX11_rollRefusal (d + 3) 18 [some (aR 0 0), some (aI x)] [aI (fwB (0 < h 3 0 6))] h Q
    refine w_ifB_ne 24 dX11_rollRefusal_18 (by decide) (fun c18 => ?_) (fun c18 => ?_)
    · refine w_aload_n dX11_rollRefusal_24 rfl ?_
      refine w_getr 11 0 dX11_rollRefusal_25 fl_X11_43 rfl (by decide) ?_
      refine w_iload_n dX11_rollRefusal_28 rfl ?_
      refine w_callV (d := d + 2) (S := []) [aI x] dX11_rollRefusal_29 ml_X11_357 ok_X8_isLaid vi_X8_isLaid rfl rfl (by decide) rfl (Nat.le_of_ble_eq_true rfl) ?_
      refine c_X8_isLaid (d := (d + 1)) x (by first | assumption | omega | decide) (by first | assumption | omega | decide) ?_
      show fwWP mX11_rollRefusal (d + 3) 32 [some (aR 0 0), some (aI x)] [aI (fwB (mSz (h 35 0) x ≠ -1))] h Q
      refine w_ifB_ne 38 dX11_rollRefusal_32 (by decide) (fun c32 => ?_) (fun c32 => ?_)
      · obtain ⟨s, rfl⟩ : ∃ s : Nat, x = (s : Int) := ⟨x.toNat, by omega⟩
        have hs35 := (hs s (by omega)).1
        have hsz := mSz_in (h 35 0) (c := s) (by omega)
        have e35 : h 35 0 (s : Int).toNat = h 35 0 s := rfl
        have e33 : h 33 (s : Int).toNat = h 33 s := rfl
        refine w_aload_n dX11_rollRefusal_38 rfl ?_
        refine w_getr 3 0 dX11_rollRefusal_39 fl_X11_28 rfl (by decide) ?_
        refine w_getr 5 0 dX11_rollRefusal_42 fl_X11_126 rfl (by decide) ?_
        refine w_aload_n dX11_rollRefusal_45 rfl ?_
        refine w_getr 11 0 dX11_rollRefusal_46 fl_X11_43 rfl (by decide) ?_
        refine w_iload_n dX11_rollRefusal_49 rfl ?_
        refine w_callV (d := d + 2) (S := []) [aR 11 0, aI (s : Int)] dX11_rollRefusal_50 ml_X11_379 ok_X3_isRoll vi_X3_isRoll rfl rfl (by decide) rfl (Nat.le_of_ble_eq_true rfl) ?_
        refine c_X3_isRoll (d := d) s hP hs (by omega) (by omega) ?_
        show fwWP mX11_rollRefusal (d + 3) 53 [some (aR 0 0), some (aI (s : Int))] [aI (fwB (mRoll (h 33 s) (h 35 0 s) (h 5 0 3)))] h Q
        refine w_ifB_eq 60 dX11_rollRefusal_53 (by decide) (fun c53 => ?_) (fun c53 => ?_)
        · refine w_bipush dX11_rollRefusal_60 rfl ?_
          exact w_iretE dX11_rollRefusal_62 rfl (by unfold mRlR; rw [if_neg (fun q => by have : h 35 0 s = -1 := q.2.2; omega)]) (k.1 (fun q => c53 q.2.2.2))
        · refine w_iconst dX11_rollRefusal_56 ?_
          refine w_goto 62 dX11_rollRefusal_57 (by decide) ?_
          exact w_iret dX11_rollRefusal_62 rfl (k.2 ⟨by omega, by omega, by show h 35 0 s ≠ -1; omega, c53⟩)
      · obtain ⟨s, rfl⟩ : ∃ s : Nat, x = (s : Int) := ⟨x.toNat, by omega⟩
        have hsz := mSz_in (h 35 0) (c := s) (by omega)
        refine w_bipush dX11_rollRefusal_35 rfl ?_
        exact w_iretE dX11_rollRefusal_37 rfl (by unfold mRlR; rw [if_pos ⟨by omega, by omega, by show h 35 0 s = -1; omega⟩]) (k.1 (fun q => q.2.2.1 (by show h 35 0 s = -1; omega)))
    · refine w_bipush dX11_rollRefusal_21 rfl ?_
      exact w_iretE dX11_rollRefusal_23 rfl (by unfold mRlR; rw [if_neg (by omega)]) (k.1 (fun q => by have := q.1; have := q.2.1; omega))
def an_stands (h : fwH) (x : Int) : Int := if mRl h x then mStand (h 33 x.toNat) (h 18 0) 0 (h 35 0 x.toNat / 2).toNat else mRlR h x
set_option maxRecDepth 100000 in
set_option maxHeartbeats 4000000 in
theorem c_X11_stands {d : Nat} {h : fwH} {Q : Option fwV → fwH → Prop} (x : Int) (J : cOk h) (hx : -2147483648 ≤ x ∧ x < 2147483648) (k : ∀ g, scr h g → Q (some (aI (an_stands h x))) g) : fwCt mX11_stands (d + 4) [aR 0 0, aI x] h Q := by
  refine fwCt_of [some (aR 0 0), some (aI x), none] rfl rfl rfl ?_
  obtain ⟨hl, hP, hG, hM0, htd, hut, hlw, hhc, ha, hs, hT, hsc⟩ := id J
  have hM : ∀ c : Nat, c < 10 → h 17 0 c ≤ 999 := fun c hc => by have := hM0 c hc; omega
  have hM9 : ∀ c : Nat, c < 10 → 0 ≤ h 17 0 c ∧ h 17 0 c ≤ 900 := fun c hc => by have := hM0 c hc; omega
  obtain ⟨⟨g1, g2⟩, ⟨g3, g4⟩, ⟨g5, g6⟩, g7, g8⟩ := id hG
  have hpz := hP.1
  refine w_aload_n dX11_stands_0 rfl ?_
  refine w_iload_n dX11_stands_1 rfl ?_
  refine w_callV (d := d + 3) (S := []) [aI x] dX11_stands_2 ml_X11_317 ok_X11_rollRefusal vi_X11_rollRefusal rfl rfl (by decide) rfl (Nat.le_of_ble_eq_true rfl) ?_
  refine c_X11_rollRefusal (d := d) x J (by omega) ⟨fun hrl => ?_, fun hrl => ?_⟩
  · have hrn := mRlR_n h x
    show fwWP mX11_stands (d + 4) 5 [some (aR 0 0), some (aI x), none] [aI (mRlR h x)] h Q
    refine w_istore_n [some (aR 0 0), some (aI x), some (aI (mRlR h x))] dX11_stands_5 rfl (by decide) ?_
    refine w_iload_n dX11_stands_6 rfl ?_
    refine w_if_eq 14 dX11_stands_7 (by decide) (by omega) (fun c7 => ?_) (fun c7 => ?_)
    · (exfalso; omega)
    · refine w_iload_n dX11_stands_10 rfl ?_
      refine w_goto 30 dX11_stands_11 (by decide) ?_
      exact w_iretE dX11_stands_30 rfl (by unfold an_stands; first | (rw [if_pos hrl]; done) | (rw [if_neg hrl]; done) | (rw [if_pos hrl]; rfl)) (k _ (scr_rf hsc))
  · show fwWP mX11_stands (d + 4) 5 [some (aR 0 0), some (aI x), none] [aI 0] h Q
    refine w_istore_n [some (aR 0 0), some (aI x), some (aI 0)] dX11_stands_5 rfl (by decide) ?_
    refine w_iload_n dX11_stands_6 rfl ?_
    refine w_if_eq 14 dX11_stands_7 (by decide) (by omega) (fun c7 => ?_) (fun c7 => ?_)
    · have hx4 := hrl.1
      obtain ⟨s, rfl⟩ : ∃ s : Nat, x = (s : Int) := ⟨x.toNat, by omega⟩
      refine w_aload_n dX11_stands_14 rfl ?_
      refine w_getr 3 0 dX11_stands_15 fl_X11_28 rfl (by decide) ?_
      refine w_getr 5 0 dX11_stands_18 fl_X11_126 rfl (by decide) ?_
      refine w_aload_n dX11_stands_21 rfl ?_
      refine w_getr 11 0 dX11_stands_22 fl_X11_43 rfl (by decide) ?_
      refine w_iload_n dX11_stands_25 rfl ?_
      refine w_iconst dX11_stands_26 ?_
      refine w_callV (d := d + 3) (S := []) [aR 11 0, aI (s : Int), aI 0] dX11_stands_27 ml_X11_320 ok_X3_standing vi_X3_standing rfl rfl (by decide) rfl (Nat.le_of_ble_eq_true rfl) ?_
      refine c_X3_standing (d := d) s 0 hP hs (by have := hrl.1; omega) (by have := (hs s (by have := hrl.1; omega)).1; have q9 : h 35 0 s ≠ -1 := hrl.2.2.1; omega) hrl.2.2.2 (by omega) ?_
      show fwWP mX11_stands (d + 4) 30 [some (aR 0 0), some (aI (s : Int)), some (aI 0)] [aI (mStand (h 33 s) (h 18 0) 0 (h 35 0 s / 2).toNat)] h Q
      exact w_iretE dX11_stands_30 rfl (by unfold an_stands; first | (rw [if_pos hrl]; done) | (rw [if_neg hrl]; done) | (rw [if_pos hrl]; rfl)) (k _ (scr_rf hsc))
    · (exfalso; omega)
def an_struck (h : fwH) (x : Int) (y : Int) : Int := if 0 ≤ y ∧ y ≤ 1 then (if mRl h x then mStand (h 33 x.toNat) (h 18 0) (y + 1) (h 35 0 x.toNat / 2).toNat else mRlR h x) else -2
set_option maxRecDepth 100000 in
set_option maxHeartbeats 4000000 in
theorem c_X11_struck {d : Nat} {h : fwH} {Q : Option fwV → fwH → Prop} (x : Int) (y : Int) (J : cOk h) (hx : -2147483648 ≤ x ∧ x < 2147483648) (hy : -2147483648 ≤ y ∧ y < 2147483648) (k : ∀ g, scr h g → Q (some (aI (an_struck h x y))) g) : fwCt mX11_struck (d + 4) [aR 0 0, aI x, aI y] h Q := by
  refine fwCt_of [some (aR 0 0), some (aI x), some (aI y), none] rfl rfl rfl ?_
  obtain ⟨hl, hP, hG, hM0, htd, hut, hlw, hhc, ha, hs, hT, hsc⟩ := id J
  have hM : ∀ c : Nat, c < 10 → h 17 0 c ≤ 999 := fun c hc => by have := hM0 c hc; omega
  have hM9 : ∀ c : Nat, c < 10 → 0 ≤ h 17 0 c ∧ h 17 0 c ≤ 900 := fun c hc => by have := hM0 c hc; omega
  obtain ⟨⟨g1, g2⟩, ⟨g3, g4⟩, ⟨g5, g6⟩, g7, g8⟩ := id hG
  have hpz := hP.1
  refine w_iload_n dX11_struck_0 rfl ?_
  refine w_if_lt 9 dX11_struck_1 (by decide) (by omega) (fun c1 => ?_) (fun c1 => ?_)
  · refine w_bipush dX11_struck_9 rfl ?_
    exact w_iretE dX11_struck_11 rfl (by unfold an_struck; first | (rw [if_neg (by omega)]; done) | (rw [if_pos (by omega), if_pos hrl]; rfl) | (rw [if_pos (by omega), if_neg hrl]; done)) (k _ (scr_rf hsc))
  · refine w_iload_n dX11_struck_4 rfl ?_
    refine w_iconst dX11_struck_5 ?_
    refine w_icmp_le 12 dX11_struck_6 (by decide) (by omega) (by omega) (fun c6 => ?_) (fun c6 => ?_)
    · refine w_aload_n dX11_struck_12 rfl ?_
      refine w_iload_n dX11_struck_13 rfl ?_
      refine w_callV (d := d + 3) (S := []) [aI x] dX11_struck_14 ml_X11_317 ok_X11_rollRefusal vi_X11_rollRefusal rfl rfl (by decide) rfl (Nat.le_of_ble_eq_true rfl) ?_
      refine c_X11_rollRefusal (d := d) x J (by omega) ⟨fun hrl => ?_, fun hrl => ?_⟩
      · have hrn := mRlR_n h x
        show fwWP mX11_struck (d + 4) 17 [some (aR 0 0), some (aI x), some (aI y), none] [aI (mRlR h x)] h Q
        refine w_istore_n [some (aR 0 0), some (aI x), some (aI y), some (aI (mRlR h x))] dX11_struck_17 rfl (by decide) ?_
        refine w_iload_n dX11_struck_18 rfl ?_
        refine w_if_eq 26 dX11_struck_19 (by decide) (by omega) (fun c19 => ?_) (fun c19 => ?_)
        · (exfalso; omega)
        · refine w_iload_n dX11_struck_22 rfl ?_
          refine w_goto 44 dX11_struck_23 (by decide) ?_
          exact w_iretE dX11_struck_44 rfl (by unfold an_struck; first | (rw [if_neg (by omega)]; done) | (rw [if_pos (by omega), if_pos hrl]; rfl) | (rw [if_pos (by omega), if_neg hrl]; done)) (k _ (scr_rf hsc))
      · show fwWP mX11_struck (d + 4) 17 [some (aR 0 0), some (aI x), some (aI y), none] [aI 0] h Q
        refine w_istore_n [some (aR 0 0), some (aI x), some (aI y), some (aI 0)] dX11_struck_17 rfl (by decide) ?_
        refine w_iload_n dX11_struck_18 rfl ?_
        refine w_if_eq 26 dX11_struck_19 (by decide) (by omega) (fun c19 => ?_) (fun c19 => ?_)
        · have hx4 := hrl.1
          obtain ⟨s, rfl⟩ : ∃ s : Nat, x = (s : Int) := ⟨x.toNat, by omega⟩
          refine w_aload_n dX11_struck_26 rfl ?_
          refine w_getr 3 0 dX11_struck_27 fl_X11_28 rfl (by decide) ?_
          refine w_getr 5 0 dX11_struck_30 fl_X11_126 rfl (by decide) ?_
          refine w_aload_n dX11_struck_33 rfl ?_
          refine w_getr 11 0 dX11_struck_34 fl_X11_43 rfl (by decide) ?_
          refine w_iload_n dX11_struck_37 rfl ?_
          refine w_iload_n dX11_struck_38 rfl ?_
          refine w_iconst dX11_struck_39 ?_
          refine w_iadd dX11_struck_40 ?_
          refine w_callV (d := d + 3) (S := []) [aR 11 0, aI (s : Int), aI (y + 1)] dX11_struck_41 ml_X11_320 ok_X3_standing vi_X3_standing rfl rfl (by decide) rfl (Nat.le_of_ble_eq_true rfl) ?_
          refine c_X3_standing (d := d) s (y + 1) hP hs (by have := hrl.1; omega) (by have := (hs s (by have := hrl.1; omega)).1; have q9 : h 35 0 s ≠ -1 := hrl.2.2.1; omega) hrl.2.2.2 (by omega) ?_
          show fwWP mX11_struck (d + 4) 44 [some (aR 0 0), some (aI (s : Int)), some (aI y), some (aI 0)] [aI (mStand (h 33 s) (h 18 0) (y + 1) (h 35 0 s / 2).toNat)] h Q
          exact w_iretE dX11_struck_44 rfl (by unfold an_struck; first | (rw [if_neg (by omega)]; done) | (rw [if_pos (by omega), if_pos hrl]; rfl) | (rw [if_pos (by omega), if_neg hrl]; done)) (k _ (scr_rf hsc))
        · (exfalso; omega)
    · refine w_bipush dX11_struck_9 rfl ?_
      exact w_iretE dX11_struck_11 rfl (by unfold an_struck; first | (rw [if_neg (by omega)]; done) | (rw [if_pos (by omega), if_pos hrl]; rfl) | (rw [if_pos (by omega), if_neg hrl]; done)) (k _ (scr_rf hsc))
def mLuck (h : fwH) (x : Int) (u : Nat) : Nat → Int
  | 0 => 0
  | i + 1 => if 0 < (mDrawn h (x + (i : Int)) u).1 then mLuck h x u i + 1 else mLuck h x u i
theorem tr_rw (h : fwH) (T A B : Nat → Int) : rw5 h (fwUc (fwUc (fwUc (fwUc h 4 5 (h 4 0)) 17 5 T) 19 0 A) 20 0 B) := ⟨rfl, rfl, rfl, rfl, rfl⟩
theorem c_drS {d : Nat} {h g : fwH} {Q : Option fwV → fwH → Prop} (x : Int) (m : Nat) (J : cOk h) (hg : scr h g) (ht : 0 < h 3 0 6) (hx : -2147483648 ≤ x ∧ x < 2147483648) (hmm : m ≤ 1000) (k : ∀ (g' : fwH) (v : Int), scr h g' → 0 ≤ v ∧ v ≤ 1000 → (0 < v ↔ 0 < (mDrawn h x m).1) → Q (some (aI v)) g') : fwCt mX0_drawMonths (d + 4) [aR 9 0, aI x, aI (m : Int), aI 1] g Q := by
  have e := scr_rw hg
  have ht2 : 0 < g 3 0 6 := by rw [e.1]; exact ht
  obtain ⟨hl, hP, hG, hM0, htd, hut, hlw, hhc, ha, hs, hT, hsc⟩ := cOk_scr J hg
  refine c_X0_drawMonthsU (h := g) x m 1 hP hG (by have := htd ht2; omega) (fun c hc => by have := hM0 c hc; omega) hlw (hhc ht2) hx hmm (by omega) (fun u A2 B2 hu hz => ?_)
  rw [cg_Drawn e] at hz ⊢
  have h1 := mDrawn_rng h x u
  have h2 := mDrawn_mono h x hu
  have h3 : u = m → (mDrawn h x u).1 = (mDrawn h x m).1 := fun q => by rw [q]
  exact k _ _ (scr_uc (scr_uc (scr_uc (scr_uc hg rfl (by decide) (by decide) (by decide)) rfl (by decide) (by decide) (by decide)) rfl (by decide) (by decide) (by decide)) rfl (by decide) (by decide) (by decide)) (by omega) (by omega)
theorem mLuck_rng (h : fwH) (x : Int) (u : Nat) : ∀ i : Nat, 0 ≤ mLuck h x u i ∧ mLuck h x u i ≤ i := by
  intro i
  induction i with
  | zero => simp [mLuck]
  | succ i ih =>
    rw [mLuck]
    split <;> omega
def an_luck (h : fwH) (x : Int) (y : Int) (z : Int) : Int := if (0 < h 3 0 6 ∧ 0 ≤ x ∧ x ≤ 2000000000 ∧ 0 ≤ z ∧ z ≤ 40) ∧ 1 ≤ y ∧ y ≤ 20 then mLuck h x z.toNat y.toNat else -2
set_option maxRecDepth 100000 in
set_option maxHeartbeats 4000000 in
theorem c_X11_luck {d : Nat} {h : fwH} {Q : Option fwV → fwH → Prop} (x : Int) (y : Int) (z : Int) (J : cOk h) (hx : -2147483648 ≤ x ∧ x < 2147483648) (hy : -2147483648 ≤ y ∧ y < 2147483648) (hz : -2147483648 ≤ z ∧ z < 2147483648) (k : ∀ g, scr h g → Q (some (aI (an_luck h x y z))) g) : fwCt mX11_luck (d + 5) [aR 0 0, aI x, aI y, aI z] h Q := by
  refine fwCt_of [some (aR 0 0), some (aI x), some (aI y), some (aI z), none, none] rfl rfl rfl ?_
  obtain ⟨hl, hP, hG, hM0, htd, hut, hlw, hhc, ha, hs, hT, hsc⟩ := id J
  have hM : ∀ c : Nat, c < 10 → h 17 0 c ≤ 999 := fun c hc => by have := hM0 c hc; omega
  have hM9 : ∀ c : Nat, c < 10 → 0 ≤ h 17 0 c ∧ h 17 0 c ≤ 900 := fun c hc => by have := hM0 c hc; omega
  obtain ⟨⟨g1, g2⟩, ⟨g3, g4⟩, ⟨g5, g6⟩, g7, g8⟩ := id hG
  have hpz := hP.1
  refine w_aload_n dX11_luck_0 rfl ?_
  refine w_iload_n dX11_luck_1 rfl ?_
  refine w_iload_n dX11_luck_2 rfl ?_
  refine w_callV (d := d + 4) (S := []) [aI x, aI z] dX11_luck_3 ml_X11_324 ok_X11_isDraw vi_X11_isDraw rfl rfl (by decide) rfl (Nat.le_of_ble_eq_true rfl) ?_
  refine c_X11_isDraw (d := (d + 3)) x z J (by first | assumption | omega | decide) (by first | assumption | omega | decide) ?_
  show fwWP mX11_luck (d + 5) 6 [some (aR 0 0), some (aI x), some (aI y), some (aI z), none, none] [aI (fwB (0 < h 3 0 6 ∧ 0 ≤ x ∧ x ≤ 2000000000 ∧ 0 ≤ z ∧ z ≤ 40))] h Q
  refine w_ifB_eq 20 dX11_luck_6 (by decide) (fun c6 => ?_) (fun c6 => ?_)
  · refine w_bipush dX11_luck_20 rfl ?_
    exact w_iretE dX11_luck_22 rfl (by unfold an_luck; first | (rw [if_neg (by omega)]; done) | (rw [if_pos (by omega), ecm]; rfl)) (k _ (scr_rf hsc))
  · refine w_iload_n dX11_luck_9 rfl ?_
    refine w_iconst dX11_luck_10 ?_
    refine w_icmp_lt 20 dX11_luck_11 (by decide) (by omega) (by omega) (fun c11 => ?_) (fun c11 => ?_)
    · refine w_bipush dX11_luck_20 rfl ?_
      exact w_iretE dX11_luck_22 rfl (by unfold an_luck; first | (rw [if_neg (by omega)]; done) | (rw [if_pos (by omega), ecm]; rfl)) (k _ (scr_rf hsc))
    · refine w_iload_n dX11_luck_14 rfl ?_
      refine w_bipush dX11_luck_15 rfl ?_
      refine w_icmp_le 23 dX11_luck_17 (by decide) (by omega) (by omega) (fun c17 => ?_) (fun c17 => ?_)
      · obtain ⟨m, rfl⟩ : ∃ m : Nat, y = (m : Int) := ⟨y.toNat, by omega⟩
        obtain ⟨u, rfl⟩ : ∃ u : Nat, z = (u : Int) := ⟨z.toNat, by omega⟩
        refine w_iconst dX11_luck_23 ?_
        refine w_istore [some (aR 0 0), some (aI x), some (aI (m : Int)), some (aI (u : Int)), some (aI 0), none] dX11_luck_24 rfl (by decide) ?_
        refine w_iconst dX11_luck_26 ?_
        refine w_istore [some (aR 0 0), some (aI x), some (aI (m : Int)), some (aI (u : Int)), some (aI 0), some (aI 0)] dX11_luck_27 rfl (by decide) ?_
        have lp29 : ∀ c : Nat, c ≤ m → ∀ (y9 v : Int) (g29 : fwH), y9 = (c : Int) → v = mLuck h x u c → scr h g29 → fwWP mX11_luck (d + 5) 29 [some (aR 0 0), some (aI x), some (aI (m : Int)), some (aI (u : Int)), some (aI v), some (aI y9)] [] g29 Q := by
          refine fw_up (fun c hc29 ih29 => ?_)
          intro y9 v g29 ey ev hg29
          subst ey
          subst ev
          have hlk := mLuck_rng h x u c
          show fwWP mX11_luck (d + 5) 29 [some (aR 0 0), some (aI x), some (aI (m : Int)), some (aI (u : Int)), some (aI (mLuck h x u c)), some (aI (c : Int))] [] g29 Q
          refine w_iload dX11_luck_29 rfl ?_
          refine w_iload_n dX11_luck_31 rfl ?_
          refine w_icmp_ge 60 dX11_luck_32 (by decide) (by omega) (by omega) (fun c32 => ?_) (fun c32 => ?_)
          · have ecm : c = m := by omega
            refine w_iload dX11_luck_60 rfl ?_
            exact w_iretE dX11_luck_62 rfl (by unfold an_luck; first | (rw [if_neg (by omega)]; done) | (rw [if_pos (by omega), ecm]; rfl)) (k _ hg29)
          · refine w_aload_n dX11_luck_35 rfl ?_
            refine w_getr 9 0 dX11_luck_36 fl_X11_82 rfl (by decide) ?_
            refine w_iload_n dX11_luck_39 rfl ?_
            refine w_iload dX11_luck_40 rfl ?_
            refine w_iadd dX11_luck_42 ?_
            refine w_iload_n dX11_luck_43 rfl ?_
            refine w_iconst dX11_luck_44 ?_
            refine w_callV (d := d + 4) (S := []) [aI (x + (c : Int)), aI (u : Int), aI 1] dX11_luck_45 ml_X11_327 ok_X0_drawMonths vi_X0_drawMonths rfl rfl (by decide) rfl (Nat.le_of_ble_eq_true rfl) ?_
            refine c_drS (d := d) (x + (c : Int)) u J hg29 (by omega) (by omega) (by omega) ?_
            intro g45 v45 hg45 hv45 hw45
            show fwWP mX11_luck (d + 5) 48 [some (aR 0 0), some (aI x), some (aI (m : Int)), some (aI (u : Int)), some (aI (mLuck h x u c)), some (aI (c : Int))] [aI v45] g45 Q
            refine w_if_le 54 dX11_luck_48 (by decide) (by omega) (fun c48 => ?_) (fun c48 => ?_)
            · refine w_iinc [some (aR 0 0), some (aI x), some (aI (m : Int)), some (aI (u : Int)), some (aI (mLuck h x u c)), some (aI ((c : Int) + 1))] dX11_luck_54 rfl rfl (by decide) ?_
              refine w_goto 29 dX11_luck_57 (by decide) ?_
              exact ih29 (by omega) _ _ _ (by omega) (by rw [mLuck]; first | rw [if_pos (by omega)] | rw [if_neg (by omega)]) hg45
            · refine w_iinc [some (aR 0 0), some (aI x), some (aI (m : Int)), some (aI (u : Int)), some (aI ((mLuck h x u c) + 1)), some (aI (c : Int))] dX11_luck_51 rfl rfl (by decide) ?_
              refine w_iinc [some (aR 0 0), some (aI x), some (aI (m : Int)), some (aI (u : Int)), some (aI ((mLuck h x u c) + 1)), some (aI ((c : Int) + 1))] dX11_luck_54 rfl rfl (by decide) ?_
              refine w_goto 29 dX11_luck_57 (by decide) ?_
              exact ih29 (by omega) _ _ _ (by omega) (by rw [mLuck]; first | rw [if_pos (by omega)] | rw [if_neg (by omega)]) hg45
        exact lp29 0 (Nat.zero_le _) _ _ _ rfl rfl (scr_rf hsc)
      · refine w_bipush dX11_luck_20 rfl ?_
        exact w_iretE dX11_luck_22 rfl (by unfold an_luck; first | (rw [if_neg (by omega)]; done) | (rw [if_pos (by omega), ecm]; rfl)) (k _ (scr_rf hsc))
def an_fault (h : fwH) (x : Int) : Int := if x = 0 then h 2 0 6 else if x = 1 then h 2 0 7 else -1
set_option maxRecDepth 100000 in
set_option maxHeartbeats 4000000 in
theorem c_X11_fault {d : Nat} {h : fwH} {Q : Option fwV → fwH → Prop} (x : Int) (J : cOk h) (hx : -2147483648 ≤ x ∧ x < 2147483648) (k : ∀ g, scr h g → Q (some (aI (an_fault h x))) g) : fwCt mX11_fault (d + 0) [aR 0 0, aI x] h Q := by
  refine fwCt_of [some (aR 0 0), some (aI x)] rfl rfl rfl ?_
  obtain ⟨hl, hP, hG, hM0, htd, hut, hlw, hhc, ha, hs, hT, hsc⟩ := id J
  have hM : ∀ c : Nat, c < 10 → h 17 0 c ≤ 999 := fun c hc => by have := hM0 c hc; omega
  have hM9 : ∀ c : Nat, c < 10 → 0 ≤ h 17 0 c ∧ h 17 0 c ≤ 900 := fun c hc => by have := hM0 c hc; omega
  obtain ⟨⟨g1, g2⟩, ⟨g3, g4⟩, ⟨g5, g6⟩, g7, g8⟩ := id hG
  have hpz := hP.1
  refine w_iload_n dX11_fault_0 rfl ?_
  refine w_if_ne 12 dX11_fault_1 (by decide) (by omega) (fun c1 => ?_) (fun c1 => ?_)
  · refine w_iload_n dX11_fault_12 rfl ?_
    refine w_iconst dX11_fault_13 ?_
    refine w_icmp_ne 27 dX11_fault_14 (by decide) (by omega) (by omega) (fun c14 => ?_) (fun c14 => ?_)
    · refine w_iconst dX11_fault_27 ?_
      exact w_iretE dX11_fault_28 rfl (by unfold an_fault; first | (rw [if_pos (by omega)]; done) | (rw [if_neg (by omega), if_pos (by omega)]; done) | (rw [if_neg (by omega), if_neg (by omega)]; done)) (k _ (scr_rf hsc))
    · refine w_aload_n dX11_fault_17 rfl ?_
      refine w_getr 2 0 dX11_fault_18 fl_X11_21 rfl (by decide) ?_
      refine w_geti dX11_fault_21 fl_X11_123 rfl (by decide) ?_
      refine w_goto 28 dX11_fault_24 (by decide) ?_
      exact w_iretE dX11_fault_28 rfl (by unfold an_fault; first | (rw [if_pos (by omega)]; done) | (rw [if_neg (by omega), if_pos (by omega)]; done) | (rw [if_neg (by omega), if_neg (by omega)]; done)) (k _ (scr_rf hsc))
  · refine w_aload_n dX11_fault_4 rfl ?_
    refine w_getr 2 0 dX11_fault_5 fl_X11_21 rfl (by decide) ?_
    refine w_geti dX11_fault_8 fl_X11_120 rfl (by decide) ?_
    exact w_iretE dX11_fault_11 rfl (by unfold an_fault; first | (rw [if_pos (by omega)]; done) | (rw [if_neg (by omega), if_pos (by omega)]; done) | (rw [if_neg (by omega), if_neg (by omega)]; done)) (k _ (scr_rf hsc))
def an_count (h : fwH) (x : Int) : Int := if x = 0 then h 4 0 1 else if x = 1 then h 5 0 3 else if x = 2 then h 4 0 2 else if x = 3 then h 4 0 3 else if x = 4 then h 3 0 4 else if x = 5 then h 3 0 5 else if x = 6 then h 3 0 6 else if x = 7 then h 1 0 1 else if x = 8 then h 3 0 3 else if x = 9 then mLaid (h 35 0) 4 else -1
set_option maxRecDepth 100000 in
set_option maxHeartbeats 4000000 in
theorem c_X11_count {d : Nat} {h : fwH} {Q : Option fwV → fwH → Prop} (x : Int) (J : cOk h) (hx : -2147483648 ≤ x ∧ x < 2147483648) (k : ∀ g, scr h g → Q (some (aI (an_count h x))) g) : fwCt mX11_count (d + 3) [aR 0 0, aI x] h Q := by
  refine fwCt_of [some (aR 0 0), some (aI x)] rfl rfl rfl ?_
  obtain ⟨hl, hP, hG, hM0, htd, hut, hlw, hhc, ha, hs, hT, hsc⟩ := id J
  have hM : ∀ c : Nat, c < 10 → h 17 0 c ≤ 999 := fun c hc => by have := hM0 c hc; omega
  have hM9 : ∀ c : Nat, c < 10 → 0 ≤ h 17 0 c ∧ h 17 0 c ≤ 900 := fun c hc => by have := hM0 c hc; omega
  obtain ⟨⟨g1, g2⟩, ⟨g3, g4⟩, ⟨g5, g6⟩, g7, g8⟩ := id hG
  have hpz := hP.1
  refine w_iload_n dX11_count_0 rfl ?_
  rcases (show x = 0 ∨ x = 1 ∨ x = 2 ∨ x = 3 ∨ x = 4 ∨ x = 5 ∨ x = 6 ∨ x = 7 ∨ x = 8 ∨ x = 9 ∨ (x < 0 ∨ 9 < x) by omega) with rfl | rfl | rfl | rfl | rfl | rfl | rfl | rfl | rfl | rfl | hc9
  · refine w_tabIn (off := 55) 56 dX11_count_1 (by omega) (by omega) (by omega) rfl (by decide) ?_
    refine w_aload_n dX11_count_56 rfl ?_
    refine w_getr 3 0 dX11_count_57 fl_X11_28 rfl (by decide) ?_
    refine w_getr 4 0 dX11_count_60 fl_X11_139 rfl (by decide) ?_
    refine w_geti dX11_count_63 fl_X11_337 rfl (by decide) ?_
    exact w_iretE dX11_count_66 rfl (by rfl) (k _ (scr_rf hsc))
  · refine w_tabIn (off := 66) 67 dX11_count_1 (by omega) (by omega) (by omega) rfl (by decide) ?_
    refine w_aload_n dX11_count_67 rfl ?_
    refine w_getr 3 0 dX11_count_68 fl_X11_28 rfl (by decide) ?_
    refine w_getr 5 0 dX11_count_71 fl_X11_126 rfl (by decide) ?_
    refine w_geti dX11_count_74 fl_X11_340 rfl (by decide) ?_
    exact w_iretE dX11_count_77 rfl (by rfl) (k _ (scr_rf hsc))
  · refine w_tabIn (off := 77) 78 dX11_count_1 (by omega) (by omega) (by omega) rfl (by decide) ?_
    refine w_aload_n dX11_count_78 rfl ?_
    refine w_getr 3 0 dX11_count_79 fl_X11_28 rfl (by decide) ?_
    refine w_getr 4 0 dX11_count_82 fl_X11_139 rfl (by decide) ?_
    refine w_geti dX11_count_85 fl_X11_341 rfl (by decide) ?_
    exact w_iretE dX11_count_88 rfl (by rfl) (k _ (scr_rf hsc))
  · refine w_tabIn (off := 88) 89 dX11_count_1 (by omega) (by omega) (by omega) rfl (by decide) ?_
    refine w_aload_n dX11_count_89 rfl ?_
    refine w_getr 3 0 dX11_count_90 fl_X11_28 rfl (by decide) ?_
    refine w_getr 4 0 dX11_count_93 fl_X11_139 rfl (by decide) ?_
    refine w_geti dX11_count_96 fl_X11_344 rfl (by decide) ?_
    exact w_iretE dX11_count_99 rfl (by rfl) (k _ (scr_rf hsc))
  · refine w_tabIn (off := 99) 100 dX11_count_1 (by omega) (by omega) (by omega) rfl (by decide) ?_
    refine w_aload_n dX11_count_100 rfl ?_
    refine w_getr 3 0 dX11_count_101 fl_X11_28 rfl (by decide) ?_
    refine w_geti dX11_count_104 fl_X11_330 rfl (by decide) ?_
    exact w_iretE dX11_count_107 rfl (by rfl) (k _ (scr_rf hsc))
  · refine w_tabIn (off := 107) 108 dX11_count_1 (by omega) (by omega) (by omega) rfl (by decide) ?_
    refine w_aload_n dX11_count_108 rfl ?_
    refine w_getr 3 0 dX11_count_109 fl_X11_28 rfl (by decide) ?_
    refine w_geti dX11_count_112 fl_X11_347 rfl (by decide) ?_
    exact w_iretE dX11_count_115 rfl (by rfl) (k _ (scr_rf hsc))
  · refine w_tabIn (off := 115) 116 dX11_count_1 (by omega) (by omega) (by omega) rfl (by decide) ?_
    refine w_aload_n dX11_count_116 rfl ?_
    refine w_getr 3 0 dX11_count_117 fl_X11_28 rfl (by decide) ?_
    refine w_geti dX11_count_120 fl_X11_117 rfl (by decide) ?_
    exact w_iretE dX11_count_123 rfl (by rfl) (k _ (scr_rf hsc))
  · refine w_tabIn (off := 123) 124 dX11_count_1 (by omega) (by omega) (by omega) rfl (by decide) ?_
    refine w_aload_n dX11_count_124 rfl ?_
    refine w_getr 1 0 dX11_count_125 fl_X11_10 rfl (by decide) ?_
    refine w_geti dX11_count_128 fl_X11_103 rfl (by decide) ?_
    exact w_iretE dX11_count_131 rfl (by rfl) (k _ (scr_rf hsc))
  · refine w_tabIn (off := 131) 132 dX11_count_1 (by omega) (by omega) (by omega) rfl (by decide) ?_
    refine w_aload_n dX11_count_132 rfl ?_
    refine w_getr 3 0 dX11_count_133 fl_X11_28 rfl (by decide) ?_
    refine w_geti dX11_count_136 fl_X11_200 rfl (by decide) ?_
    exact w_iretE dX11_count_139 rfl (by rfl) (k _ (scr_rf hsc))
  · refine w_tabIn (off := 139) 140 dX11_count_1 (by omega) (by omega) (by omega) rfl (by decide) ?_
    refine w_aload_n dX11_count_140 rfl ?_
    refine w_getr 11 0 dX11_count_141 fl_X11_43 rfl (by decide) ?_
    refine w_callV (d := d + 2) (S := []) [] dX11_count_144 ml_X11_350 ok_X8_rows vi_X8_rows rfl rfl (by decide) rfl (Nat.le_of_ble_eq_true rfl) ?_
    refine c_X8_rows (d := d)  (by first | assumption | omega | decide) ?_
    show fwWP mX11_count (d + 3) 147 [some (aR 0 0), some (aI 9)] [aI (mLaid (h 35 0) 4)] h Q
    exact w_iretE dX11_count_147 rfl (by rfl) (k _ (scr_rf hsc))
  · refine w_tabOut 148 dX11_count_1 (by omega) (by omega) (by decide) ?_
    refine w_iconst dX11_count_148 ?_
    exact w_iretE dX11_count_149 rfl (by unfold an_count; rw [if_neg (by omega)]; rw [if_neg (by omega)]; rw [if_neg (by omega)]; rw [if_neg (by omega)]; rw [if_neg (by omega)]; rw [if_neg (by omega)]; rw [if_neg (by omega)]; rw [if_neg (by omega)]; rw [if_neg (by omega)]; rw [if_neg (by omega)]) (k _ (scr_rf hsc))

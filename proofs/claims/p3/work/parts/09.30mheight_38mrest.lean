section
theorem mTop_r2 (H : Nat → Int) (ls : Int) (n : Nat) (hn : 1 ≤ n) : 0 ≤ mTop H ls n ∧ mTop H ls n < (n : Int) := ⟨(mTop_rng H ls n).2.2 hn, (mTop_rng H ls n).2.1⟩
theorem mTop_1 (H : Nat → Int) (ls : Int) : mTop H ls 1 = 0 := by
  rw [mTop, mTop]
  simp
theorem mMax_top {H : Nat → Int} {ls : Int} : ∀ n : Nat, 1 ≤ n → (∀ c, c < n → 0 ≤ H c) → mMax H n = H (mTop H ls n).toNat := by
  intro n
  induction n with
  | zero => intro h; omega
  | succ n ih =>
    intro _ hp
    rcases Nat.eq_zero_or_pos n with e | e
    · subst e
      rw [mTop_1, mMax, mMax]
      have := hp 0 (by omega)
      show (if 0 < H 0 then H 0 else 0) = H 0
      split <;> omega
    · have h1 := ih e (fun c hc => hp c (by omega))
      have h2 := mTop_rng H ls n
      rw [mMax, mTop, h1]
      by_cases q : H (mTop H ls n).toNat < H n
      · rw [if_pos q, if_pos (Or.inr (Or.inl q))]
        rfl
      · rw [if_neg q]
        by_cases q2 : mTop H ls n = -1 ∨ H (mTop H ls n).toNat < H n ∨ H (mTop H ls n).toNat = H n ∧ ls ≠ 0
        · rw [if_pos q2]
          show _ = H n
          rcases q2 with q2 | q2 | q2
          · omega
          · omega
          · exact q2.1
        · rw [if_neg q2]
set_option maxRecDepth 100000 in
set_option maxHeartbeats 4000000 in
theorem c_X12_topCell {d : Nat} {h gg : fwH} {Q : Option fwV → fwH → Prop} (H : Nat → Int) (J : cOk gg) (R : jF gg h) (hH : hiR (gg 4 0 1) (h 42 0) H) (hb : hB H) (hn : 1 ≤ gg 4 0 1) (k : Q (some (aI (mTop H (gg 4 0 4) (gg 4 0 1).toNat))) h) : fwCt mX12_topCell (d + 0) [aR 12 0] h Q := by
  refine fwCt_of [some (aR 12 0), none, none] rfl rfl rfl ?_
  obtain ⟨hl, hP, hG, -, -, -, hlw, -, ha, hs, -, hsc⟩ := id J
  obtain ⟨⟨g1, g2⟩, ⟨g3, g4⟩, ⟨g5, g6⟩, g7, -⟩ := id hG
  have hpz := hP.1
  refine w_iconst dX12_topCell_0 ?_
  refine w_istore_n [some (aR 12 0), some (aI 0), none] dX12_topCell_1 rfl (by decide) ?_
  refine w_iconst dX12_topCell_2 ?_
  refine w_istore_n [some (aR 12 0), some (aI 0), some (aI 1)] dX12_topCell_3 rfl (by decide) ?_
  have lp4 : ∀ c : Nat, c ≤ (gg 4 0 1).toNat - 1 → ∀ (y4 be : Int), y4 = (c : Int) + 1 → be = mTop H (gg 4 0 4) (c + 1) → fwWP mX12_topCell (d + 0) 4 [some (aR 12 0), some (aI be), some (aI y4)] [] h Q := by
    refine fw_up (fun c hc4 ih4 => ?_)
    intro y4 be ey4 e_be
    subst ey4
    subst e_be
    show fwWP mX12_topCell (d + 0) 4 [some (aR 12 0), some (aI (mTop H (gg 4 0 4) (c + 1))), some (aI ((c : Int) + 1))] [] h Q
    refine w_iload_n dX12_topCell_4 rfl ?_
    refine w_aload_n dX12_topCell_5 rfl ?_
    refine w_getr 36 0 dX12_topCell_6 fl_X12_9 rfl (by decide) ?_
    refine w_iconst dX12_topCell_9 ?_
    refine w_ialdE (v := gg 4 0 1) dX12_topCell_10 rfl (by decide) (by omega) (by omega) R.1 ?_
    refine w_icmp_ge 62 dX12_topCell_11 (by decide) (by omega) (by omega) (fun c11 => ?_) (fun c11 => ?_)
    · refine w_iload_n dX12_topCell_62 rfl ?_
      exact w_iretE dX12_topCell_63 rfl (by rw [show (gg 4 0 1).toNat = c + 1 by omega]) k
    · have htp : 0 ≤ mTop H (gg 4 0 4) (c + 1) ∧ mTop H (gg 4 0 4) (c + 1) < ((c + 1 : Nat) : Int) := ⟨(mTop_rng H (gg 4 0 4) (c + 1)).2.2 (by omega), (mTop_rng H (gg 4 0 4) (c + 1)).2.1⟩
      have hb1 := hb (c + 1) (by omega)
      have hb2 := hb (mTop H (gg 4 0 4) (c + 1)).toNat (by omega)
      refine w_aload_n dX12_topCell_14 rfl ?_
      refine w_getr 42 0 dX12_topCell_15 fl_X12_34 rfl (by decide) ?_
      refine w_iload_n dX12_topCell_18 rfl ?_
      refine w_ialdE (v := H (c + 1)) dX12_topCell_19 rfl (by decide) (by omega) (by omega) (hH _ (by omega)) ?_
      refine w_aload_n dX12_topCell_20 rfl ?_
      refine w_getr 42 0 dX12_topCell_21 fl_X12_34 rfl (by decide) ?_
      refine w_iload_n dX12_topCell_24 rfl ?_
      refine w_ialdE (v := H (mTop H (gg 4 0 4) (c + 1)).toNat) dX12_topCell_25 rfl (by decide) (by omega) (by omega) (hH _ (by omega)) ?_
      refine w_icmp_gt 54 dX12_topCell_26 (by decide) (by omega) (by omega) (fun c26 => ?_) (fun c26 => ?_)
      · refine w_iload_n dX12_topCell_54 rfl ?_
        refine w_istore_n [some (aR 12 0), some (aI ((c : Int) + 1)), some (aI ((c : Int) + 1))] dX12_topCell_55 rfl (by decide) ?_
        refine w_iinc [some (aR 12 0), some (aI ((c : Int) + 1)), some (aI (((c : Int) + 1) + 1))] dX12_topCell_56 rfl rfl (by decide) ?_
        refine w_goto 4 dX12_topCell_59 (by decide) ?_
        refine ih4 (by omega) _ _ ?_ ?_
        · exact (by omega)
        · exact (by rw [mTop.eq_2 H (gg 4 0 4) (c + 1)]; first | (rw [if_pos (by omega)]; omega) | (rw [if_neg (by omega)]; done))
      · refine w_aload_n dX12_topCell_29 rfl ?_
        refine w_getr 42 0 dX12_topCell_30 fl_X12_34 rfl (by decide) ?_
        refine w_iload_n dX12_topCell_33 rfl ?_
        refine w_ialdE (v := H (c + 1)) dX12_topCell_34 rfl (by decide) (by omega) (by omega) (hH _ (by omega)) ?_
        refine w_aload_n dX12_topCell_35 rfl ?_
        refine w_getr 42 0 dX12_topCell_36 fl_X12_34 rfl (by decide) ?_
        refine w_iload_n dX12_topCell_39 rfl ?_
        refine w_ialdE (v := H (mTop H (gg 4 0 4) (c + 1)).toNat) dX12_topCell_40 rfl (by decide) (by omega) (by omega) (hH _ (by omega)) ?_
        refine w_icmp_ne 56 dX12_topCell_41 (by decide) (by omega) (by omega) (fun c41 => ?_) (fun c41 => ?_)
        · refine w_iinc [some (aR 12 0), some (aI (mTop H (gg 4 0 4) (c + 1))), some (aI (((c : Int) + 1) + 1))] dX12_topCell_56 rfl rfl (by decide) ?_
          refine w_goto 4 dX12_topCell_59 (by decide) ?_
          refine ih4 (by omega) _ _ ?_ ?_
          · exact (by omega)
          · exact (by rw [mTop.eq_2 H (gg 4 0 4) (c + 1)]; first | (rw [if_pos (by omega)]; omega) | (rw [if_neg (by omega)]; done))
        · refine w_aload_n dX12_topCell_44 rfl ?_
          refine w_getr 36 0 dX12_topCell_45 fl_X12_9 rfl (by decide) ?_
          refine w_iconst dX12_topCell_48 ?_
          refine w_ialdE (v := gg 4 0 4) dX12_topCell_49 rfl (by decide) (by omega) (by omega) R.2.2.2.2.1 ?_
          refine w_iconst dX12_topCell_50 ?_
          refine w_icmp_ne 56 dX12_topCell_51 (by decide) (by omega) (by omega) (fun c51 => ?_) (fun c51 => ?_)
          · refine w_iinc [some (aR 12 0), some (aI (mTop H (gg 4 0 4) (c + 1))), some (aI (((c : Int) + 1) + 1))] dX12_topCell_56 rfl rfl (by decide) ?_
            refine w_goto 4 dX12_topCell_59 (by decide) ?_
            refine ih4 (by omega) _ _ ?_ ?_
            · exact (by omega)
            · exact (by rw [mTop.eq_2 H (gg 4 0 4) (c + 1)]; first | (rw [if_pos (by omega)]; omega) | (rw [if_neg (by omega)]; done))
          · refine w_iload_n dX12_topCell_54 rfl ?_
            refine w_istore_n [some (aR 12 0), some (aI ((c : Int) + 1)), some (aI ((c : Int) + 1))] dX12_topCell_55 rfl (by decide) ?_
            refine w_iinc [some (aR 12 0), some (aI ((c : Int) + 1)), some (aI (((c : Int) + 1) + 1))] dX12_topCell_56 rfl rfl (by decide) ?_
            refine w_goto 4 dX12_topCell_59 (by decide) ?_
            refine ih4 (by omega) _ _ ?_ ?_
            · exact (by omega)
            · exact (by rw [mTop.eq_2 H (gg 4 0 4) (c + 1)]; first | (rw [if_pos (by omega)]; omega) | (rw [if_neg (by omega)]; done))
  refine lp4 0 (Nat.zero_le _) _ _ ?_ ?_
  · exact (by omega)
  · exact (mTop_1 H (gg 4 0 4)).symm
set_option maxRecDepth 100000 in
set_option maxHeartbeats 4000000 in
theorem c_X12_take0 {d : Nat} {h gg : fwH} {Q : Option fwV → fwH → Prop} (H : Nat → Int) (J : cOk gg) (R : jF gg h) (hH : hiR (gg 4 0 1) (h 42 0) H) (hb : hB H) (hn : 1 ≤ gg 4 0 1) (k : ∀ A, hiR (gg 4 0 1) A (mLow (gg 4 0 1).toNat H (gg 4 0 4)) → Q (some (aI (fwB (0 < (gg 4 0 1).toNat ∧ H (mTop H (gg 4 0 4) (gg 4 0 1).toNat).toNat ≠ 0)))) (fwUc h 42 0 A)) : fwCt mX12_take0 (d + 1) [aR 12 0] h Q := by
  refine fwCt_of [some (aR 12 0), none] rfl rfl rfl ?_
  obtain ⟨hl, hP, hG, -, -, -, hlw, -, ha, hs, -, hsc⟩ := id J
  obtain ⟨⟨g1, g2⟩, ⟨g3, g4⟩, ⟨g5, g6⟩, g7, -⟩ := id hG
  have hpz := hP.1
  refine w_aload_n dX12_take0_0 rfl ?_
  refine w_callV (d := d + 0) (S := []) [] dX12_take0_1 ml_X12_200 ok_X12_topCell vi_X12_topCell rfl rfl (by decide) rfl (Nat.le_of_ble_eq_true rfl) ?_
  refine c_X12_topCell (d := d) H J R hH hb (show 1 ≤ gg 4 0 1 by omega) ?_
  show fwWP mX12_take0 (d + 1) 4 [some (aR 12 0), none] [aI (mTop H (gg 4 0 4) (gg 4 0 1).toNat)] h Q
  have htp1 := mTop_r2 H (gg 4 0 4) (gg 4 0 1).toNat (by omega)
  refine w_istore_n [some (aR 12 0), some (aI (mTop H (gg 4 0 4) (gg 4 0 1).toNat))] dX12_take0_4 rfl (by decide) ?_
  have hbt := hb (mTop H (gg 4 0 4) (gg 4 0 1).toNat).toNat (by omega)
  refine w_aload_n dX12_take0_5 rfl ?_
  refine w_getr 42 0 dX12_take0_6 fl_X12_34 rfl (by decide) ?_
  refine w_iload_n dX12_take0_9 rfl ?_
  refine w_ialdE (v := H (mTop H (gg 4 0 4) (gg 4 0 1).toNat).toNat) dX12_take0_10 rfl (by decide) (by omega) (by omega) (hH _ (by omega)) ?_
  refine w_if_ne 16 dX12_take0_11 (by decide) (by omega) (fun c11 => ?_) (fun c11 => ?_)
  · refine w_aload_n dX12_take0_16 rfl ?_
    refine w_getr 42 0 dX12_take0_17 fl_X12_34 rfl (by decide) ?_
    refine w_iload_n dX12_take0_20 rfl ?_
    refine w_dup2 dX12_take0_21 rfl rfl ?_
    refine w_ialdE (v := H (mTop H (gg 4 0 4) (gg 4 0 1).toNat).toNat) dX12_take0_22 rfl (by decide) (by omega) (by omega) (hH _ (by omega)) ?_
    refine w_iconst dX12_take0_23 ?_
    refine w_isub dX12_take0_24 ?_
    refine w_iast dX12_take0_25 rfl (by decide) (by omega) (by omega) ?_
    refine w_iconst dX12_take0_26 ?_
    have k2 := k (fwFu (h 42 0) (mTop H (gg 4 0 4) (gg 4 0 1).toNat).toNat (H (mTop H (gg 4 0 4) (gg 4 0 1).toNat).toNat - 1)) (by unfold mLow; rw [if_pos ⟨by omega, by omega⟩]; exact hiR_fu hH _ _)
    rw [fwB_t ⟨by omega, by omega⟩, ← fwUp_fu] at k2
    exact w_zret dX12_take0_27 rfl (Or.inr rfl) k2
  · refine w_iconst dX12_take0_14 ?_
    have k2 := k (h 42 0) (by unfold mLow; rw [if_neg (fun q => q.2 (by omega))]; exact hH)
    rw [fwB_f (fun q => q.2 (by omega)), fwUc_self] at k2
    exact w_zret dX12_take0_15 rfl (Or.inl rfl) k2
set_option maxRecDepth 100000 in
set_option maxHeartbeats 4000000 in
theorem c_X12_falls {d : Nat} {h gg : fwH} {Q : Option fwV → fwH → Prop} (x y : Int) (H : Nat → Int) (J : cOk gg) (R : jF gg h) (hH : hiR (gg 4 0 1) (h 42 0) H) (hb : hB H) (hx : 0 ≤ x ∧ x < gg 4 0 1) (hy : -2147483648 ≤ y ∧ y < 2147483648) (k : Q (some (aI (fwB ((0 ≤ y ∧ y ≤ gg 4 0 1 - 1) ∧ gg 4 0 3 < H x.toNat + 1 - H y.toNat)))) h) : fwCt mX12_falls (d + 2) [aR 12 0, aI x, aI y] h Q := by
  refine fwCt_of [some (aR 12 0), some (aI x), some (aI y)] rfl rfl rfl ?_
  obtain ⟨hl, hP, hG, -, -, -, hlw, -, ha, hs, -, hsc⟩ := id J
  obtain ⟨⟨g1, g2⟩, ⟨g3, g4⟩, ⟨g5, g6⟩, g7, -⟩ := id hG
  have hpz := hP.1
  refine w_aload_n dX12_falls_0 rfl ?_
  refine w_iload_n dX12_falls_1 rfl ?_
  refine w_i2l dX12_falls_2 (by omega) ?_
  refine w_callV (d := d + 1) (S := []) [aJ y] dX12_falls_3 ml_X12_203 ok_X12_isCell vi_X12_isCell rfl rfl (by decide) rfl (Nat.le_of_ble_eq_true rfl) ?_
  refine c_X12_isCell (d := d) y J R (by omega) ?_
  show fwWP mX12_falls (d + 2) 6 [some (aR 12 0), some (aI x), some (aI y)] [aI (fwB (0 ≤ y ∧ y ≤ gg 4 0 1 - 1))] h Q
  refine w_ifB_eq 37 dX12_falls_6 (by decide) (fun c6 => ?_) (fun c6 => ?_)
  · refine w_iconst dX12_falls_37 ?_
    exact w_zretE dX12_falls_38 rfl (by first | (exfalso; omega) | (rw [fwB_t (by omega)]) | (rw [fwB_f (by omega)]) | rfl) k
  · have hbx := hb x.toNat (by omega)
    have hby := hb y.toNat (by omega)
    refine w_aload_n dX12_falls_9 rfl ?_
    refine w_getr 42 0 dX12_falls_10 fl_X12_34 rfl (by decide) ?_
    refine w_iload_n dX12_falls_13 rfl ?_
    refine w_ialdE (v := H (x).toNat) dX12_falls_14 rfl (by decide) (by omega) (by omega) (hH _ (by omega)) ?_
    refine w_iconst dX12_falls_15 ?_
    refine w_iadd dX12_falls_16 ?_
    refine w_aload_n dX12_falls_17 rfl ?_
    refine w_getr 42 0 dX12_falls_18 fl_X12_34 rfl (by decide) ?_
    refine w_iload_n dX12_falls_21 rfl ?_
    refine w_ialdE (v := H (y).toNat) dX12_falls_22 rfl (by decide) (by omega) (by omega) (hH _ (by omega)) ?_
    refine w_isub dX12_falls_23 ?_
    refine w_aload_n dX12_falls_24 rfl ?_
    refine w_getr 36 0 dX12_falls_25 fl_X12_9 rfl (by decide) ?_
    refine w_iconst dX12_falls_28 ?_
    refine w_ialdE (v := gg 4 0 3) dX12_falls_29 rfl (by decide) (by omega) (by omega) R.2.2.1 ?_
    refine w_icmp_le 37 dX12_falls_30 (by decide) (by omega) (by omega) (fun c30 => ?_) (fun c30 => ?_)
    · refine w_iconst dX12_falls_37 ?_
      exact w_zretE dX12_falls_38 rfl (by first | (exfalso; omega) | (rw [fwB_t (by omega)]) | (rw [fwB_f (by omega)]) | rfl) k
    · refine w_iconst dX12_falls_33 ?_
      refine w_goto 38 dX12_falls_34 (by decide) ?_
      exact w_zretE dX12_falls_38 rfl (by first | (exfalso; omega) | (rw [fwB_t (by omega)]) | (rw [fwB_f (by omega)]) | rfl) k
/-- a slide's way: where it is after c steps -/
def slI (n : Int) (H : Nat → Int) (rs x : Int) (c : Nat) (v : Int) : Prop := (0 ≤ v ∧ v < n) ∧ mDesc n H (rs - 1) (10 - c) v = mDesc n H (rs - 1) 10 x ∧ ((v = x - (c : Int) ∧ (c = 0 ∨ H v.toNat < H (v + 1).toNat)) ∨ (v = x + (c : Int) ∧ (c = 0 ∨ H v.toNat < H (v - 1).toNat)))
theorem hOf_p {n : Int} {H : Nat → Int} {x : Int} (h : 0 ≤ x ∧ x < n) : hOf n H x = H x.toNat := if_pos h
theorem mDown_l {n : Int} {H : Nat → Int} {v rs : Int} (hv : 0 ≤ v ∧ v < n) (h1 : (0 ≤ v - 1 ∧ v - 1 ≤ n - 1) ∧ rs < H v.toNat + 1 - H (v - 1).toNat) (h2 : ¬ ((0 ≤ v + 1 ∧ v + 1 ≤ n - 1) ∧ rs < H v.toNat + 1 - H (v + 1).toNat) ∨ ((0 ≤ v + 1 ∧ v + 1 ≤ n - 1) ∧ H (v - 1).toNat ≤ H (v + 1).toNat)) : mDown n H v (rs - 1) = v - 1 := by
  unfold mDown
  rw [hOf_p hv, hOf_p (x := v - 1) (by omega)]
  rw [if_pos]
  refine ⟨by omega, ?_⟩
  rcases h2 with h2 | h2
  · left
    intro q
    rw [hOf_p (x := v + 1) (by omega)] at q
    exact h2 (by omega)
  · right
    rw [hOf_p (x := v + 1) (by omega)]
    exact h2.2
theorem mDown_r {n : Int} {H : Nat → Int} {v rs : Int} (hv : 0 ≤ v ∧ v < n) (h1 : (0 ≤ v + 1 ∧ v + 1 ≤ n - 1) ∧ rs < H v.toNat + 1 - H (v + 1).toNat) (h2 : ¬ ((0 ≤ v - 1 ∧ v - 1 ≤ n - 1) ∧ rs < H v.toNat + 1 - H (v - 1).toNat) ∨ ((0 ≤ v - 1 ∧ v - 1 ≤ n - 1) ∧ H (v + 1).toNat < H (v - 1).toNat)) : mDown n H v (rs - 1) = v + 1 := by
  unfold mDown
  rw [hOf_p hv, hOf_p (x := v + 1) (by omega)]
  rw [if_neg, if_pos (by omega)]
  intro q
  have q1 := q.1
  rw [hOf_p (x := v - 1) (by omega)] at q1
  rcases h2 with h2 | h2
  · exact h2 (by omega)
  · have q2 := q.2
    rw [hOf_p (x := v - 1) (by omega)] at q2
    omega
theorem mDown_n {n : Int} {H : Nat → Int} {v rs : Int} (hv : 0 ≤ v ∧ v < n) (h1 : ¬ ((0 ≤ v - 1 ∧ v - 1 ≤ n - 1) ∧ rs < H v.toNat + 1 - H (v - 1).toNat)) (h2 : ¬ ((0 ≤ v + 1 ∧ v + 1 ≤ n - 1) ∧ rs < H v.toNat + 1 - H (v + 1).toNat)) : mDown n H v (rs - 1) = -1 := by
  unfold mDown
  rw [hOf_p hv]
  rw [if_neg, if_neg]
  · intro q
    rw [hOf_p (x := v + 1) (by omega)] at q
    exact h2 (by omega)
  · intro q
    have q1 := q.1
    rw [hOf_p (x := v - 1) (by omega)] at q1
    exact h1 (by omega)
theorem slI_step {n : Int} {H : Nat → Int} {rs x v v2 : Int} {c : Nat} (hc : c ≤ 9) (hi : slI n H rs x c v) (hd : mDown n H v (rs - 1) = v2) (h0 : 0 ≤ v2) : mDesc n H (rs - 1) (10 - (c + 1)) v2 = mDesc n H (rs - 1) 10 x := by
  rw [← hi.2.1, show 10 - c = (10 - (c + 1)) + 1 by omega, mDesc.eq_2, hd, if_neg (by omega)]
theorem slI_l {n : Int} {H : Nat → Int} {rs x v : Int} {c : Nat} (hn : n ≤ 10) (hx : 0 ≤ x ∧ x < n) (hrs : 1 ≤ rs) (hc : c ≤ 9) (hi : slI n H rs x c v) (h1 : (0 ≤ v - 1 ∧ v - 1 ≤ n - 1) ∧ rs < H v.toNat + 1 - H (v - 1).toNat) (h2 : ¬ ((0 ≤ v + 1 ∧ v + 1 ≤ n - 1) ∧ rs < H v.toNat + 1 - H (v + 1).toNat) ∨ ((0 ≤ v + 1 ∧ v + 1 ≤ n - 1) ∧ H (v - 1).toNat ≤ H (v + 1).toNat)) : c < 9 ∧ slI n H rs x (c + 1) (v - 1) := by
  have hd := mDown_l hi.1 h1 h2
  have hs := slI_step hc hi hd (by omega)
  obtain ⟨a, b, e⟩ := hi
  have e2 : v = x - (c : Int) := by
    rcases e with e | e
    · exact e.1
    · rcases e.2 with z | z
      · omega
      · omega
  refine ⟨by omega, ⟨by omega, hs, Or.inl ⟨by omega, Or.inr ?_⟩⟩⟩
  rw [show v - 1 + 1 = v by omega]
  omega
theorem slI_r {n : Int} {H : Nat → Int} {rs x v : Int} {c : Nat} (hn : n ≤ 10) (hx : 0 ≤ x ∧ x < n) (hrs : 1 ≤ rs) (hc : c ≤ 9) (hi : slI n H rs x c v) (h1 : (0 ≤ v + 1 ∧ v + 1 ≤ n - 1) ∧ rs < H v.toNat + 1 - H (v + 1).toNat) (h2 : ¬ ((0 ≤ v - 1 ∧ v - 1 ≤ n - 1) ∧ rs < H v.toNat + 1 - H (v - 1).toNat) ∨ ((0 ≤ v - 1 ∧ v - 1 ≤ n - 1) ∧ H (v + 1).toNat < H (v - 1).toNat)) : c < 9 ∧ slI n H rs x (c + 1) (v + 1) := by
  have hd := mDown_r hi.1 h1 h2
  have hs := slI_step hc hi hd (by omega)
  obtain ⟨a, b, e⟩ := hi
  have e2 : v = x + (c : Int) := by
    rcases e with e | e
    · rcases e.2 with z | z
      · omega
      · omega
    · exact e.1
  refine ⟨by omega, ⟨by omega, hs, Or.inr ⟨by omega, Or.inr ?_⟩⟩⟩
  rw [show v + 1 - 1 = v by omega]
  omega
theorem slI_e {n : Int} {H : Nat → Int} {rs x v : Int} {c : Nat} (hc : c ≤ 9) (hi : slI n H rs x c v) (h1 : ¬ ((0 ≤ v - 1 ∧ v - 1 ≤ n - 1) ∧ rs < H v.toNat + 1 - H (v - 1).toNat)) (h2 : ¬ ((0 ≤ v + 1 ∧ v + 1 ≤ n - 1) ∧ rs < H v.toNat + 1 - H (v + 1).toNat)) : mDesc n H (rs - 1) 10 x = v := by
  have hd := mDown_n hi.1 h1 h2
  rw [← hi.2.1, show 10 - c = (9 - c) + 1 by omega, mDesc, if_pos hd]
set_option maxRecDepth 100000 in
set_option maxHeartbeats 4000000 in
theorem c_X12_slideOf {d : Nat} {h gg : fwH} {Q : Option fwV → fwH → Prop} (x : Int) (H : Nat → Int) (J : cOk gg) (R : jF gg h) (hH : hiR (gg 4 0 1) (h 42 0) H) (hb : hB H) (h99 : ∀ c : Nat, (c : Int) < gg 4 0 1 → H c ≤ 99) (hrs : 1 ≤ gg 4 0 3) (hx : 0 ≤ x ∧ x < gg 4 0 1) (k : Q (some (aI (mStay (gg 4 0 1) H (gg 4 0 3) x))) h) : fwCt mX12_slideOf (d + 3) [aR 12 0, aI x] h Q := by
  refine fwCt_of [some (aR 12 0), some (aI x), none, none] rfl rfl rfl ?_
  have g2 : gg 4 0 1 ≤ 10 := J.2.2.1.1.2
  refine w_iload_n dX12_slideOf_0 rfl ?_
  refine w_istore_n [some (aR 12 0), some (aI x), some (aI x), none] dX12_slideOf_1 rfl (by decide) ?_
  have lp2 : ∀ c : Nat, c ≤ 9 → ∀ v : Int, slI (gg 4 0 1) H (gg 4 0 3) x c v → fwWP mX12_slideOf (d + 3) 2 [some (aR 12 0), some (aI x), some (aI v), none] [] h Q := by
    refine fw_up (fun c hc2 ih2 => ?_)
    intro v iv2
    have iv0 := iv2.1
    show fwWP mX12_slideOf (d + 3) 2 [some (aR 12 0), some (aI x), some (aI v), none] [] h Q
    refine w_aload_n dX12_slideOf_2 rfl ?_
    refine w_iload_n dX12_slideOf_3 rfl ?_
    refine w_iload_n dX12_slideOf_4 rfl ?_
    refine w_iconst dX12_slideOf_5 ?_
    refine w_isub dX12_slideOf_6 ?_
    refine w_callV (d := d + 2) (S := []) [aI v, aI (v - 1)] dX12_slideOf_7 ml_X12_207 ok_X12_falls vi_X12_falls rfl rfl (by decide) rfl (Nat.le_of_ble_eq_true rfl) ?_
    refine c_X12_falls (d := d) v (v - 1) H J R hH hb (show 0 ≤ v ∧ v < gg 4 0 1 by omega) (by omega) ?_
    show fwWP mX12_slideOf (d + 3) 10 [some (aR 12 0), some (aI x), some (aI v), none] [aI (fwB ((0 ≤ (v - 1) ∧ (v - 1) ≤ gg 4 0 1 - 1) ∧ gg 4 0 3 < H v.toNat + 1 - H (v - 1).toNat))] h Q
    refine w_ifB_ne 24 dX12_slideOf_10 (by decide) (fun c10 => ?_) (fun c10 => ?_)
    · refine w_aload_n dX12_slideOf_24 rfl ?_
      refine w_iload_n dX12_slideOf_25 rfl ?_
      refine w_iload_n dX12_slideOf_26 rfl ?_
      refine w_iconst dX12_slideOf_27 ?_
      refine w_isub dX12_slideOf_28 ?_
      refine w_callV (d := d + 2) (S := []) [aI v, aI (v - 1)] dX12_slideOf_29 ml_X12_207 ok_X12_falls vi_X12_falls rfl rfl (by decide) rfl (Nat.le_of_ble_eq_true rfl) ?_
      refine c_X12_falls (d := d) v (v - 1) H J R hH hb (show 0 ≤ v ∧ v < gg 4 0 1 by omega) (by omega) ?_
      show fwWP mX12_slideOf (d + 3) 32 [some (aR 12 0), some (aI x), some (aI v), none] [aI (fwB ((0 ≤ (v - 1) ∧ (v - 1) ≤ gg 4 0 1 - 1) ∧ gg 4 0 3 < H v.toNat + 1 - H (v - 1).toNat))] h Q
      refine w_ifB_eq 69 dX12_slideOf_32 (by decide) (fun c32 => ?_) (fun c32 => ?_)
      · exact absurd c10 c32
      · refine w_aload_n dX12_slideOf_35 rfl ?_
        refine w_iload_n dX12_slideOf_36 rfl ?_
        refine w_iload_n dX12_slideOf_37 rfl ?_
        refine w_iconst dX12_slideOf_38 ?_
        refine w_iadd dX12_slideOf_39 ?_
        refine w_callV (d := d + 2) (S := []) [aI v, aI (v + 1)] dX12_slideOf_40 ml_X12_207 ok_X12_falls vi_X12_falls rfl rfl (by decide) rfl (Nat.le_of_ble_eq_true rfl) ?_
        refine c_X12_falls (d := d) v (v + 1) H J R hH hb (show 0 ≤ v ∧ v < gg 4 0 1 by omega) (by omega) ?_
        show fwWP mX12_slideOf (d + 3) 43 [some (aR 12 0), some (aI x), some (aI v), none] [aI (fwB ((0 ≤ (v + 1) ∧ (v + 1) ≤ gg 4 0 1 - 1) ∧ gg 4 0 3 < H v.toNat + 1 - H (v + 1).toNat))] h Q
        refine w_ifB_eq 65 dX12_slideOf_43 (by decide) (fun c43 => ?_) (fun c43 => ?_)
        · refine w_iconst dX12_slideOf_65 ?_
          refine w_goto 70 dX12_slideOf_66 (by decide) ?_
          refine w_istore_n [some (aR 12 0), some (aI x), some (aI v), some (aI 1)] dX12_slideOf_70 rfl (by decide) ?_
          refine w_iload_n dX12_slideOf_71 rfl ?_
          refine w_if_eq 81 dX12_slideOf_72 (by decide) (by omega) (fun c72 => ?_) (fun c72 => ?_)
          · (exfalso; omega)
          · refine w_iload_n dX12_slideOf_75 rfl ?_
            refine w_iconst dX12_slideOf_76 ?_
            refine w_isub dX12_slideOf_77 ?_
            refine w_goto 84 dX12_slideOf_78 (by decide) ?_
            refine w_istore_n [some (aR 12 0), some (aI x), some (aI (v - 1)), some (aI 1)] dX12_slideOf_84 rfl (by decide) ?_
            refine w_goto 2 dX12_slideOf_85 (by decide) ?_
            refine w_drop [3] [some (aR 12 0), some (aI x), some (aI (v - 1)), none] rfl ?_
            have hq := slI_l g2 hx hrs hc2 iv2 c32 (by first | exact Or.inl c43 | exact Or.inr ⟨c43.1, by omega⟩)
            exact ih2 hq.1 _ hq.2
        · have hbl := hb (v - 1).toNat (by omega)
          have hbr := hb (v + 1).toNat (by omega)
          refine w_aload_n dX12_slideOf_46 rfl ?_
          refine w_getr 42 0 dX12_slideOf_47 fl_X12_34 rfl (by decide) ?_
          refine w_iload_n dX12_slideOf_50 rfl ?_
          refine w_iconst dX12_slideOf_51 ?_
          refine w_isub dX12_slideOf_52 ?_
          refine w_ialdE (v := H (v - 1).toNat) dX12_slideOf_53 rfl (by decide) (by omega) (by omega) (hH _ (by omega)) ?_
          refine w_aload_n dX12_slideOf_54 rfl ?_
          refine w_getr 42 0 dX12_slideOf_55 fl_X12_34 rfl (by decide) ?_
          refine w_iload_n dX12_slideOf_58 rfl ?_
          refine w_iconst dX12_slideOf_59 ?_
          refine w_iadd dX12_slideOf_60 ?_
          refine w_ialdE (v := H (v + 1).toNat) dX12_slideOf_61 rfl (by decide) (by omega) (by omega) (hH _ (by omega)) ?_
          refine w_icmp_gt 69 dX12_slideOf_62 (by decide) (by omega) (by omega) (fun c62 => ?_) (fun c62 => ?_)
          · refine w_iconst dX12_slideOf_69 ?_
            refine w_istore_n [some (aR 12 0), some (aI x), some (aI v), some (aI 0)] dX12_slideOf_70 rfl (by decide) ?_
            refine w_iload_n dX12_slideOf_71 rfl ?_
            refine w_if_eq 81 dX12_slideOf_72 (by decide) (by omega) (fun c72 => ?_) (fun c72 => ?_)
            · refine w_iload_n dX12_slideOf_81 rfl ?_
              refine w_iconst dX12_slideOf_82 ?_
              refine w_iadd dX12_slideOf_83 ?_
              refine w_istore_n [some (aR 12 0), some (aI x), some (aI (v + 1)), some (aI 0)] dX12_slideOf_84 rfl (by decide) ?_
              refine w_goto 2 dX12_slideOf_85 (by decide) ?_
              refine w_drop [3] [some (aR 12 0), some (aI x), some (aI (v + 1)), none] rfl ?_
              have hq := slI_r g2 hx hrs hc2 iv2 c43 (Or.inr ⟨c32.1, by omega⟩)
              exact ih2 hq.1 _ hq.2
            · (exfalso; omega)
          · refine w_iconst dX12_slideOf_65 ?_
            refine w_goto 70 dX12_slideOf_66 (by decide) ?_
            refine w_istore_n [some (aR 12 0), some (aI x), some (aI v), some (aI 1)] dX12_slideOf_70 rfl (by decide) ?_
            refine w_iload_n dX12_slideOf_71 rfl ?_
            refine w_if_eq 81 dX12_slideOf_72 (by decide) (by omega) (fun c72 => ?_) (fun c72 => ?_)
            · (exfalso; omega)
            · refine w_iload_n dX12_slideOf_75 rfl ?_
              refine w_iconst dX12_slideOf_76 ?_
              refine w_isub dX12_slideOf_77 ?_
              refine w_goto 84 dX12_slideOf_78 (by decide) ?_
              refine w_istore_n [some (aR 12 0), some (aI x), some (aI (v - 1)), some (aI 1)] dX12_slideOf_84 rfl (by decide) ?_
              refine w_goto 2 dX12_slideOf_85 (by decide) ?_
              refine w_drop [3] [some (aR 12 0), some (aI x), some (aI (v - 1)), none] rfl ?_
              have hq := slI_l g2 hx hrs hc2 iv2 c32 (by first | exact Or.inl c43 | exact Or.inr ⟨c43.1, by omega⟩)
              exact ih2 hq.1 _ hq.2
    · refine w_aload_n dX12_slideOf_13 rfl ?_
      refine w_iload_n dX12_slideOf_14 rfl ?_
      refine w_iload_n dX12_slideOf_15 rfl ?_
      refine w_iconst dX12_slideOf_16 ?_
      refine w_iadd dX12_slideOf_17 ?_
      refine w_callV (d := d + 2) (S := []) [aI v, aI (v + 1)] dX12_slideOf_18 ml_X12_207 ok_X12_falls vi_X12_falls rfl rfl (by decide) rfl (Nat.le_of_ble_eq_true rfl) ?_
      refine c_X12_falls (d := d) v (v + 1) H J R hH hb (show 0 ≤ v ∧ v < gg 4 0 1 by omega) (by omega) ?_
      show fwWP mX12_slideOf (d + 3) 21 [some (aR 12 0), some (aI x), some (aI v), none] [aI (fwB ((0 ≤ (v + 1) ∧ (v + 1) ≤ gg 4 0 1 - 1) ∧ gg 4 0 3 < H v.toNat + 1 - H (v + 1).toNat))] h Q
      refine w_ifB_eq 88 dX12_slideOf_21 (by decide) (fun c21 => ?_) (fun c21 => ?_)
      · have hbv := hb v.toNat (by omega)
        have h99v := h99 v.toNat (by omega)
        have hds := slI_e hc2 iv2 c10 c21
        refine w_aload_n dX12_slideOf_88 rfl ?_
        refine w_getr 42 0 dX12_slideOf_89 fl_X12_34 rfl (by decide) ?_
        refine w_iload_n dX12_slideOf_92 rfl ?_
        refine w_ialdE (v := H (v).toNat) dX12_slideOf_93 rfl (by decide) (by omega) (by omega) (hH _ (by omega)) ?_
        refine w_bipush dX12_slideOf_94 rfl ?_
        refine w_icmp_ne 103 dX12_slideOf_96 (by decide) (by omega) (by omega) (fun c96 => ?_) (fun c96 => ?_)
        · refine w_iload_n dX12_slideOf_103 rfl ?_
          exact w_iretE dX12_slideOf_104 rfl (by unfold mStay; rw [hds, hOf_p iv0]; first | rw [if_pos (by omega)] | rw [if_neg (by omega)]) k
        · refine w_iconst dX12_slideOf_99 ?_
          refine w_goto 104 dX12_slideOf_100 (by decide) ?_
          exact w_iretE dX12_slideOf_104 rfl (by unfold mStay; rw [hds, hOf_p iv0]; first | rw [if_pos (by omega)] | rw [if_neg (by omega)]) k
      · refine w_aload_n dX12_slideOf_24 rfl ?_
        refine w_iload_n dX12_slideOf_25 rfl ?_
        refine w_iload_n dX12_slideOf_26 rfl ?_
        refine w_iconst dX12_slideOf_27 ?_
        refine w_isub dX12_slideOf_28 ?_
        refine w_callV (d := d + 2) (S := []) [aI v, aI (v - 1)] dX12_slideOf_29 ml_X12_207 ok_X12_falls vi_X12_falls rfl rfl (by decide) rfl (Nat.le_of_ble_eq_true rfl) ?_
        refine c_X12_falls (d := d) v (v - 1) H J R hH hb (show 0 ≤ v ∧ v < gg 4 0 1 by omega) (by omega) ?_
        show fwWP mX12_slideOf (d + 3) 32 [some (aR 12 0), some (aI x), some (aI v), none] [aI (fwB ((0 ≤ (v - 1) ∧ (v - 1) ≤ gg 4 0 1 - 1) ∧ gg 4 0 3 < H v.toNat + 1 - H (v - 1).toNat))] h Q
        refine w_ifB_eq 69 dX12_slideOf_32 (by decide) (fun c32 => ?_) (fun c32 => ?_)
        · refine w_iconst dX12_slideOf_69 ?_
          refine w_istore_n [some (aR 12 0), some (aI x), some (aI v), some (aI 0)] dX12_slideOf_70 rfl (by decide) ?_
          refine w_iload_n dX12_slideOf_71 rfl ?_
          refine w_if_eq 81 dX12_slideOf_72 (by decide) (by omega) (fun c72 => ?_) (fun c72 => ?_)
          · refine w_iload_n dX12_slideOf_81 rfl ?_
            refine w_iconst dX12_slideOf_82 ?_
            refine w_iadd dX12_slideOf_83 ?_
            refine w_istore_n [some (aR 12 0), some (aI x), some (aI (v + 1)), some (aI 0)] dX12_slideOf_84 rfl (by decide) ?_
            refine w_goto 2 dX12_slideOf_85 (by decide) ?_
            refine w_drop [3] [some (aR 12 0), some (aI x), some (aI (v + 1)), none] rfl ?_
            have hq := slI_r g2 hx hrs hc2 iv2 c21 (Or.inl c10)
            exact ih2 hq.1 _ hq.2
          · (exfalso; omega)
        · exact absurd c32 c10
  exact lp2 0 (Nat.zero_le _) _ ⟨hx, rfl, Or.inl ⟨by omega, Or.inl rfl⟩⟩
set_option maxRecDepth 100000 in
set_option maxHeartbeats 4000000 in
theorem c_X12_heap0 {d : Nat} {h gg : fwH} {Q : Option fwV → fwH → Prop} (x : Int) (H : Nat → Int) (J : cOk gg) (R : jF gg h) (hH : hiR (gg 4 0 1) (h 42 0) H) (hb : hB H) (h99 : ∀ c : Nat, (c : Int) < gg 4 0 1 → H c ≤ 99) (hrs : 1 ≤ gg 4 0 3) (hx : 0 ≤ x ∧ x < gg 4 0 1) (k : ∀ A, hiR (gg 4 0 1) A (mRs H (mStay (gg 4 0 1) H (gg 4 0 3) x)) → Q (some (aI (mStay (gg 4 0 1) H (gg 4 0 3) x))) (fwUc h 42 0 A)) : fwCt mX12_heap0 (d + 4) [aR 12 0, aI x] h Q := by
  refine fwCt_of [some (aR 12 0), some (aI x), none] rfl rfl rfl ?_
  obtain ⟨hl, hP, hG, -, -, -, hlw, -, ha, hs, -, hsc⟩ := id J
  obtain ⟨⟨g1, g2⟩, ⟨g3, g4⟩, ⟨g5, g6⟩, g7, -⟩ := id hG
  have hpz := hP.1
  refine w_aload_n dX12_heap0_0 rfl ?_
  refine w_iload_n dX12_heap0_1 rfl ?_
  refine w_callV (d := d + 3) (S := []) [aI x] dX12_heap0_2 ml_X12_211 ok_X12_slideOf vi_X12_slideOf rfl rfl (by decide) rfl (Nat.le_of_ble_eq_true rfl) ?_
  refine c_X12_slideOf (d := d) x H J R hH hb h99 (show 1 ≤ gg 4 0 3 by omega) (show 0 ≤ x ∧ x < gg 4 0 1 by omega) ?_
  show fwWP mX12_heap0 (d + 4) 5 [some (aR 12 0), some (aI x), none] [aI (mStay (gg 4 0 1) H (gg 4 0 3) x)] h Q
  have hsr1 := mStay_rng H (rs := gg 4 0 3) (n := gg 4 0 1) (x := x) (by omega) (by omega)
  refine w_istore_n [some (aR 12 0), some (aI x), some (aI (mStay (gg 4 0 1) H (gg 4 0 3) x))] dX12_heap0_5 rfl (by decide) ?_
  refine w_iload_n dX12_heap0_6 rfl ?_
  refine w_iconst dX12_heap0_7 ?_
  refine w_icmp_eq 21 dX12_heap0_8 (by decide) (by omega) (by omega) (fun c8 => ?_) (fun c8 => ?_)
  · refine w_iload_n dX12_heap0_21 rfl ?_
    have k2 := k (h 42 0) (by unfold mRs; rw [if_pos (by omega)]; exact hH)
    rw [fwUc_self] at k2
    exact w_iret dX12_heap0_22 rfl k2
  · refine w_aload_n dX12_heap0_11 rfl ?_
    refine w_getr 42 0 dX12_heap0_12 fl_X12_34 rfl (by decide) ?_
    refine w_iload_n dX12_heap0_15 rfl ?_
    refine w_dup2 dX12_heap0_16 rfl rfl ?_
    refine w_ialdE (v := H (mStay (gg 4 0 1) H (gg 4 0 3) x).toNat) dX12_heap0_17 rfl (by decide) (by omega) (by omega) (hH _ (by omega)) ?_
    refine w_iconst dX12_heap0_18 ?_
    refine w_iadd dX12_heap0_19 ?_
    refine w_iast dX12_heap0_20 rfl (by decide) (by omega) (by omega) ?_
    refine w_iload_n dX12_heap0_21 rfl ?_
    have k2 := k (fwFu (h 42 0) (mStay (gg 4 0 1) H (gg 4 0 3) x).toNat (H (mStay (gg 4 0 1) H (gg 4 0 3) x).toNat + 1)) (by unfold mRs; rw [if_neg (by omega)]; exact hiR_fu hH _ _)
    rw [← fwUp_fu] at k2
    exact w_iret dX12_heap0_22 rfl k2
end
section
theorem mShd_iff {n : Int} {H : Nat → Int} {x st s : Int} (hs1 : 1 ≤ s) : ∀ a : Nat, s ≤ mShd n H x st a ↔ ∃ b : Nat, b < a ∧ (0 ≤ x + st * ((b : Int) + 1) ∧ x + st * ((b : Int) + 1) < n) ∧ s * ((b : Int) + 1) < H (x + st * ((b : Int) + 1)).toNat - H x.toNat := by
  intro a
  induction a with
  | zero =>
    rw [mShd]
    constructor
    · intro q; omega
    · rintro ⟨b, hb, -⟩; omega
  | succ a ih =>
    have hdiv : ∀ z : Int, s ≤ z / ((a : Int) + 1) ↔ s * ((a : Int) + 1) ≤ z := fun z => Int.le_ediv_iff_mul_le (by omega)
    have hpos : 1 ≤ s * ((a : Int) + 1) := by
      have := Int.mul_le_mul hs1 (show (1 : Int) ≤ (a : Int) + 1 by omega) (by omega) (by omega)
      omega
    rw [mShd]
    split
    · rename_i q
      constructor
      · intro z
        exact ⟨a, by omega, q.1, by have := (hdiv _).mp z; omega⟩
      · rintro ⟨b, hb, h1, h2⟩
        rcases Nat.lt_or_ge b a with e | e
        · have := ih.mpr ⟨b, e, h1, h2⟩
          omega
        · have e2 : b = a := by omega
          subst e2
          exact (hdiv _).mpr (by omega)
    · rename_i q
      constructor
      · intro z
        obtain ⟨b, h1, h2, h3⟩ := ih.mp z
        exact ⟨b, by omega, h2, h3⟩
      · rintro ⟨b, hb, h1, h2⟩
        rcases Nat.lt_or_ge b a with e | e
        · exact ih.mpr ⟨b, e, h1, h2⟩
        · have e2 : b = a := by omega
          subst e2
          have z1 := (hdiv (H (x + st * ((b : Int) + 1)).toNat - H x.toNat - 1)).mpr (by omega)
          rcases Int.lt_or_le (mShd n H x st b) ((H (x + st * ((b : Int) + 1)).toNat - H x.toNat - 1) / ((b : Int) + 1)) with z2 | z2
          · exact absurd ⟨h1, by omega, z2⟩ q
          · omega
theorem shade_p {n : Int} {H : Nat → Int} {x y : Int} (hx : 0 ≤ x ∧ x < n) (hy : 1 ≤ y ∧ y ≤ 9) : mShadeB n H x y = true ↔ ∃ b : Nat, b < 9 ∧ (0 ≤ x + -1 * ((b : Int) + 1) ∧ x + -1 * ((b : Int) + 1) < n) ∧ y * ((b : Int) + 1) < H (x + -1 * ((b : Int) + 1)).toNat - H x.toNat := by
  rw [← mShd_iff hy.1]
  unfold mShadeB mSh
  rw [if_pos (by omega), if_pos hx, decide_eq_true_eq]
  omega
theorem shade_m {n : Int} {H : Nat → Int} {x y : Int} (hx : 0 ≤ x ∧ x < n) (hy : 1 ≤ -y ∧ -y ≤ 9) : mShadeB n H x y = true ↔ ∃ b : Nat, b < 9 ∧ (0 ≤ x + 1 * ((b : Int) + 1) ∧ x + 1 * ((b : Int) + 1) < n) ∧ -y * ((b : Int) + 1) < H (x + 1 * ((b : Int) + 1)).toNat - H x.toNat := by
  rw [← mShd_iff hy.1]
  unfold mShadeB mSh
  rw [if_neg (by omega), if_pos hx, decide_eq_true_eq]
  omega
theorem mul_rg {s a : Int} (h1 : 0 ≤ s ∧ s ≤ 9) (h2 : 0 ≤ a ∧ a ≤ 20) : 0 ≤ s * a ∧ s * a ≤ 180 := by
  refine ⟨Int.mul_nonneg h1.1 h2.1, ?_⟩
  have := Int.mul_le_mul h1.2 h2.2 h2.1 (by omega)
  omega
set_option maxRecDepth 100000 in
set_option maxHeartbeats 4000000 in
theorem c_X12_isDark {d : Nat} {h gg : fwH} {Q : Option fwV → fwH → Prop} (x y : Int) (H : Nat → Int) (J : cOk gg) (R : jF gg h) (hH : hiR (gg 4 0 1) (h 42 0) H) (hb : hB H) (hx : 0 ≤ x ∧ x < gg 4 0 1) (hy : y ≠ 0 ∧ -9 ≤ y ∧ y ≤ 9) (k : Q (some (aI (fwB (mShadeB (gg 4 0 1) H x y = true)))) h) : fwCt mX12_isDark (d + 2) [aR 12 0, aI x, aI y] h Q := by
  refine fwCt_of [some (aR 12 0), some (aI x), some (aI y), none, none, none, none] rfl rfl rfl ?_
  have g2 : gg 4 0 1 ≤ 10 := J.2.2.1.1.2
  refine w_iload_n dX12_isDark_0 rfl ?_
  refine w_if_le 8 dX12_isDark_1 (by decide) (by omega) (fun c1 => ?_) (fun c1 => ?_)
  · refine w_iconst dX12_isDark_8 ?_
    refine w_istore_n [some (aR 12 0), some (aI x), some (aI y), some (aI 1), none, none, none] dX12_isDark_9 rfl (by decide) ?_
    refine w_iload_n dX12_isDark_10 rfl ?_
    refine w_abs (d := d + 1) (S := []) dX12_isDark_11 ml_X12_214 (by omega) (Nat.le_of_ble_eq_true rfl) ?_
    rw [show (if 0 ≤ y then y else -y) = -y from if_neg (by omega)]
    refine w_istore [some (aR 12 0), some (aI x), some (aI y), some (aI 1), some (aI (-y)), none, none] dX12_isDark_14 rfl (by decide) ?_
    refine w_iload_n dX12_isDark_16 rfl ?_
    refine w_iload_n dX12_isDark_17 rfl ?_
    refine w_iadd dX12_isDark_18 ?_
    refine w_istore [some (aR 12 0), some (aI x), some (aI y), some (aI 1), some (aI (-y)), some (aI (x + 1)), none] dX12_isDark_19 rfl (by decide) ?_
    refine w_iconst dX12_isDark_21 ?_
    refine w_istore [some (aR 12 0), some (aI x), some (aI y), some (aI 1), some (aI (-y)), some (aI (x + 1)), some (aI 1)] dX12_isDark_22 rfl (by decide) ?_
    have lp24 : ∀ c : Nat, c ≤ 10 → ∀ (y24 oo : Int), y24 = (c : Int) + 1 → oo = x + 1 * ((c : Int) + 1) → (∀ b : Nat, b < c → ¬ ((0 ≤ x + 1 * ((b : Int) + 1) ∧ x + 1 * ((b : Int) + 1) < gg 4 0 1) ∧ -y * ((b : Int) + 1) < H (x + 1 * ((b : Int) + 1)).toNat - H x.toNat)) → fwWP mX12_isDark (d + 2) 24 [some (aR 12 0), some (aI x), some (aI y), some (aI 1), some (aI (-y)), some (aI oo), some (aI y24)] [] h Q := by
      refine fw_up (fun c hc24 ih24 => ?_)
      intro y24 oo ey24 e_oo iv24_0
      subst ey24
      subst e_oo
      have hml := mul_rg (s := -y) (a := (c : Int) + 1) (by omega) (by omega)
      show fwWP mX12_isDark (d + 2) 24 [some (aR 12 0), some (aI x), some (aI y), some (aI 1), some (aI (-y)), some (aI (x + 1 * ((c : Int) + 1))), some (aI ((c : Int) + 1))] [] h Q
      refine w_aload_n dX12_isDark_24 rfl ?_
      refine w_iload dX12_isDark_25 rfl ?_
      refine w_i2l dX12_isDark_27 (by omega) ?_
      refine w_callV (d := d + 1) (S := []) [aJ (x + 1 * ((c : Int) + 1))] dX12_isDark_28 ml_X12_203 ok_X12_isCell vi_X12_isCell rfl rfl (by decide) rfl (Nat.le_of_ble_eq_true rfl) ?_
      refine c_X12_isCell (d := d) (x + 1 * ((c : Int) + 1)) J R (by omega) ?_
      show fwWP mX12_isDark (d + 2) 31 [some (aR 12 0), some (aI x), some (aI y), some (aI 1), some (aI (-y)), some (aI (x + 1 * ((c : Int) + 1))), some (aI ((c : Int) + 1))] [aI (fwB (0 ≤ (x + 1 * ((c : Int) + 1)) ∧ (x + 1 * ((c : Int) + 1)) ≤ gg 4 0 1 - 1))] h Q
      refine w_ifB_eq 70 dX12_isDark_31 (by decide) (fun c31 => ?_) (fun c31 => ?_)
      · refine w_iconst dX12_isDark_70 ?_
        exact w_zretE (P := mShadeB (gg 4 0 1) H x y = true) dX12_isDark_71 rfl (by rw [fwB_f]; intro q0; obtain ⟨b0, z1, z2, z3⟩ := (shade_m hx (by omega)).mp q0; rcases Nat.lt_or_ge b0 c with e0 | e0; exact iv24_0 b0 e0 ⟨z2, z3⟩; omega) k
      · have hbo := hb (x + 1 * ((c : Int) + 1)).toNat (by omega)
        have hbx := hb x.toNat (by omega)
        refine w_aload_n dX12_isDark_34 rfl ?_
        refine w_getr 42 0 dX12_isDark_35 fl_X12_34 rfl (by decide) ?_
        refine w_iload dX12_isDark_38 rfl ?_
        refine w_ialdE (v := H (x + 1 * ((c : Int) + 1)).toNat) dX12_isDark_40 rfl (by decide) (by omega) (by omega) (hH _ (by omega)) ?_
        refine w_aload_n dX12_isDark_41 rfl ?_
        refine w_getr 42 0 dX12_isDark_42 fl_X12_34 rfl (by decide) ?_
        refine w_iload_n dX12_isDark_45 rfl ?_
        refine w_ialdE (v := H (x).toNat) dX12_isDark_46 rfl (by decide) (by omega) (by omega) (hH _ (by omega)) ?_
        refine w_isub dX12_isDark_47 ?_
        refine w_iload dX12_isDark_48 rfl ?_
        refine w_iload dX12_isDark_50 rfl ?_
        refine w_imul dX12_isDark_52 ?_
        refine w_icmp_le 58 dX12_isDark_53 (by decide) (by omega) (by omega) (fun c53 => ?_) (fun c53 => ?_)
        · refine w_iload dX12_isDark_58 rfl ?_
          refine w_iload_n dX12_isDark_60 rfl ?_
          refine w_iadd dX12_isDark_61 ?_
          refine w_istore [some (aR 12 0), some (aI x), some (aI y), some (aI 1), some (aI (-y)), some (aI ((x + 1 * ((c : Int) + 1)) + 1)), some (aI ((c : Int) + 1))] dX12_isDark_62 rfl (by decide) ?_
          refine w_iinc [some (aR 12 0), some (aI x), some (aI y), some (aI 1), some (aI (-y)), some (aI ((x + 1 * ((c : Int) + 1)) + 1)), some (aI (((c : Int) + 1) + 1))] dX12_isDark_64 rfl rfl (by decide) ?_
          refine w_goto 24 dX12_isDark_67 (by decide) ?_
          refine ih24 (by omega) _ _ ?_ ?_ ?_
          · exact (by omega)
          · exact (by omega)
          · exact (fun b hb0 => by rcases Nat.lt_or_ge b c with e0 | e0; exact iv24_0 b e0; rw [show b = c by omega]; exact fun q0 => by have := q0.2; omega)
        · refine w_iconst dX12_isDark_56 ?_
          exact w_zretE (P := mShadeB (gg 4 0 1) H x y = true) dX12_isDark_57 rfl (by rw [fwB_t ((shade_m hx (by omega)).mpr ⟨c, by omega, by omega, by omega⟩)]) k
    refine lp24 0 (Nat.zero_le _) _ _ ?_ ?_ ?_
    · exact (by omega)
    · exact (by omega)
    · exact (fun b hb0 => by omega)
  · refine w_iconst dX12_isDark_4 ?_
    refine w_goto 9 dX12_isDark_5 (by decide) ?_
    refine w_istore_n [some (aR 12 0), some (aI x), some (aI y), some (aI (-1)), none, none, none] dX12_isDark_9 rfl (by decide) ?_
    refine w_iload_n dX12_isDark_10 rfl ?_
    refine w_abs (d := d + 1) (S := []) dX12_isDark_11 ml_X12_214 (by omega) (Nat.le_of_ble_eq_true rfl) ?_
    rw [show (if 0 ≤ y then y else -y) = y from if_pos (by omega)]
    refine w_istore [some (aR 12 0), some (aI x), some (aI y), some (aI (-1)), some (aI y), none, none] dX12_isDark_14 rfl (by decide) ?_
    refine w_iload_n dX12_isDark_16 rfl ?_
    refine w_iload_n dX12_isDark_17 rfl ?_
    refine w_iadd dX12_isDark_18 ?_
    refine w_istore [some (aR 12 0), some (aI x), some (aI y), some (aI (-1)), some (aI y), some (aI (x + (-1))), none] dX12_isDark_19 rfl (by decide) ?_
    refine w_iconst dX12_isDark_21 ?_
    refine w_istore [some (aR 12 0), some (aI x), some (aI y), some (aI (-1)), some (aI y), some (aI (x + (-1))), some (aI 1)] dX12_isDark_22 rfl (by decide) ?_
    have lp24 : ∀ c : Nat, c ≤ 10 → ∀ (y24 oo : Int), y24 = (c : Int) + 1 → oo = x + -1 * ((c : Int) + 1) → (∀ b : Nat, b < c → ¬ ((0 ≤ x + -1 * ((b : Int) + 1) ∧ x + -1 * ((b : Int) + 1) < gg 4 0 1) ∧ y * ((b : Int) + 1) < H (x + -1 * ((b : Int) + 1)).toNat - H x.toNat)) → fwWP mX12_isDark (d + 2) 24 [some (aR 12 0), some (aI x), some (aI y), some (aI (-1)), some (aI y), some (aI oo), some (aI y24)] [] h Q := by
      refine fw_up (fun c hc24 ih24 => ?_)
      intro y24 oo ey24 e_oo iv24_0
      subst ey24
      subst e_oo
      have hml := mul_rg (s := y) (a := (c : Int) + 1) (by omega) (by omega)
      show fwWP mX12_isDark (d + 2) 24 [some (aR 12 0), some (aI x), some (aI y), some (aI (-1)), some (aI y), some (aI (x + -1 * ((c : Int) + 1))), some (aI ((c : Int) + 1))] [] h Q
      refine w_aload_n dX12_isDark_24 rfl ?_
      refine w_iload dX12_isDark_25 rfl ?_
      refine w_i2l dX12_isDark_27 (by omega) ?_
      refine w_callV (d := d + 1) (S := []) [aJ (x + -1 * ((c : Int) + 1))] dX12_isDark_28 ml_X12_203 ok_X12_isCell vi_X12_isCell rfl rfl (by decide) rfl (Nat.le_of_ble_eq_true rfl) ?_
      refine c_X12_isCell (d := d) (x + -1 * ((c : Int) + 1)) J R (by omega) ?_
      show fwWP mX12_isDark (d + 2) 31 [some (aR 12 0), some (aI x), some (aI y), some (aI (-1)), some (aI y), some (aI (x + -1 * ((c : Int) + 1))), some (aI ((c : Int) + 1))] [aI (fwB (0 ≤ (x + -1 * ((c : Int) + 1)) ∧ (x + -1 * ((c : Int) + 1)) ≤ gg 4 0 1 - 1))] h Q
      refine w_ifB_eq 70 dX12_isDark_31 (by decide) (fun c31 => ?_) (fun c31 => ?_)
      · refine w_iconst dX12_isDark_70 ?_
        exact w_zretE (P := mShadeB (gg 4 0 1) H x y = true) dX12_isDark_71 rfl (by rw [fwB_f]; intro q0; obtain ⟨b0, z1, z2, z3⟩ := (shade_p hx (by omega)).mp q0; rcases Nat.lt_or_ge b0 c with e0 | e0; exact iv24_0 b0 e0 ⟨z2, z3⟩; omega) k
      · have hbo := hb (x + -1 * ((c : Int) + 1)).toNat (by omega)
        have hbx := hb x.toNat (by omega)
        refine w_aload_n dX12_isDark_34 rfl ?_
        refine w_getr 42 0 dX12_isDark_35 fl_X12_34 rfl (by decide) ?_
        refine w_iload dX12_isDark_38 rfl ?_
        refine w_ialdE (v := H (x + -1 * ((c : Int) + 1)).toNat) dX12_isDark_40 rfl (by decide) (by omega) (by omega) (hH _ (by omega)) ?_
        refine w_aload_n dX12_isDark_41 rfl ?_
        refine w_getr 42 0 dX12_isDark_42 fl_X12_34 rfl (by decide) ?_
        refine w_iload_n dX12_isDark_45 rfl ?_
        refine w_ialdE (v := H (x).toNat) dX12_isDark_46 rfl (by decide) (by omega) (by omega) (hH _ (by omega)) ?_
        refine w_isub dX12_isDark_47 ?_
        refine w_iload dX12_isDark_48 rfl ?_
        refine w_iload dX12_isDark_50 rfl ?_
        refine w_imul dX12_isDark_52 ?_
        refine w_icmp_le 58 dX12_isDark_53 (by decide) (by omega) (by omega) (fun c53 => ?_) (fun c53 => ?_)
        · refine w_iload dX12_isDark_58 rfl ?_
          refine w_iload_n dX12_isDark_60 rfl ?_
          refine w_iadd dX12_isDark_61 ?_
          refine w_istore [some (aR 12 0), some (aI x), some (aI y), some (aI (-1)), some (aI y), some (aI ((x + -1 * ((c : Int) + 1)) + (-1))), some (aI ((c : Int) + 1))] dX12_isDark_62 rfl (by decide) ?_
          refine w_iinc [some (aR 12 0), some (aI x), some (aI y), some (aI (-1)), some (aI y), some (aI ((x + -1 * ((c : Int) + 1)) + (-1))), some (aI (((c : Int) + 1) + 1))] dX12_isDark_64 rfl rfl (by decide) ?_
          refine w_goto 24 dX12_isDark_67 (by decide) ?_
          refine ih24 (by omega) _ _ ?_ ?_ ?_
          · exact (by omega)
          · exact (by omega)
          · exact (fun b hb0 => by rcases Nat.lt_or_ge b c with e0 | e0; exact iv24_0 b e0; rw [show b = c by omega]; exact fun q0 => by have := q0.2; omega)
        · refine w_iconst dX12_isDark_56 ?_
          exact w_zretE (P := mShadeB (gg 4 0 1) H x y = true) dX12_isDark_57 rfl (by rw [fwB_t ((shade_p hx (by omega)).mpr ⟨c, by omega, by omega, by omega⟩)]) k
    refine lp24 0 (Nat.zero_le _) _ _ ?_ ?_ ?_
    · exact (by omega)
    · exact (by omega)
    · exact (fun b hb0 => by omega)
def mLt (n : Int) (H : Nat → Int) (x : Int) : Nat → Int
  | 0 => 0
  | c + 1 => if (c : Int) - 9 ≠ 0 ∧ ¬ mShadeB n H x ((c : Int) - 9) = true then mLt n H x c + 1 else mLt n H x c
theorem mLt_eq {n : Int} {H : Nat → Int} {x : Int} (hn : n ≤ 10) (hb : hB H) : mLt n H x 19 = 18 - mSh n H x (-1) - mSh n H x 1 := by
  have r1 := mSh_rng (x := x) (st := 1) hn hb
  have r2 := mSh_rng (x := x) (st := -1) hn hb
  have k1 : ∀ c : Nat, c ≤ 9 → mLt n H x c = min (c : Int) (9 - mSh n H x 1) := by
    intro c
    induction c with
    | zero => intro _; rw [mLt]; omega
    | succ c ih =>
      intro hc
      have e := ih (by omega)
      rw [mLt]
      unfold mShadeB
      simp only [if_neg (show ¬ 0 < (c : Int) - 9 by omega), decide_eq_true_eq]
      split <;> omega
  have k2 : mLt n H x 10 = 9 - mSh n H x 1 := by
    have e := k1 9 (by omega)
    rw [mLt.eq_2, if_neg (by omega), e]
    omega
  have k3 : ∀ k : Nat, k ≤ 9 → mLt n H x (10 + k) = (9 - mSh n H x 1) + max 0 ((k : Int) - mSh n H x (-1)) := by
    intro k
    induction k with
    | zero => intro _; rw [Nat.add_zero, k2]; omega
    | succ k ih =>
      intro hk
      have e := ih (by omega)
      rw [← Nat.add_assoc, mLt]
      unfold mShadeB
      simp only [if_pos (show 0 < ((10 + k : Nat) : Int) - 9 by omega), decide_eq_true_eq]
      split <;> omega
  have := k3 9 (by omega)
  rw [this]
  omega
theorem mLt_rng (n : Int) (H : Nat → Int) (x : Int) : ∀ c : Nat, 0 ≤ mLt n H x c ∧ mLt n H x c ≤ c := by
  intro c
  induction c with
  | zero => simp [mLt]
  | succ c ih => rw [mLt]; split <;> omega
set_option maxRecDepth 100000 in
set_option maxHeartbeats 4000000 in
theorem c_X12_lightOf {d : Nat} {h gg : fwH} {Q : Option fwV → fwH → Prop} (x : Int) (H : Nat → Int) (J : cOk gg) (R : jF gg h) (hH : hiR (gg 4 0 1) (h 42 0) H) (hb : hB H) (hx : 0 ≤ x ∧ x < gg 4 0 1) (k : Q (some (aI (18 - mSh (gg 4 0 1) H x (-1) - mSh (gg 4 0 1) H x 1))) h) : fwCt mX12_lightOf (d + 3) [aR 12 0, aI x] h Q := by
  refine fwCt_of [some (aR 12 0), some (aI x), none, none] rfl rfl rfl ?_
  have g2 : gg 4 0 1 ≤ 10 := J.2.2.1.1.2
  refine w_iconst dX12_lightOf_0 ?_
  refine w_istore_n [some (aR 12 0), some (aI x), some (aI 0), none] dX12_lightOf_1 rfl (by decide) ?_
  refine w_bipush dX12_lightOf_2 rfl ?_
  refine w_istore_n [some (aR 12 0), some (aI x), some (aI 0), some (aI (-9))] dX12_lightOf_4 rfl (by decide) ?_
  have lp5 : ∀ c : Nat, c ≤ 19 → ∀ (y5 nv : Int), y5 = (c : Int) - 9 → nv = mLt (gg 4 0 1) H x c → fwWP mX12_lightOf (d + 3) 5 [some (aR 12 0), some (aI x), some (aI nv), some (aI y5)] [] h Q := by
    refine fw_up (fun c hc5 ih5 => ?_)
    intro y5 nv ey5 e_nv
    subst ey5
    subst e_nv
    show fwWP mX12_lightOf (d + 3) 5 [some (aR 12 0), some (aI x), some (aI (mLt (gg 4 0 1) H x c)), some (aI ((c : Int) - 9))] [] h Q
    refine w_iload_n dX12_lightOf_5 rfl ?_
    refine w_bipush dX12_lightOf_6 rfl ?_
    refine w_icmp_gt 38 dX12_lightOf_8 (by decide) (by omega) (by omega) (fun c8 => ?_) (fun c8 => ?_)
    · have ec5 : 19 = c := by omega
      subst ec5
      refine w_iload_n dX12_lightOf_38 rfl ?_
      exact w_iretE dX12_lightOf_39 rfl (mLt_eq g2 hb) k
    · refine w_iload_n dX12_lightOf_11 rfl ?_
      refine w_iload_n dX12_lightOf_12 rfl ?_
      refine w_if_eq 29 dX12_lightOf_13 (by decide) (by omega) (fun c13 => ?_) (fun c13 => ?_)
      · refine w_iconst dX12_lightOf_29 ?_
        refine w_iadd dX12_lightOf_30 ?_
        refine w_istore_n [some (aR 12 0), some (aI x), some (aI ((mLt (gg 4 0 1) H x c) + 0)), some (aI ((c : Int) - 9))] dX12_lightOf_31 rfl (by decide) ?_
        refine w_iinc [some (aR 12 0), some (aI x), some (aI ((mLt (gg 4 0 1) H x c) + 0)), some (aI (((c : Int) - 9) + 1))] dX12_lightOf_32 rfl rfl (by decide) ?_
        refine w_goto 5 dX12_lightOf_35 (by decide) ?_
        refine ih5 (by omega) _ _ ?_ ?_
        · exact (by omega)
        · exact (by rw [mLt, if_neg (by omega)]; omega)
      · refine w_aload_n dX12_lightOf_16 rfl ?_
        refine w_iload_n dX12_lightOf_17 rfl ?_
        refine w_iload_n dX12_lightOf_18 rfl ?_
        refine w_callV (d := d + 2) (S := [aI (mLt (gg 4 0 1) H x c)]) [aI x, aI ((c : Int) - 9)] dX12_lightOf_19 ml_X12_217 ok_X12_isDark vi_X12_isDark rfl rfl (by decide) rfl (Nat.le_of_ble_eq_true rfl) ?_
        refine c_X12_isDark (d := d) x ((c : Int) - 9) H J R hH hb (show 0 ≤ x ∧ x < gg 4 0 1 by omega) (by omega) ?_
        show fwWP mX12_lightOf (d + 3) 22 [some (aR 12 0), some (aI x), some (aI (mLt (gg 4 0 1) H x c)), some (aI ((c : Int) - 9))] [aI (fwB (mShadeB (gg 4 0 1) H x ((c : Int) - 9) = true)), aI (mLt (gg 4 0 1) H x c)] h Q
        refine w_ifB_ne 29 dX12_lightOf_22 (by decide) (fun c22 => ?_) (fun c22 => ?_)
        · refine w_iconst dX12_lightOf_29 ?_
          refine w_iadd dX12_lightOf_30 ?_
          refine w_istore_n [some (aR 12 0), some (aI x), some (aI ((mLt (gg 4 0 1) H x c) + 0)), some (aI ((c : Int) - 9))] dX12_lightOf_31 rfl (by decide) ?_
          refine w_iinc [some (aR 12 0), some (aI x), some (aI ((mLt (gg 4 0 1) H x c) + 0)), some (aI (((c : Int) - 9) + 1))] dX12_lightOf_32 rfl rfl (by decide) ?_
          refine w_goto 5 dX12_lightOf_35 (by decide) ?_
          refine ih5 (by omega) _ _ ?_ ?_
          · exact (by omega)
          · exact (by rw [mLt, if_neg (fun q0 => q0.2 c22)]; omega)
        · refine w_iconst dX12_lightOf_25 ?_
          refine w_goto 30 dX12_lightOf_26 (by decide) ?_
          refine w_iadd dX12_lightOf_30 ?_
          refine w_istore_n [some (aR 12 0), some (aI x), some (aI ((mLt (gg 4 0 1) H x c) + 1)), some (aI ((c : Int) - 9))] dX12_lightOf_31 rfl (by decide) ?_
          refine w_iinc [some (aR 12 0), some (aI x), some (aI ((mLt (gg 4 0 1) H x c) + 1)), some (aI (((c : Int) - 9) + 1))] dX12_lightOf_32 rfl rfl (by decide) ?_
          refine w_goto 5 dX12_lightOf_35 (by decide) ?_
          refine ih5 (by omega) _ _ ?_ ?_
          · exact (by omega)
          · exact (by rw [mLt, if_pos ⟨by omega, c22⟩])
  refine lp5 0 (Nat.zero_le _) _ _ ?_ ?_
  · exact (by omega)
  · exact rfl
theorem fwOr_0 {x : Int} (hx : -2147483648 ≤ x ∧ x < 2147483648) : fwOr x 0 = x := by
  unfold fwOr
  rw [show Int32.ofInt 0 = 0 from rfl, Int32.or_zero]
  exact fwI_rt hx
theorem mBits_n {p : Nat → Bool} : ∀ n : Nat, n ≤ 20 → ∃ a : Nat, mBits p n = (a : Int) ∧ a < 2 ^ n := by
  intro n
  induction n with
  | zero => intro _; exact ⟨0, rfl, by decide⟩
  | succ n ih =>
    intro hn
    obtain ⟨a, e, ha⟩ := ih (by omega)
    have h1 : 2 ^ n < 2 ^ (n + 1) := Nat.pow_lt_pow_right (by omega) (by omega)
    have h2 : 2 ^ (n + 1) ≤ 2 ^ 21 := Nat.pow_le_pow_right (by omega) (by omega)
    rw [mBits]
    split
    · rw [e, fwShl1_nat (by omega), fwOr_nat (by omega) (by omega)]
      exact ⟨_, rfl, Nat.or_lt_two_pow (by omega) h1⟩
    · exact ⟨a, e, by omega⟩
theorem mBits_10 {p : Nat → Bool} {n : Nat} (hn : n ≤ 10) : 0 ≤ mBits p n ∧ mBits p n < 1024 := by
  obtain ⟨a, e, ha⟩ := mBits_n (p := p) n (by omega)
  have : 2 ^ n ≤ 2 ^ 10 := Nat.pow_le_pow_right (by omega) hn
  rw [e]
  omega
set_option maxRecDepth 100000 in
set_option maxHeartbeats 4000000 in
theorem c_X12_snowSet {d : Nat} {h gg : fwH} {Q : Option fwV → fwH → Prop} (H : Nat → Int) (J : cOk gg) (R : jF gg h) (hH : hiR (gg 4 0 1) (h 42 0) H) (hb : hB H) (k : Q (some (aI (mBits (fun c => decide (gg 4 0 2 ≤ H c)) (gg 4 0 1).toNat))) h) : fwCt mX12_snowSet (d + 0) [aR 12 0] h Q := by
  refine fwCt_of [some (aR 12 0), none, none] rfl rfl rfl ?_
  obtain ⟨hl, hP, hG, -, -, -, hlw, -, ha, hs, -, hsc⟩ := id J
  obtain ⟨⟨g1, g2⟩, ⟨g3, g4⟩, ⟨g5, g6⟩, g7, -⟩ := id hG
  have hpz := hP.1
  refine w_iconst dX12_snowSet_0 ?_
  refine w_istore_n [some (aR 12 0), some (aI 0), none] dX12_snowSet_1 rfl (by decide) ?_
  refine w_iconst dX12_snowSet_2 ?_
  refine w_istore_n [some (aR 12 0), some (aI 0), some (aI 0)] dX12_snowSet_3 rfl (by decide) ?_
  have lp4 : ∀ c : Nat, c ≤ (gg 4 0 1).toNat → ∀ (y4 se : Int), y4 = (c : Int) → se = mBits (fun c => decide (gg 4 0 2 ≤ H c)) c → fwWP mX12_snowSet (d + 0) 4 [some (aR 12 0), some (aI se), some (aI y4)] [] h Q := by
    refine fw_up (fun c hc4 ih4 => ?_)
    intro y4 se ey4 e_se
    subst ey4
    subst e_se
    show fwWP mX12_snowSet (d + 0) 4 [some (aR 12 0), some (aI (mBits (fun c => decide (gg 4 0 2 ≤ H c)) c)), some (aI (c : Int))] [] h Q
    refine w_iload_n dX12_snowSet_4 rfl ?_
    refine w_aload_n dX12_snowSet_5 rfl ?_
    refine w_getr 36 0 dX12_snowSet_6 fl_X12_9 rfl (by decide) ?_
    refine w_iconst dX12_snowSet_9 ?_
    refine w_ialdE (v := gg 4 0 1) dX12_snowSet_10 rfl (by decide) (by omega) (by omega) R.1 ?_
    refine w_icmp_ge 45 dX12_snowSet_11 (by decide) (by omega) (by omega) (fun c11 => ?_) (fun c11 => ?_)
    · have ec4 : (gg 4 0 1).toNat = c := by omega
      subst ec4
      refine w_iload_n dX12_snowSet_45 rfl ?_
      exact w_iretE dX12_snowSet_46 rfl (by rfl) k
    · have hb1 := hb c (by omega)
      refine w_iload_n dX12_snowSet_14 rfl ?_
      refine w_aload_n dX12_snowSet_15 rfl ?_
      refine w_getr 42 0 dX12_snowSet_16 fl_X12_34 rfl (by decide) ?_
      refine w_iload_n dX12_snowSet_19 rfl ?_
      refine w_ialdE (v := H c) dX12_snowSet_20 rfl (by decide) (by omega) (by omega) (hH _ (by omega)) ?_
      refine w_aload_n dX12_snowSet_21 rfl ?_
      refine w_getr 36 0 dX12_snowSet_22 fl_X12_9 rfl (by decide) ?_
      refine w_iconst dX12_snowSet_25 ?_
      refine w_ialdE (v := gg 4 0 2) dX12_snowSet_26 rfl (by decide) (by omega) (by omega) R.2.1 ?_
      refine w_icmp_lt 36 dX12_snowSet_27 (by decide) (by omega) (by omega) (fun c27 => ?_) (fun c27 => ?_)
      · refine w_iconst dX12_snowSet_36 ?_
        refine w_ior dX12_snowSet_37 ?_
        refine w_istore_n [some (aR 12 0), some (aI (fwOr (mBits (fun c => decide (gg 4 0 2 ≤ H c)) c) 0)), some (aI (c : Int))] dX12_snowSet_38 rfl (by decide) ?_
        refine w_iinc [some (aR 12 0), some (aI (fwOr (mBits (fun c => decide (gg 4 0 2 ≤ H c)) c) 0)), some (aI ((c : Int) + 1))] dX12_snowSet_39 rfl rfl (by decide) ?_
        refine w_goto 4 dX12_snowSet_42 (by decide) ?_
        refine ih4 (by omega) _ _ ?_ ?_
        · exact (by omega)
        · exact (by rw [mBits]; first | (rw [if_pos (decide_eq_true (by omega))]; done) | (rw [if_neg (by simp only [decide_eq_true_eq]; omega), fwOr_0 (mBits_rng _ _)]; done))
      · refine w_iconst dX12_snowSet_30 ?_
        refine w_iload_n dX12_snowSet_31 rfl ?_
        refine w_ishl dX12_snowSet_32 ?_
        refine w_goto 37 dX12_snowSet_33 (by decide) ?_
        refine w_ior dX12_snowSet_37 ?_
        refine w_istore_n [some (aR 12 0), some (aI (fwOr (mBits (fun c => decide (gg 4 0 2 ≤ H c)) c) (fwShl 1 (c : Int)))), some (aI (c : Int))] dX12_snowSet_38 rfl (by decide) ?_
        refine w_iinc [some (aR 12 0), some (aI (fwOr (mBits (fun c => decide (gg 4 0 2 ≤ H c)) c) (fwShl 1 (c : Int)))), some (aI ((c : Int) + 1))] dX12_snowSet_39 rfl rfl (by decide) ?_
        refine w_goto 4 dX12_snowSet_42 (by decide) ?_
        refine ih4 (by omega) _ _ ?_ ?_
        · exact (by omega)
        · exact (by rw [mBits]; first | (rw [if_pos (decide_eq_true (by omega))]; done) | (rw [if_neg (by simp only [decide_eq_true_eq]; omega), fwOr_0 (mBits_rng _ _)]; done))
  refine lp4 0 (Nat.zero_le _) _ _ ?_ ?_
  · exact (by omega)
  · exact rfl
set_option maxRecDepth 100000 in
set_option maxHeartbeats 4000000 in
theorem c_X12_gainOf {d : Nat} {h gg : fwH} {Q : Option fwV → fwH → Prop} (f : Nat) (H : Nat → Int) (J : cOk gg) (R : jF gg h) (hH : hiR (gg 4 0 1) (h 42 0) H) (hb : hB H) (hn : 1 ≤ gg 4 0 1) (hf : (f : Int) < gg 5 0 3) (k : Q (some (aI (mGain (gg 4 0 1) H (gg 4 0 2) (gg 18 0) f))) h) : fwCt mX12_gainOf (d + 4) [aR 12 0, aI (f : Int)] h Q := by
  refine fwCt_of [some (aR 12 0), some (aI (f : Int))] rfl rfl rfl ?_
  obtain ⟨hl, hP, hG, -, -, -, hlw, -, ha, hs, -, hsc⟩ := id J
  obtain ⟨⟨g1, g2⟩, ⟨g3, g4⟩, ⟨g5, g6⟩, g7, -⟩ := id hG
  have hpz := hP.1
  refine w_aload_n dX12_gainOf_0 rfl ?_
  refine w_iload_n dX12_gainOf_1 rfl ?_
  refine w_iconst dX12_gainOf_2 ?_
  refine w_callV (d := d + 3) (S := []) [aI (f : Int), aI 2] dX12_gainOf_3 ml_X12_220 ok_X12_of vi_X12_of rfl rfl (by decide) rfl (Nat.le_of_ble_eq_true rfl) ?_
  refine c_ofE (d := (d + 3)) f 2 (f : Int) J R (by omega) (by omega) (by omega) ?_
  show fwWP mX12_gainOf (d + 4) 6 [some (aR 12 0), some (aI (f : Int))] [aI (gg 18 0 (7 * f + 2))] h Q
  have hof1 := hP.2 f (by omega)
  have hcl := R.2.2.2.2.2.2.2.2.2.2.1 f (by omega)
  refine w_aload_n dX12_gainOf_6 rfl ?_
  refine w_aload_n dX12_gainOf_7 rfl ?_
  refine w_iload_n dX12_gainOf_8 rfl ?_
  refine w_iconst dX12_gainOf_9 ?_
  refine w_callV (d := d + 3) (S := [aR 12 0, aI (gg 18 0 (7 * f + 2))]) [aI (f : Int), aI 0] dX12_gainOf_10 ml_X12_220 ok_X12_of vi_X12_of rfl rfl (by decide) rfl (Nat.le_of_ble_eq_true rfl) ?_
  refine c_ofE (d := (d + 3)) f 0 (f : Int) J R (by omega) (by omega) (by omega) ?_
  show fwWP mX12_gainOf (d + 4) 13 [some (aR 12 0), some (aI (f : Int))] [aI (gg 18 0 (7 * f + 0)), aR 12 0, aI (gg 18 0 (7 * f + 2))] h Q
  have hof2 := hP.2 f (by omega)
  refine w_callV (d := d + 3) (S := [aI (gg 18 0 (7 * f + 2))]) [aI (gg 18 0 (7 * f + 0))] dX12_gainOf_13 ml_X12_223 ok_X12_lightOf vi_X12_lightOf rfl rfl (by decide) rfl (Nat.le_of_ble_eq_true rfl) ?_
  refine c_X12_lightOf (d := d) (gg 18 0 (7 * f + 0)) H J R hH hb ⟨(hP.2 f (by omega)).1.1, hcl⟩ ?_
  show fwWP mX12_gainOf (d + 4) 16 [some (aR 12 0), some (aI (f : Int))] [aI (18 - mSh (gg 4 0 1) H (gg 18 0 (7 * f + 0)) (-1) - mSh (gg 4 0 1) H (gg 18 0 (7 * f + 0)) 1), aI (gg 18 0 (7 * f + 2))] h Q
  refine w_imul dX12_gainOf_16 ?_
  refine w_aload_n dX12_gainOf_17 rfl ?_
  refine w_iload_n dX12_gainOf_18 rfl ?_
  refine w_iconst dX12_gainOf_19 ?_
  refine w_callV (d := d + 3) (S := [aI ((gg 18 0 (7 * f + 2)) * (18 - mSh (gg 4 0 1) H (gg 18 0 (7 * f + 0)) (-1) - mSh (gg 4 0 1) H (gg 18 0 (7 * f + 0)) 1))]) [aI (f : Int), aI 3] dX12_gainOf_20 ml_X12_220 ok_X12_of vi_X12_of rfl rfl (by decide) rfl (Nat.le_of_ble_eq_true rfl) ?_
  refine c_ofE (d := (d + 3)) f 3 (f : Int) J R (by omega) (by omega) (by omega) ?_
  show fwWP mX12_gainOf (d + 4) 23 [some (aR 12 0), some (aI (f : Int))] [aI (gg 18 0 (7 * f + 3)), aI ((gg 18 0 (7 * f + 2)) * (18 - mSh (gg 4 0 1) H (gg 18 0 (7 * f + 0)) (-1) - mSh (gg 4 0 1) H (gg 18 0 (7 * f + 0)) 1))] h Q
  have hof3 := hP.2 f (by omega)
  refine w_aload_n dX12_gainOf_23 rfl ?_
  refine w_callV (d := d + 3) (S := [aI (gg 18 0 (7 * f + 3)), aI ((gg 18 0 (7 * f + 2)) * (18 - mSh (gg 4 0 1) H (gg 18 0 (7 * f + 0)) (-1) - mSh (gg 4 0 1) H (gg 18 0 (7 * f + 0)) 1))]) [] dX12_gainOf_24 ml_X12_226 ok_X12_snowSet vi_X12_snowSet rfl rfl (by decide) rfl (Nat.le_of_ble_eq_true rfl) ?_
  refine c_X12_snowSet (d := (d + 3)) H J R hH hb ?_
  show fwWP mX12_gainOf (d + 4) 27 [some (aR 12 0), some (aI (f : Int))] [aI (mBits (fun c => decide (gg 4 0 2 ≤ H c)) (gg 4 0 1).toNat), aI (gg 18 0 (7 * f + 3)), aI ((gg 18 0 (7 * f + 2)) * (18 - mSh (gg 4 0 1) H (gg 18 0 (7 * f + 0)) (-1) - mSh (gg 4 0 1) H (gg 18 0 (7 * f + 0)) 1))] h Q
  have hmb4 := mBits_10 (p := (fun c => decide (gg 4 0 2 ≤ H c))) (n := (gg 4 0 1).toNat) (by omega)
  refine w_callS (d := d + 3) (S := [aI (gg 18 0 (7 * f + 3)), aI ((gg 18 0 (7 * f + 2)) * (18 - mSh (gg 4 0 1) H (gg 18 0 (7 * f + 0)) (-1) - mSh (gg 4 0 1) H (gg 18 0 (7 * f + 0)) 1))]) [aI (mBits (fun c => decide (gg 4 0 2 ≤ H c)) (gg 4 0 1).toNat)] dX12_gainOf_27 ml_X12_229 ok_X12_bits st_X12_bits rfl (Nat.le_of_ble_eq_true rfl) ?_
  refine c_bitsP (d := (d + 3)) (mBits (fun c => decide (gg 4 0 2 ≤ H c)) (gg 4 0 1).toNat) (by first | assumption | omega | decide) ?_
  show fwWP mX12_gainOf (d + 4) 30 [some (aR 12 0), some (aI (f : Int))] [aI (fwPop (mBits (fun c => decide (gg 4 0 2 ≤ H c)) (gg 4 0 1).toNat)), aI (gg 18 0 (7 * f + 3)), aI ((gg 18 0 (7 * f + 2)) * (18 - mSh (gg 4 0 1) H (gg 18 0 (7 * f + 0)) (-1) - mSh (gg 4 0 1) H (gg 18 0 (7 * f + 0)) 1))] h Q
  have hpp5 := fwPop_rng (mBits (fun c => decide (gg 4 0 2 ≤ H c)) (gg 4 0 1).toNat)
  refine w_imul dX12_gainOf_30 ?_
  refine w_iadd dX12_gainOf_31 ?_
  refine w_aload_n dX12_gainOf_32 rfl ?_
  refine w_iload_n dX12_gainOf_33 rfl ?_
  refine w_iconst dX12_gainOf_34 ?_
  refine w_callV (d := d + 3) (S := [aI (((gg 18 0 (7 * f + 2)) * (18 - mSh (gg 4 0 1) H (gg 18 0 (7 * f + 0)) (-1) - mSh (gg 4 0 1) H (gg 18 0 (7 * f + 0)) 1)) + ((gg 18 0 (7 * f + 3)) * (fwPop (mBits (fun c => decide (gg 4 0 2 ≤ H c)) (gg 4 0 1).toNat))))]) [aI (f : Int), aI 4] dX12_gainOf_35 ml_X12_220 ok_X12_of vi_X12_of rfl rfl (by decide) rfl (Nat.le_of_ble_eq_true rfl) ?_
  refine c_ofE (d := (d + 3)) f 4 (f : Int) J R (by omega) (by omega) (by omega) ?_
  show fwWP mX12_gainOf (d + 4) 38 [some (aR 12 0), some (aI (f : Int))] [aI (gg 18 0 (7 * f + 4)), aI (((gg 18 0 (7 * f + 2)) * (18 - mSh (gg 4 0 1) H (gg 18 0 (7 * f + 0)) (-1) - mSh (gg 4 0 1) H (gg 18 0 (7 * f + 0)) 1)) + ((gg 18 0 (7 * f + 3)) * (fwPop (mBits (fun c => decide (gg 4 0 2 ≤ H c)) (gg 4 0 1).toNat))))] h Q
  have hof6 := hP.2 f (by omega)
  refine w_aload_n dX12_gainOf_38 rfl ?_
  refine w_getr 42 0 dX12_gainOf_39 fl_X12_34 rfl (by decide) ?_
  refine w_aload_n dX12_gainOf_42 rfl ?_
  refine w_callV (d := d + 3) (S := [aR 42 0, aI (gg 18 0 (7 * f + 4)), aI (((gg 18 0 (7 * f + 2)) * (18 - mSh (gg 4 0 1) H (gg 18 0 (7 * f + 0)) (-1) - mSh (gg 4 0 1) H (gg 18 0 (7 * f + 0)) 1)) + ((gg 18 0 (7 * f + 3)) * (fwPop (mBits (fun c => decide (gg 4 0 2 ≤ H c)) (gg 4 0 1).toNat))))]) [] dX12_gainOf_43 ml_X12_200 ok_X12_topCell vi_X12_topCell rfl rfl (by decide) rfl (Nat.le_of_ble_eq_true rfl) ?_
  refine c_X12_topCell (d := (d + 3)) H J R hH hb (show 1 ≤ gg 4 0 1 by omega) ?_
  show fwWP mX12_gainOf (d + 4) 46 [some (aR 12 0), some (aI (f : Int))] [aI (mTop H (gg 4 0 4) (gg 4 0 1).toNat), aR 42 0, aI (gg 18 0 (7 * f + 4)), aI (((gg 18 0 (7 * f + 2)) * (18 - mSh (gg 4 0 1) H (gg 18 0 (7 * f + 0)) (-1) - mSh (gg 4 0 1) H (gg 18 0 (7 * f + 0)) 1)) + ((gg 18 0 (7 * f + 3)) * (fwPop (mBits (fun c => decide (gg 4 0 2 ≤ H c)) (gg 4 0 1).toNat))))] h Q
  have htp7 := mTop_r2 H (gg 4 0 4) (gg 4 0 1).toNat (by omega)
  refine w_ialdE (v := H (mTop H (gg 4 0 4) (gg 4 0 1).toNat).toNat) dX12_gainOf_46 rfl (by decide) (by omega) (by omega) (hH _ (by omega)) ?_
  refine w_imul dX12_gainOf_47 ?_
  refine w_iadd dX12_gainOf_48 ?_
  exact w_iretE dX12_gainOf_49 rfl (by unfold mGain; rw [mMax_top (ls := gg 4 0 4) (gg 4 0 1).toNat (by omega) (fun c hc => (hb c (by omega)).1)]; rfl) k
theorem mGain_r2 {h : fwH} (J : cOk h) {H : Nat → Int} (hb : hB H) (f : Nat) (hf : (f : Int) < h 5 0 3) : 0 ≤ mGain (h 4 0 1) H (h 4 0 2) (h 18 0) f ∧ mGain (h 4 0 1) H (h 4 0 2) (h 18 0) f ≤ 27000 := by
  have h1 := J.2.1.2 f (by have := J.2.1.1; omega)
  exact mGain_rng J.2.2.1.1.2 hb h1.2.2.1 h1.2.2.2.1 h1.2.2.2.2.1
theorem mSum_r2 {h : fwH} (J : cOk h) {H : Nat → Int} (hb : hB H) : ∀ n : Nat, (n : Int) ≤ h 5 0 3 → 0 ≤ mSum (mGain (h 4 0 1) H (h 4 0 2) (h 18 0)) n ∧ mSum (mGain (h 4 0 1) H (h 4 0 2) (h 18 0)) n ≤ 27000 * n := by
  intro n
  induction n with
  | zero => intro _; simp [mSum]
  | succ n ih =>
    intro hn
    have h1 := ih (by omega)
    have h2 := mGain_r2 J hb n (by omega)
    rw [mSum]
    omega
set_option maxRecDepth 100000 in
set_option maxHeartbeats 4000000 in
theorem c_X12_gainOfAll {d : Nat} {h gg : fwH} {Q : Option fwV → fwH → Prop} (H : Nat → Int) (J : cOk gg) (R : jF gg h) (hH : hiR (gg 4 0 1) (h 42 0) H) (hb : hB H) (hn : 1 ≤ gg 4 0 1) (k : Q (some (aI (mSum (mGain (gg 4 0 1) H (gg 4 0 2) (gg 18 0)) (gg 5 0 3).toNat))) h) : fwCt mX12_gainOfAll (d + 5) [aR 12 0] h Q := by
  refine fwCt_of [some (aR 12 0), none, none] rfl rfl rfl ?_
  obtain ⟨hl, hP, hG, -, -, -, hlw, -, ha, hs, -, hsc⟩ := id J
  obtain ⟨⟨g1, g2⟩, ⟨g3, g4⟩, ⟨g5, g6⟩, g7, -⟩ := id hG
  have hpz := hP.1
  refine w_iconst dX12_gainOfAll_0 ?_
  refine w_istore_n [some (aR 12 0), some (aI 0), none] dX12_gainOfAll_1 rfl (by decide) ?_
  refine w_iconst dX12_gainOfAll_2 ?_
  refine w_istore_n [some (aR 12 0), some (aI 0), some (aI 0)] dX12_gainOfAll_3 rfl (by decide) ?_
  have lp4 : ∀ c : Nat, c ≤ (gg 5 0 3).toNat → ∀ (y4 su : Int), y4 = (c : Int) → su = mSum (mGain (gg 4 0 1) H (gg 4 0 2) (gg 18 0)) c → fwWP mX12_gainOfAll (d + 5) 4 [some (aR 12 0), some (aI su), some (aI y4)] [] h Q := by
    refine fw_up (fun c hc4 ih4 => ?_)
    intro y4 su ey4 e_su
    subst ey4
    subst e_su
    show fwWP mX12_gainOfAll (d + 5) 4 [some (aR 12 0), some (aI (mSum (mGain (gg 4 0 1) H (gg 4 0 2) (gg 18 0)) c)), some (aI (c : Int))] [] h Q
    refine w_iload_n dX12_gainOfAll_4 rfl ?_
    refine w_aload_n dX12_gainOfAll_5 rfl ?_
    refine w_getr 36 0 dX12_gainOfAll_6 fl_X12_9 rfl (by decide) ?_
    refine w_bipush dX12_gainOfAll_9 rfl ?_
    refine w_ialdE (v := gg 5 0 3) dX12_gainOfAll_11 rfl (by decide) (by omega) (by omega) R.2.2.2.2.2.2.1 ?_
    refine w_icmp_ge 29 dX12_gainOfAll_12 (by decide) (by omega) (by omega) (fun c12 => ?_) (fun c12 => ?_)
    · have ec4 : (gg 5 0 3).toNat = c := by omega
      subst ec4
      refine w_iload_n dX12_gainOfAll_29 rfl ?_
      exact w_iretE dX12_gainOfAll_30 rfl (by rfl) k
    · refine w_iload_n dX12_gainOfAll_15 rfl ?_
      refine w_aload_n dX12_gainOfAll_16 rfl ?_
      refine w_iload_n dX12_gainOfAll_17 rfl ?_
      refine w_callV (d := d + 4) (S := [aI (mSum (mGain (gg 4 0 1) H (gg 4 0 2) (gg 18 0)) c)]) [aI (c : Int)] dX12_gainOfAll_18 ml_X12_232 ok_X12_gainOf vi_X12_gainOf rfl rfl (by decide) rfl (Nat.le_of_ble_eq_true rfl) ?_
      refine c_X12_gainOf (d := d) c H J R hH hb (show 1 ≤ gg 4 0 1 by omega) (show (c : Int) < gg 5 0 3 by omega) ?_
      show fwWP mX12_gainOfAll (d + 5) 21 [some (aR 12 0), some (aI (mSum (mGain (gg 4 0 1) H (gg 4 0 2) (gg 18 0)) c)), some (aI (c : Int))] [aI (mGain (gg 4 0 1) H (gg 4 0 2) (gg 18 0) c), aI (mSum (mGain (gg 4 0 1) H (gg 4 0 2) (gg 18 0)) c)] h Q
      have hgr2 := mGain_r2 J hb c (by omega)
      refine w_iadd dX12_gainOfAll_21 ?_
      refine w_istore_n [some (aR 12 0), some (aI ((mSum (mGain (gg 4 0 1) H (gg 4 0 2) (gg 18 0)) c) + (mGain (gg 4 0 1) H (gg 4 0 2) (gg 18 0) c))), some (aI (c : Int))] dX12_gainOfAll_22 rfl (by decide) ?_
      refine w_iinc [some (aR 12 0), some (aI ((mSum (mGain (gg 4 0 1) H (gg 4 0 2) (gg 18 0)) c) + (mGain (gg 4 0 1) H (gg 4 0 2) (gg 18 0) c))), some (aI ((c : Int) + 1))] dX12_gainOfAll_23 rfl rfl (by decide) ?_
      refine w_goto 4 dX12_gainOfAll_26 (by decide) ?_
      refine ih4 (by omega) _ _ ?_ ?_
      · exact (by omega)
      · exact (by rw [mSum])
  refine lp4 0 (Nat.zero_le _) _ _ ?_ ?_
  · exact (by omega)
  · exact rfl
end
section
/-! the world's acts, done again -/
def stp (n ls rs : Int) (H : Nat → Int) (a : Int) : Nat → Int := if a = 0 then mLow n.toNat H ls else mRs H (mStay n H rs (a - 1))
def rep (W : Nat → Int) : Nat → (Nat → Int)
  | 0 => fun c => W (9 + c)
  | i + 1 => stp (W 0) (W 4) (W 2) (rep W i) (W (75 + i))
def jA (gg h : fwH) : Prop := (∀ i : Nat, (i : Int) ≤ gg 3 0 3 → ∀ c : Nat, c < 10 → 0 ≤ rep (h 36 0) i c ∧ rep (h 36 0) i c ≤ 99) ∧ (∀ i : Nat, (i : Int) < gg 3 0 3 → 0 ≤ h 36 0 (75 + i) ∧ h 36 0 (75 + i) ≤ gg 4 0 1) ∧ hiR (gg 4 0 1) (rep (h 36 0) (gg 3 0 3).toNat) (gg 17 0)
theorem hiR.tr {n : Int} {A B C : Nat → Int} (a : hiR n A B) (b : hiR n B C) : hiR n A C := fun c hc => (a c hc).trans (b c hc)
theorem jA_hb {h gg : fwH} (K : jA gg h) (i : Nat) (hi : (i : Int) ≤ gg 3 0 3) : hB (rep (h 36 0) i) := fun c hc => by have := K.1 i hi c hc; omega
theorem rep_t {h gg : fwH} (R : jF gg h) (i : Nat) (h0 : h 36 0 (75 + i) = 0) : rep (h 36 0) (i + 1) = mLow (gg 4 0 1).toNat (rep (h 36 0) i) (gg 4 0 4) := by
  rw [rep, R.1, R.2.2.2.2.1, R.2.2.1]
  unfold stp
  rw [if_pos h0]
theorem rep_h {h gg : fwH} (R : jF gg h) (i : Nat) (h0 : h 36 0 (75 + i) ≠ 0) : rep (h 36 0) (i + 1) = mRs (rep (h 36 0) i) (mStay (gg 4 0 1) (rep (h 36 0) i) (gg 4 0 3) (h 36 0 (75 + i) - 1)) := by
  rw [rep, R.1, R.2.2.2.2.1, R.2.2.1]
  unfold stp
  rw [if_neg h0]
set_option maxRecDepth 100000 in
set_option maxHeartbeats 4000000 in
theorem c_X12_asItIs {d : Nat} {h gg : fwH} {Q : Option fwV → fwH → Prop}  (J : cOk gg) (R : jF gg h) (K : jA gg h) (hn : 1 ≤ gg 4 0 1) (hrs : 1 ≤ gg 4 0 3) (k : ∀ A, hiR (gg 4 0 1) A (gg 17 0) → Q none (fwUc h 42 0 A)) : fwCt mX12_asItIs (d + 5) [aR 12 0] h Q := by
  refine fwCt_of [some (aR 12 0), none] rfl rfl rfl ?_
  obtain ⟨hl, hP, hG, -, -, -, hlw, -, ha, hs, -, hsc⟩ := id J
  obtain ⟨⟨g1, g2⟩, ⟨g3, g4⟩, ⟨g5, g6⟩, g7, -⟩ := id hG
  have hpz := hP.1
  refine w_iconst dX12_asItIs_0 ?_
  refine w_istore_n [some (aR 12 0), some (aI 0)] dX12_asItIs_1 rfl (by decide) ?_
  have lp2 : ∀ c : Nat, c ≤ 10 → ∀ (y2  : Int) (hh2 : fwH), y2 = (c : Int) → hh2 = (fwUc h 42 0 (fwFl (fun s => if (s : Int) < gg 4 0 1 then h 36 0 (9 + s) else 0) (h 42 0) c)) → fwWP mX12_asItIs (d + 5) 2 [some (aR 12 0), some (aI y2)] [] hh2 Q := by
    refine fw_up (fun c hc2 ih2 => ?_)
    intro y2  hh2 ey2 eh2
    subst ey2
    subst eh2
    show fwWP mX12_asItIs (d + 5) 2 [some (aR 12 0), some (aI (c : Int))] [] (fwUc h 42 0 (fwFl (fun s => if (s : Int) < gg 4 0 1 then h 36 0 (9 + s) else 0) (h 42 0) c)) Q
    refine w_iload_n dX12_asItIs_2 rfl ?_
    refine w_bipush dX12_asItIs_3 rfl ?_
    refine w_icmp_ge 43 dX12_asItIs_5 (by decide) (by omega) (by omega) (fun c5 => ?_) (fun c5 => ?_)
    · have ec2 : 10 = c := by omega
      subst ec2
      refine w_iconst dX12_asItIs_43 ?_
      refine w_istore_n [some (aR 12 0), some (aI 0)] dX12_asItIs_44 rfl (by decide) ?_
      have lp45 : ∀ c : Nat, c ≤ (gg 3 0 3).toNat → ∀ (y45 : Int) (A45 : Nat → Int), y45 = (c : Int) → hiR (gg 4 0 1) A45 (rep (h 36 0) c) → fwWP mX12_asItIs (d + 5) 45 [some (aR 12 0), some (aI y45)] [] (fwUc h 42 0 A45) Q := by
        refine fw_up (fun c hc45 ih45 => ?_)
        intro y45 A45 ey hA45
        subst ey
        show fwWP mX12_asItIs (d + 5) 45 [some (aR 12 0), some (aI (c : Int))] [] (fwUc h 42 0 A45) Q
        refine w_iload_n dX12_asItIs_45 rfl ?_
        refine w_aload_n dX12_asItIs_46 rfl ?_
        refine w_getr 36 0 dX12_asItIs_47 fl_X12_9 rfl (by decide) ?_
        refine w_bipush dX12_asItIs_50 rfl ?_
        refine w_ialdE (v := gg 3 0 3) dX12_asItIs_52 rfl (by decide) (by omega) (by omega) R.2.2.2.2.2.2.2.2.1 ?_
        refine w_icmp_ge 98 dX12_asItIs_53 (by decide) (by omega) (by omega) (fun c53 => ?_) (fun c53 => ?_)
        · have ec9 : c = (gg 3 0 3).toNat := by omega
          subst ec9
          exact w_vret dX12_asItIs_98 rfl (k _ (hA45.tr K.2.2))
        · have hac := K.2.1 c (by omega)
          have hbc := jA_hb K c (by omega)
          have h99 : ∀ c2 : Nat, (c2 : Int) < gg 4 0 1 → rep (h 36 0) c c2 ≤ 99 := fun c2 hc2 => (K.1 c (by omega) c2 (by omega)).2
          refine w_aload_n dX12_asItIs_56 rfl ?_
          refine w_getr 36 0 dX12_asItIs_57 fl_X12_9 rfl (by decide) ?_
          refine w_bipush dX12_asItIs_60 rfl ?_
          refine w_iload_n dX12_asItIs_62 rfl ?_
          refine w_iadd dX12_asItIs_63 ?_
          refine w_ialdE (v := h 36 0 (75 + c)) dX12_asItIs_64 rfl (by decide) (by omega) (by omega) (by rw [show ((75 + (c : Int)).toNat) = 75 + c by omega]; rfl) ?_
          refine w_if_ne 76 dX12_asItIs_65 (by decide) (by omega) (fun c65 => ?_) (fun c65 => ?_)
          · refine w_aload_n dX12_asItIs_76 rfl ?_
            refine w_aload_n dX12_asItIs_77 rfl ?_
            refine w_getr 36 0 dX12_asItIs_78 fl_X12_9 rfl (by decide) ?_
            refine w_bipush dX12_asItIs_81 rfl ?_
            refine w_iload_n dX12_asItIs_83 rfl ?_
            refine w_iadd dX12_asItIs_84 ?_
            refine w_ialdE (v := h 36 0 (75 + c)) dX12_asItIs_85 rfl (by decide) (by omega) (by omega) (by rw [show ((75 + (c : Int)).toNat) = 75 + c by omega]; rfl) ?_
            refine w_iconst dX12_asItIs_86 ?_
            refine w_isub dX12_asItIs_87 ?_
            refine w_callV (d := d + 4) (S := []) [aI ((h 36 0 (75 + c)) - 1)] dX12_asItIs_88 ml_X12_197 ok_X12_heap0 vi_X12_heap0 rfl rfl (by decide) rfl (Nat.le_of_ble_eq_true rfl) ?_
            refine c_X12_heap0 (d := d) ((h 36 0 (75 + c)) - 1) (rep (h 36 0) c) J R hA45 hbc h99 (show 1 ≤ gg 4 0 3 by omega) (show 0 ≤ ((h 36 0 (75 + c)) - 1) ∧ ((h 36 0 (75 + c)) - 1) < gg 4 0 1 by omega) ?_
            intro A88_4 hA88_4
            show fwWP mX12_asItIs (d + 5) 91 [some (aR 12 0), some (aI (c : Int))] [aI (mStay (gg 4 0 1) (rep (h 36 0) c) (gg 4 0 3) ((h 36 0 (75 + c)) - 1))] (fwUc (fwUc h 42 0 A45) 42 0 A88_4) Q
            rw [show (fwUc (fwUc h 42 0 A45) 42 0 A88_4) = (fwUc h 42 0 A88_4) from by funext a b; simp only [fwUc]; (repeat' split); all_goals first | rfl | (exfalso; omega)]
            refine w_pop dX12_asItIs_91 rfl ?_
            refine w_iinc [some (aR 12 0), some (aI ((c : Int) + 1))] dX12_asItIs_92 rfl rfl (by decide) ?_
            refine w_goto 45 dX12_asItIs_95 (by decide) ?_
            exact ih45 (by omega) _ _ (by omega) (by rw [rep_h R c c65]; exact hA88_4)
          · refine w_aload_n dX12_asItIs_68 rfl ?_
            refine w_callV (d := d + 4) (S := []) [] dX12_asItIs_69 ml_X12_194 ok_X12_take0 vi_X12_take0 rfl rfl (by decide) rfl (Nat.le_of_ble_eq_true rfl) ?_
            refine c_X12_take0 (d := (d + 3)) (rep (h 36 0) c) J R hA45 hbc (show 1 ≤ gg 4 0 1 by omega) ?_
            intro A69_5 hA69_5
            show fwWP mX12_asItIs (d + 5) 72 [some (aR 12 0), some (aI (c : Int))] [aI (fwB (0 < (gg 4 0 1).toNat ∧ (rep (h 36 0) c) (mTop (rep (h 36 0) c) (gg 4 0 4) (gg 4 0 1).toNat).toNat ≠ 0))] (fwUc (fwUc h 42 0 A45) 42 0 A69_5) Q
            rw [show (fwUc (fwUc h 42 0 A45) 42 0 A69_5) = (fwUc h 42 0 A69_5) from by funext a b; simp only [fwUc]; (repeat' split); all_goals first | rfl | (exfalso; omega)]
            refine w_pop dX12_asItIs_72 rfl ?_
            refine w_goto 92 dX12_asItIs_73 (by decide) ?_
            refine w_iinc [some (aR 12 0), some (aI ((c : Int) + 1))] dX12_asItIs_92 rfl rfl (by decide) ?_
            refine w_goto 45 dX12_asItIs_95 (by decide) ?_
            exact ih45 (by omega) _ _ (by omega) (by rw [rep_t R c c65]; exact hA69_5)
      exact lp45 0 (Nat.zero_le _) _ _ rfl (fun c hc => by show (if c < 10 then (if (c : Int) < gg 4 0 1 then h 36 0 (9 + c) else 0) else h 42 0 c) = h 36 0 (9 + c); rw [if_pos (by omega), if_pos hc])
    · refine w_aload_n dX12_asItIs_8 rfl ?_
      refine w_getr 42 0 dX12_asItIs_9 fl_X12_34 rfl (by decide) ?_
      refine w_iload_n dX12_asItIs_12 rfl ?_
      refine w_iload_n dX12_asItIs_13 rfl ?_
      refine w_aload_n dX12_asItIs_14 rfl ?_
      refine w_getr 36 0 dX12_asItIs_15 fl_X12_9 rfl (by decide) ?_
      refine w_iconst dX12_asItIs_18 ?_
      refine w_ialdE (v := gg 4 0 1) dX12_asItIs_19 rfl (by decide) (by omega) (by omega) R.1 ?_
      refine w_icmp_ge 35 dX12_asItIs_20 (by decide) (by omega) (by omega) (fun c20 => ?_) (fun c20 => ?_)
      · refine w_iconst dX12_asItIs_35 ?_
        refine w_iast dX12_asItIs_36 rfl (by decide) (by omega) (by omega) ?_
        refine w_iinc [some (aR 12 0), some (aI ((c : Int) + 1))] dX12_asItIs_37 rfl rfl (by decide) ?_
        refine w_goto 2 dX12_asItIs_40 (by decide) ?_
        refine ih2 (by omega) _ _ ?_ ?_
        · exact (by omega)
        · exact (by rw [fwUp_uc, Int.toNat_natCast, ← fwFl_succ]; first | (rw [if_pos (by omega)]; done) | (rw [if_neg (by omega)]; done))
      · refine w_aload_n dX12_asItIs_23 rfl ?_
        refine w_getr 36 0 dX12_asItIs_24 fl_X12_9 rfl (by decide) ?_
        refine w_bipush dX12_asItIs_27 rfl ?_
        refine w_iload_n dX12_asItIs_29 rfl ?_
        refine w_iadd dX12_asItIs_30 ?_
        refine w_ialdE (v := h 36 0 (9 + c)) dX12_asItIs_31 rfl (by decide) (by omega) (by omega) (by rw [show ((9 + (c : Int)).toNat) = 9 + c by omega]; rfl) ?_
        refine w_goto 36 dX12_asItIs_32 (by decide) ?_
        refine w_iast dX12_asItIs_36 rfl (by decide) (by omega) (by omega) ?_
        refine w_iinc [some (aR 12 0), some (aI ((c : Int) + 1))] dX12_asItIs_37 rfl rfl (by decide) ?_
        refine w_goto 2 dX12_asItIs_40 (by decide) ?_
        refine ih2 (by omega) _ _ ?_ ?_
        · exact (by omega)
        · exact (by rw [fwUp_uc, Int.toNat_natCast, ← fwFl_succ]; first | (rw [if_pos (by omega)]; done) | (rw [if_neg (by omega)]; done))
  refine lp2 0 (Nat.zero_le _) _ _ ?_ ?_
  · exact (by omega)
  · exact (by rw [fwFl_0]; exact (fwUc_self _ 42 0).symm)
set_option maxRecDepth 100000 in
set_option maxHeartbeats 4000000 in
theorem c_X12_folk {d : Nat} {h gg : fwH} {Q : Option fwV → fwH → Prop} (x : Int) (y : Int) (J : cOk gg) (R : jF gg h) (K : jA gg h) (hsh : sc h) (hx : -2147483648 ≤ x ∧ x < 2147483648) (hy : -2147483648 ≤ y ∧ y < 2147483648) (k : ∀ g, scr h g → Q (some (aI (an_folk gg x y))) g) : fwCt mX12_folk (d + 2) [aR 12 0, aI x, aI y] h Q := by
  refine fwCt_of [some (aR 12 0), some (aI x), some (aI y)] rfl rfl rfl ?_
  obtain ⟨hl, hP, hG, hM0, htd, hut, hlw, hhc, ha, hs, hT, hsc⟩ := id J
  have hb17 : hB (gg 17 0) := fun c hc => by have := hM0 c hc; omega
  obtain ⟨⟨g1, g2⟩, ⟨g3, g4⟩, ⟨g5, g6⟩, g7, -⟩ := id hG
  have h17_99 : ∀ c : Nat, (c : Int) < gg 4 0 1 → gg 17 0 c ≤ 99 := fun c hc => (hM0 c (by omega)).2
  have hpz := hP.1
  have hrs1 := R.2.2.2.2.2.2.2.2.2.2.2
  refine w_aload_n dX12_folk_0 rfl ?_
  refine w_iload_n dX12_folk_1 rfl ?_
  refine w_i2l dX12_folk_2 (by omega) ?_
  refine w_callV (d := d + 1) (S := []) [aJ x] dX12_folk_3 ml_X12_235 ok_X12_isFolk vi_X12_isFolk rfl rfl (by decide) rfl (Nat.le_of_ble_eq_true rfl) ?_
  refine c_X12_isFolk (d := d) x J R (by omega) ?_
  show fwWP mX12_folk (d + 2) 6 [some (aR 12 0), some (aI x), some (aI y)] [aI (fwB (0 ≤ x ∧ x ≤ gg 5 0 3 - 1))] h Q
  refine w_ifB_eq 30 dX12_folk_6 (by decide) (fun c6 => ?_) (fun c6 => ?_)
  · refine w_bipush dX12_folk_30 rfl ?_
    exact w_iretE dX12_folk_32 rfl (by unfold an_folk; first | (rw [if_pos (by omega)]; done) | (rw [if_neg (by omega)]; done) | (rw [if_pos (by omega)]; rfl) | (rw [if_neg (by omega)]; rfl)) (k _ (scr_rf hsh))
  · refine w_iload_n dX12_folk_9 rfl ?_
    refine w_i2l dX12_folk_10 (by omega) ?_
    refine w_lconst (z := 0) dX12_folk_11 rfl ?_
    refine w_ldc2 (n := 6) dX12_folk_12 cs_X12_238 ?_
    refine w_callS (d := d + 1) (S := []) [aJ y, aJ 0, aJ 6] dX12_folk_15 ml_X12_65 ok_X12_in st_X12_in rfl (Nat.le_of_ble_eq_true rfl) ?_
    refine c_X12_in (d := (d + 1)) y 0 6 (by omega) (by omega) (by omega) ?_
    show fwWP mX12_folk (d + 2) 18 [some (aR 12 0), some (aI x), some (aI y)] [aI (fwB (0 ≤ y ∧ y ≤ 6))] h Q
    refine w_ifB_eq 30 dX12_folk_18 (by decide) (fun c18 => ?_) (fun c18 => ?_)
    · refine w_bipush dX12_folk_30 rfl ?_
      exact w_iretE dX12_folk_32 rfl (by unfold an_folk; first | (rw [if_pos (by omega)]; done) | (rw [if_neg (by omega)]; done) | (rw [if_pos (by omega)]; rfl) | (rw [if_neg (by omega)]; rfl)) (k _ (scr_rf hsh))
    · refine w_aload_n dX12_folk_21 rfl ?_
      refine w_iload_n dX12_folk_22 rfl ?_
      refine w_iload_n dX12_folk_23 rfl ?_
      obtain ⟨f, rfl⟩ : ∃ f : Nat, x = (f : Int) := ⟨x.toNat, by omega⟩
      obtain ⟨u, rfl⟩ : ∃ u : Nat, y = (u : Int) := ⟨y.toNat, by omega⟩
      refine w_callV (d := d + 1) (S := []) [aI (f : Int), aI (u : Int)] dX12_folk_24 ml_X12_220 ok_X12_of vi_X12_of rfl rfl (by decide) rfl (Nat.le_of_ble_eq_true rfl) ?_
      refine c_X12_of (d := (d + 1)) f u J R (by omega) (by omega) ?_
      show fwWP mX12_folk (d + 2) 27 [some (aR 12 0), some (aI (f : Int)), some (aI (u : Int))] [aI (gg 18 0 (7 * f + u))] h Q
      refine w_goto 32 dX12_folk_27 (by decide) ?_
      exact w_iretE dX12_folk_32 rfl (by unfold an_folk; first | (rw [if_pos (by omega)]; done) | (rw [if_neg (by omega)]; done) | (rw [if_pos (by omega)]; rfl) | (rw [if_neg (by omega)]; rfl)) (k _ (scr_rf hsh))
set_option maxRecDepth 100000 in
set_option maxHeartbeats 4000000 in
theorem c_X12_height {d : Nat} {h gg : fwH} {Q : Option fwV → fwH → Prop} (x : Int) (J : cOk gg) (R : jF gg h) (K : jA gg h) (hsh : sc h) (hx : -2147483648 ≤ x ∧ x < 2147483648) (k : ∀ g, scr h g → Q (some (aI (an_height gg x))) g) : fwCt mX12_height (d + 6) [aR 12 0, aI x] h Q := by
  refine fwCt_of [some (aR 12 0), some (aI x)] rfl rfl rfl ?_
  obtain ⟨hl, hP, hG, hM0, htd, hut, hlw, hhc, ha, hs, hT, hsc⟩ := id J
  have hb17 : hB (gg 17 0) := fun c hc => by have := hM0 c hc; omega
  obtain ⟨⟨g1, g2⟩, ⟨g3, g4⟩, ⟨g5, g6⟩, g7, -⟩ := id hG
  have h17_99 : ∀ c : Nat, (c : Int) < gg 4 0 1 → gg 17 0 c ≤ 99 := fun c hc => (hM0 c (by omega)).2
  have hpz := hP.1
  have hrs1 := R.2.2.2.2.2.2.2.2.2.2.2
  refine w_aload_n dX12_height_0 rfl ?_
  refine w_iload_n dX12_height_1 rfl ?_
  refine w_i2l dX12_height_2 (by omega) ?_
  refine w_callV (d := d + 5) (S := []) [aJ x] dX12_height_3 ml_X12_203 ok_X12_isCell vi_X12_isCell rfl rfl (by decide) rfl (Nat.le_of_ble_eq_true rfl) ?_
  refine c_X12_isCell (d := (d + 4)) x J R (by omega) ?_
  show fwWP mX12_height (d + 6) 6 [some (aR 12 0), some (aI x)] [aI (fwB (0 ≤ x ∧ x ≤ gg 4 0 1 - 1))] h Q
  refine w_ifB_ne 12 dX12_height_6 (by decide) (fun c6 => ?_) (fun c6 => ?_)
  · refine w_aload_n dX12_height_12 rfl ?_
    refine w_callV (d := d + 5) (S := []) [] dX12_height_13 ml_X12_240 ok_X12_asItIs vi_X12_asItIs rfl rfl (by decide) rfl (Nat.le_of_ble_eq_true rfl) ?_
    refine c_X12_asItIs (d := d) J R K (show 1 ≤ gg 4 0 1 by omega) (show 1 ≤ gg 4 0 3 by omega) ?_
    intro A13_2 hA13_2
    show fwWP mX12_height (d + 6) 16 [some (aR 12 0), some (aI x)] [] (fwUc h 42 0 A13_2) Q
    refine w_aload_n dX12_height_16 rfl ?_
    refine w_getr 42 0 dX12_height_17 fl_X12_34 rfl (by decide) ?_
    refine w_iload_n dX12_height_20 rfl ?_
    refine w_ialdE (v := (gg 17 0) (x).toNat) dX12_height_21 rfl (by decide) (by omega) (by omega) (hA13_2 _ (by omega)) ?_
    exact w_iretE dX12_height_22 rfl (by unfold an_height; first | (rw [if_neg (by omega)]; done) | (rw [if_pos (by omega), hOf_p (by omega)])) (k _ (scr_uc (scr_rf hsh) rfl (by decide) (by decide) (by decide)))
  · refine w_bipush dX12_height_9 rfl ?_
    exact w_iretE dX12_height_11 rfl (by unfold an_height; first | (rw [if_neg (by omega)]; done) | (rw [if_pos (by omega), hOf_p (by omega)])) (k _ (scr_rf hsh))
set_option maxRecDepth 100000 in
set_option maxHeartbeats 4000000 in
theorem c_X12_shade {d : Nat} {h gg : fwH} {Q : Option fwV → fwH → Prop} (x : Int) (y : Int) (J : cOk gg) (R : jF gg h) (K : jA gg h) (hsh : sc h) (hx : -2147483648 ≤ x ∧ x < 2147483648) (hy : -2147483648 ≤ y ∧ y < 2147483648) (k : ∀ g, scr h g → Q (some (aI (an_shade gg x y))) g) : fwCt mX12_shade (d + 6) [aR 12 0, aI x, aI y] h Q := by
  refine fwCt_of [some (aR 12 0), some (aI x), some (aI y)] rfl rfl rfl ?_
  obtain ⟨hl, hP, hG, hM0, htd, hut, hlw, hhc, ha, hs, hT, hsc⟩ := id J
  have hb17 : hB (gg 17 0) := fun c hc => by have := hM0 c hc; omega
  obtain ⟨⟨g1, g2⟩, ⟨g3, g4⟩, ⟨g5, g6⟩, g7, -⟩ := id hG
  have h17_99 : ∀ c : Nat, (c : Int) < gg 4 0 1 → gg 17 0 c ≤ 99 := fun c hc => (hM0 c (by omega)).2
  have hpz := hP.1
  have hrs1 := R.2.2.2.2.2.2.2.2.2.2.2
  refine w_aload_n dX12_shade_0 rfl ?_
  refine w_iload_n dX12_shade_1 rfl ?_
  refine w_i2l dX12_shade_2 (by omega) ?_
  refine w_callV (d := d + 5) (S := []) [aJ x] dX12_shade_3 ml_X12_203 ok_X12_isCell vi_X12_isCell rfl rfl (by decide) rfl (Nat.le_of_ble_eq_true rfl) ?_
  refine c_X12_isCell (d := (d + 4)) x J R (by omega) ?_
  show fwWP mX12_shade (d + 6) 6 [some (aR 12 0), some (aI x), some (aI y)] [aI (fwB (0 ≤ x ∧ x ≤ gg 4 0 1 - 1))] h Q
  refine w_ifB_eq 17 dX12_shade_6 (by decide) (fun c6 => ?_) (fun c6 => ?_)
  · refine w_bipush dX12_shade_17 rfl ?_
    exact w_iretE dX12_shade_19 rfl (by unfold an_shade; first | (rw [if_pos (by omega), if_pos (by assumption)]; done) | (rw [if_pos (by omega), if_neg (by assumption)]; done) | (rw [if_neg (by omega)]; done)) (k _ (scr_rf hsh))
  · refine w_iload_n dX12_shade_9 rfl ?_
    refine w_i2l dX12_shade_10 (by omega) ?_
    refine w_callS (d := d + 5) (S := []) [aJ y] dX12_shade_11 ml_X12_243 ok_X12_isHour st_X12_isHour rfl (Nat.le_of_ble_eq_true rfl) ?_
    refine c_X12_isHour (d := (d + 4)) y (by omega) ?_
    show fwWP mX12_shade (d + 6) 14 [some (aR 12 0), some (aI x), some (aI y)] [aI (fwB (y ≠ 0 ∧ -9 ≤ y ∧ y ≤ 9))] h Q
    refine w_ifB_ne 20 dX12_shade_14 (by decide) (fun c14 => ?_) (fun c14 => ?_)
    · refine w_aload_n dX12_shade_20 rfl ?_
      refine w_callV (d := d + 5) (S := []) [] dX12_shade_21 ml_X12_240 ok_X12_asItIs vi_X12_asItIs rfl rfl (by decide) rfl (Nat.le_of_ble_eq_true rfl) ?_
      refine c_X12_asItIs (d := d) J R K (show 1 ≤ gg 4 0 1 by omega) (show 1 ≤ gg 4 0 3 by omega) ?_
      intro A21_3 hA21_3
      show fwWP mX12_shade (d + 6) 24 [some (aR 12 0), some (aI x), some (aI y)] [] (fwUc h 42 0 A21_3) Q
      refine w_aload_n dX12_shade_24 rfl ?_
      refine w_iload_n dX12_shade_25 rfl ?_
      refine w_iload_n dX12_shade_26 rfl ?_
      refine w_callV (d := d + 5) (S := []) [aI x, aI y] dX12_shade_27 ml_X12_217 ok_X12_isDark vi_X12_isDark rfl rfl (by decide) rfl (Nat.le_of_ble_eq_true rfl) ?_
      refine c_X12_isDark (d := (d + 3)) x y (gg 17 0) J R hA21_3 hb17 (show 0 ≤ x ∧ x < gg 4 0 1 by omega) (by omega) ?_
      show fwWP mX12_shade (d + 6) 30 [some (aR 12 0), some (aI x), some (aI y)] [aI (fwB (mShadeB (gg 4 0 1) (gg 17 0) x y = true))] (fwUc h 42 0 A21_3) Q
      refine w_ifB_eq 37 dX12_shade_30 (by decide) (fun c30 => ?_) (fun c30 => ?_)
      · refine w_iconst dX12_shade_37 ?_
        exact w_iretE dX12_shade_38 rfl (by unfold an_shade; first | (rw [if_pos (by omega), if_pos (by assumption)]; done) | (rw [if_pos (by omega), if_neg (by assumption)]; done) | (rw [if_neg (by omega)]; done)) (k _ (scr_uc (scr_rf hsh) rfl (by decide) (by decide) (by decide)))
      · refine w_iconst dX12_shade_33 ?_
        refine w_goto 38 dX12_shade_34 (by decide) ?_
        exact w_iretE dX12_shade_38 rfl (by unfold an_shade; first | (rw [if_pos (by omega), if_pos (by assumption)]; done) | (rw [if_pos (by omega), if_neg (by assumption)]; done) | (rw [if_neg (by omega)]; done)) (k _ (scr_uc (scr_rf hsh) rfl (by decide) (by decide) (by decide)))
    · refine w_bipush dX12_shade_17 rfl ?_
      exact w_iretE dX12_shade_19 rfl (by unfold an_shade; first | (rw [if_pos (by omega), if_pos (by assumption)]; done) | (rw [if_pos (by omega), if_neg (by assumption)]; done) | (rw [if_neg (by omega)]; done)) (k _ (scr_rf hsh))
set_option maxRecDepth 100000 in
set_option maxHeartbeats 4000000 in
theorem c_X12_light {d : Nat} {h gg : fwH} {Q : Option fwV → fwH → Prop} (x : Int) (J : cOk gg) (R : jF gg h) (K : jA gg h) (hsh : sc h) (hx : -2147483648 ≤ x ∧ x < 2147483648) (k : ∀ g, scr h g → Q (some (aI (an_light gg x))) g) : fwCt mX12_light (d + 6) [aR 12 0, aI x] h Q := by
  refine fwCt_of [some (aR 12 0), some (aI x)] rfl rfl rfl ?_
  obtain ⟨hl, hP, hG, hM0, htd, hut, hlw, hhc, ha, hs, hT, hsc⟩ := id J
  have hb17 : hB (gg 17 0) := fun c hc => by have := hM0 c hc; omega
  obtain ⟨⟨g1, g2⟩, ⟨g3, g4⟩, ⟨g5, g6⟩, g7, -⟩ := id hG
  have h17_99 : ∀ c : Nat, (c : Int) < gg 4 0 1 → gg 17 0 c ≤ 99 := fun c hc => (hM0 c (by omega)).2
  have hpz := hP.1
  have hrs1 := R.2.2.2.2.2.2.2.2.2.2.2
  refine w_aload_n dX12_light_0 rfl ?_
  refine w_iload_n dX12_light_1 rfl ?_
  refine w_i2l dX12_light_2 (by omega) ?_
  refine w_callV (d := d + 5) (S := []) [aJ x] dX12_light_3 ml_X12_203 ok_X12_isCell vi_X12_isCell rfl rfl (by decide) rfl (Nat.le_of_ble_eq_true rfl) ?_
  refine c_X12_isCell (d := (d + 4)) x J R (by omega) ?_
  show fwWP mX12_light (d + 6) 6 [some (aR 12 0), some (aI x)] [aI (fwB (0 ≤ x ∧ x ≤ gg 4 0 1 - 1))] h Q
  refine w_ifB_ne 12 dX12_light_6 (by decide) (fun c6 => ?_) (fun c6 => ?_)
  · refine w_aload_n dX12_light_12 rfl ?_
    refine w_callV (d := d + 5) (S := []) [] dX12_light_13 ml_X12_240 ok_X12_asItIs vi_X12_asItIs rfl rfl (by decide) rfl (Nat.le_of_ble_eq_true rfl) ?_
    refine c_X12_asItIs (d := d) J R K (show 1 ≤ gg 4 0 1 by omega) (show 1 ≤ gg 4 0 3 by omega) ?_
    intro A13_2 hA13_2
    show fwWP mX12_light (d + 6) 16 [some (aR 12 0), some (aI x)] [] (fwUc h 42 0 A13_2) Q
    refine w_aload_n dX12_light_16 rfl ?_
    refine w_iload_n dX12_light_17 rfl ?_
    refine w_callV (d := d + 5) (S := []) [aI x] dX12_light_18 ml_X12_223 ok_X12_lightOf vi_X12_lightOf rfl rfl (by decide) rfl (Nat.le_of_ble_eq_true rfl) ?_
    refine c_X12_lightOf (d := (d + 2)) x (gg 17 0) J R hA13_2 hb17 (show 0 ≤ x ∧ x < gg 4 0 1 by omega) ?_
    show fwWP mX12_light (d + 6) 21 [some (aR 12 0), some (aI x)] [aI (18 - mSh (gg 4 0 1) (gg 17 0) x (-1) - mSh (gg 4 0 1) (gg 17 0) x 1)] (fwUc h 42 0 A13_2) Q
    exact w_iretE dX12_light_21 rfl (by unfold an_light; first | (rw [if_pos (by omega)]; done) | (rw [if_neg (by omega)]; done) | (rw [if_pos (by omega)]; rfl) | (rw [if_neg (by omega)]; rfl)) (k _ (scr_uc (scr_rf hsh) rfl (by decide) (by decide) (by decide)))
  · refine w_bipush dX12_light_9 rfl ?_
    exact w_iretE dX12_light_11 rfl (by unfold an_light; first | (rw [if_pos (by omega)]; done) | (rw [if_neg (by omega)]; done) | (rw [if_pos (by omega)]; rfl) | (rw [if_neg (by omega)]; rfl)) (k _ (scr_rf hsh))
set_option maxRecDepth 100000 in
set_option maxHeartbeats 4000000 in
theorem c_X12_snow {d : Nat} {h gg : fwH} {Q : Option fwV → fwH → Prop}  (J : cOk gg) (R : jF gg h) (K : jA gg h) (hsh : sc h)  (k : ∀ g, scr h g → Q (some (aI (an_snow gg ))) g) : fwCt mX12_snow (d + 6) [aR 12 0] h Q := by
  refine fwCt_of [some (aR 12 0)] rfl rfl rfl ?_
  obtain ⟨hl, hP, hG, hM0, htd, hut, hlw, hhc, ha, hs, hT, hsc⟩ := id J
  have hb17 : hB (gg 17 0) := fun c hc => by have := hM0 c hc; omega
  obtain ⟨⟨g1, g2⟩, ⟨g3, g4⟩, ⟨g5, g6⟩, g7, -⟩ := id hG
  have h17_99 : ∀ c : Nat, (c : Int) < gg 4 0 1 → gg 17 0 c ≤ 99 := fun c hc => (hM0 c (by omega)).2
  have hpz := hP.1
  have hrs1 := R.2.2.2.2.2.2.2.2.2.2.2
  refine w_aload_n dX12_snow_0 rfl ?_
  refine w_callV (d := d + 5) (S := []) [] dX12_snow_1 ml_X12_73 ok_X12_isMount vi_X12_isMount rfl rfl (by decide) rfl (Nat.le_of_ble_eq_true rfl) ?_
  refine c_X12_isMount (d := (d + 5)) J R ?_
  show fwWP mX12_snow (d + 6) 4 [some (aR 12 0)] [aI (fwB (0 < gg 3 0 6))] h Q
  refine w_ifB_ne 10 dX12_snow_4 (by decide) (fun c4 => ?_) (fun c4 => ?_)
  · refine w_aload_n dX12_snow_10 rfl ?_
    refine w_callV (d := d + 5) (S := []) [] dX12_snow_11 ml_X12_240 ok_X12_asItIs vi_X12_asItIs rfl rfl (by decide) rfl (Nat.le_of_ble_eq_true rfl) ?_
    refine c_X12_asItIs (d := d) J R K (show 1 ≤ gg 4 0 1 by omega) (show 1 ≤ gg 4 0 3 by omega) ?_
    intro A11_2 hA11_2
    show fwWP mX12_snow (d + 6) 14 [some (aR 12 0)] [] (fwUc h 42 0 A11_2) Q
    refine w_aload_n dX12_snow_14 rfl ?_
    refine w_callV (d := d + 5) (S := []) [] dX12_snow_15 ml_X12_226 ok_X12_snowSet vi_X12_snowSet rfl rfl (by decide) rfl (Nat.le_of_ble_eq_true rfl) ?_
    refine c_X12_snowSet (d := (d + 5)) (gg 17 0) J R hA11_2 hb17 ?_
    show fwWP mX12_snow (d + 6) 18 [some (aR 12 0)] [aI (mBits (fun c => decide (gg 4 0 2 ≤ (gg 17 0) c)) (gg 4 0 1).toNat)] (fwUc h 42 0 A11_2) Q
    have hmb3 := mBits_10 (p := (fun c => decide (gg 4 0 2 ≤ (gg 17 0) c))) (n := (gg 4 0 1).toNat) (by omega)
    exact w_iretE dX12_snow_18 rfl (by unfold an_snow; first | (rw [if_pos (by omega)]; done) | (rw [if_neg (by omega)]; done) | (rw [if_pos (by omega)]; rfl) | (rw [if_neg (by omega)]; rfl)) (k _ (scr_uc (scr_rf hsh) rfl (by decide) (by decide) (by decide)))
  · refine w_bipush dX12_snow_7 rfl ?_
    exact w_iretE dX12_snow_9 rfl (by unfold an_snow; first | (rw [if_pos (by omega)]; done) | (rw [if_neg (by omega)]; done) | (rw [if_pos (by omega)]; rfl) | (rw [if_neg (by omega)]; rfl)) (k _ (scr_rf hsh))
set_option maxRecDepth 100000 in
set_option maxHeartbeats 4000000 in
theorem c_X12_top {d : Nat} {h gg : fwH} {Q : Option fwV → fwH → Prop}  (J : cOk gg) (R : jF gg h) (K : jA gg h) (hsh : sc h)  (k : ∀ g, scr h g → Q (some (aI (an_top gg ))) g) : fwCt mX12_top (d + 6) [aR 12 0] h Q := by
  refine fwCt_of [some (aR 12 0)] rfl rfl rfl ?_
  obtain ⟨hl, hP, hG, hM0, htd, hut, hlw, hhc, ha, hs, hT, hsc⟩ := id J
  have hb17 : hB (gg 17 0) := fun c hc => by have := hM0 c hc; omega
  obtain ⟨⟨g1, g2⟩, ⟨g3, g4⟩, ⟨g5, g6⟩, g7, -⟩ := id hG
  have h17_99 : ∀ c : Nat, (c : Int) < gg 4 0 1 → gg 17 0 c ≤ 99 := fun c hc => (hM0 c (by omega)).2
  have hpz := hP.1
  have hrs1 := R.2.2.2.2.2.2.2.2.2.2.2
  refine w_aload_n dX12_top_0 rfl ?_
  refine w_callV (d := d + 5) (S := []) [] dX12_top_1 ml_X12_73 ok_X12_isMount vi_X12_isMount rfl rfl (by decide) rfl (Nat.le_of_ble_eq_true rfl) ?_
  refine c_X12_isMount (d := (d + 5)) J R ?_
  show fwWP mX12_top (d + 6) 4 [some (aR 12 0)] [aI (fwB (0 < gg 3 0 6))] h Q
  refine w_ifB_ne 10 dX12_top_4 (by decide) (fun c4 => ?_) (fun c4 => ?_)
  · refine w_aload_n dX12_top_10 rfl ?_
    refine w_callV (d := d + 5) (S := []) [] dX12_top_11 ml_X12_240 ok_X12_asItIs vi_X12_asItIs rfl rfl (by decide) rfl (Nat.le_of_ble_eq_true rfl) ?_
    refine c_X12_asItIs (d := d) J R K (show 1 ≤ gg 4 0 1 by omega) (show 1 ≤ gg 4 0 3 by omega) ?_
    intro A11_2 hA11_2
    show fwWP mX12_top (d + 6) 14 [some (aR 12 0)] [] (fwUc h 42 0 A11_2) Q
    refine w_aload_n dX12_top_14 rfl ?_
    refine w_callV (d := d + 5) (S := []) [] dX12_top_15 ml_X12_200 ok_X12_topCell vi_X12_topCell rfl rfl (by decide) rfl (Nat.le_of_ble_eq_true rfl) ?_
    refine c_X12_topCell (d := (d + 5)) (gg 17 0) J R hA11_2 hb17 (show 1 ≤ gg 4 0 1 by omega) ?_
    show fwWP mX12_top (d + 6) 18 [some (aR 12 0)] [aI (mTop (gg 17 0) (gg 4 0 4) (gg 4 0 1).toNat)] (fwUc h 42 0 A11_2) Q
    have htp3 := mTop_r2 (gg 17 0) (gg 4 0 4) (gg 4 0 1).toNat (by omega)
    exact w_iretE dX12_top_18 rfl (by unfold an_top; first | (rw [if_pos (by omega)]; done) | (rw [if_neg (by omega)]; done) | (rw [if_pos (by omega)]; rfl) | (rw [if_neg (by omega)]; rfl)) (k _ (scr_uc (scr_rf hsh) rfl (by decide) (by decide) (by decide)))
  · refine w_bipush dX12_top_7 rfl ?_
    exact w_iretE dX12_top_9 rfl (by unfold an_top; first | (rw [if_pos (by omega)]; done) | (rw [if_neg (by omega)]; done) | (rw [if_pos (by omega)]; rfl) | (rw [if_neg (by omega)]; rfl)) (k _ (scr_rf hsh))
set_option maxRecDepth 100000 in
set_option maxHeartbeats 4000000 in
theorem c_X12_gain {d : Nat} {h gg : fwH} {Q : Option fwV → fwH → Prop} (x : Int) (J : cOk gg) (R : jF gg h) (K : jA gg h) (hsh : sc h) (hx : -2147483648 ≤ x ∧ x < 2147483648) (k : ∀ g, scr h g → Q (some (aI (an_gain gg x))) g) : fwCt mX12_gain (d + 6) [aR 12 0, aI x] h Q := by
  refine fwCt_of [some (aR 12 0), some (aI x)] rfl rfl rfl ?_
  obtain ⟨hl, hP, hG, hM0, htd, hut, hlw, hhc, ha, hs, hT, hsc⟩ := id J
  have hb17 : hB (gg 17 0) := fun c hc => by have := hM0 c hc; omega
  obtain ⟨⟨g1, g2⟩, ⟨g3, g4⟩, ⟨g5, g6⟩, g7, -⟩ := id hG
  have h17_99 : ∀ c : Nat, (c : Int) < gg 4 0 1 → gg 17 0 c ≤ 99 := fun c hc => (hM0 c (by omega)).2
  have hpz := hP.1
  have hrs1 := R.2.2.2.2.2.2.2.2.2.2.2
  refine w_aload_n dX12_gain_0 rfl ?_
  refine w_iload_n dX12_gain_1 rfl ?_
  refine w_i2l dX12_gain_2 (by omega) ?_
  refine w_callV (d := d + 5) (S := []) [aJ x] dX12_gain_3 ml_X12_235 ok_X12_isFolk vi_X12_isFolk rfl rfl (by decide) rfl (Nat.le_of_ble_eq_true rfl) ?_
  refine c_X12_isFolk (d := (d + 4)) x J R (by omega) ?_
  show fwWP mX12_gain (d + 6) 6 [some (aR 12 0), some (aI x)] [aI (fwB (0 ≤ x ∧ x ≤ gg 5 0 3 - 1))] h Q
  refine w_ifB_ne 13 dX12_gain_6 (by decide) (fun c6 => ?_) (fun c6 => ?_)
  · refine w_aload_n dX12_gain_13 rfl ?_
    refine w_callV (d := d + 5) (S := []) [] dX12_gain_14 ml_X12_240 ok_X12_asItIs vi_X12_asItIs rfl rfl (by decide) rfl (Nat.le_of_ble_eq_true rfl) ?_
    refine c_X12_asItIs (d := d) J R K (show 1 ≤ gg 4 0 1 by omega) (show 1 ≤ gg 4 0 3 by omega) ?_
    intro A14_2 hA14_2
    show fwWP mX12_gain (d + 6) 17 [some (aR 12 0), some (aI x)] [] (fwUc h 42 0 A14_2) Q
    refine w_aload_n dX12_gain_17 rfl ?_
    refine w_iload_n dX12_gain_18 rfl ?_
    obtain ⟨f, rfl⟩ : ∃ f : Nat, x = (f : Int) := ⟨x.toNat, by omega⟩
    refine w_callV (d := d + 5) (S := []) [aI (f : Int)] dX12_gain_19 ml_X12_232 ok_X12_gainOf vi_X12_gainOf rfl rfl (by decide) rfl (Nat.le_of_ble_eq_true rfl) ?_
    refine c_X12_gainOf (d := (d + 1)) f (gg 17 0) J R hA14_2 hb17 (show 1 ≤ gg 4 0 1 by omega) (show (f : Int) < gg 5 0 3 by omega) ?_
    show fwWP mX12_gain (d + 6) 22 [some (aR 12 0), some (aI (f : Int))] [aI (mGain (gg 4 0 1) (gg 17 0) (gg 4 0 2) (gg 18 0) f)] (fwUc h 42 0 A14_2) Q
    have hgr3 := mGain_r2 J hb17 f (by omega)
    exact w_iretE dX12_gain_22 rfl (by unfold an_gain; first | (rw [if_pos (by omega)]; done) | (rw [if_neg (by omega)]; done) | (rw [if_pos (by omega)]; rfl) | (rw [if_neg (by omega)]; rfl)) (k _ (scr_uc (scr_rf hsh) rfl (by decide) (by decide) (by decide)))
  · refine w_sipush dX12_gain_9 rfl ?_
    exact w_iretE dX12_gain_12 rfl (by unfold an_gain; first | (rw [if_pos (by omega)]; done) | (rw [if_neg (by omega)]; done) | (rw [if_pos (by omega)]; rfl) | (rw [if_neg (by omega)]; rfl)) (k _ (scr_rf hsh))
set_option maxRecDepth 100000 in
set_option maxHeartbeats 4000000 in
theorem c_X12_gains {d : Nat} {h gg : fwH} {Q : Option fwV → fwH → Prop}  (J : cOk gg) (R : jF gg h) (K : jA gg h) (hsh : sc h)  (k : ∀ g, scr h g → Q (some (aI (an_gains gg ))) g) : fwCt mX12_gains (d + 6) [aR 12 0] h Q := by
  refine fwCt_of [some (aR 12 0)] rfl rfl rfl ?_
  obtain ⟨hl, hP, hG, hM0, htd, hut, hlw, hhc, ha, hs, hT, hsc⟩ := id J
  have hb17 : hB (gg 17 0) := fun c hc => by have := hM0 c hc; omega
  obtain ⟨⟨g1, g2⟩, ⟨g3, g4⟩, ⟨g5, g6⟩, g7, -⟩ := id hG
  have h17_99 : ∀ c : Nat, (c : Int) < gg 4 0 1 → gg 17 0 c ≤ 99 := fun c hc => (hM0 c (by omega)).2
  have hpz := hP.1
  have hrs1 := R.2.2.2.2.2.2.2.2.2.2.2
  refine w_aload_n dX12_gains_0 rfl ?_
  refine w_callV (d := d + 5) (S := []) [] dX12_gains_1 ml_X12_73 ok_X12_isMount vi_X12_isMount rfl rfl (by decide) rfl (Nat.le_of_ble_eq_true rfl) ?_
  refine c_X12_isMount (d := (d + 5)) J R ?_
  show fwWP mX12_gains (d + 6) 4 [some (aR 12 0)] [aI (fwB (0 < gg 3 0 6))] h Q
  refine w_ifB_ne 10 dX12_gains_4 (by decide) (fun c4 => ?_) (fun c4 => ?_)
  · refine w_aload_n dX12_gains_10 rfl ?_
    refine w_callV (d := d + 5) (S := []) [] dX12_gains_11 ml_X12_240 ok_X12_asItIs vi_X12_asItIs rfl rfl (by decide) rfl (Nat.le_of_ble_eq_true rfl) ?_
    refine c_X12_asItIs (d := d) J R K (show 1 ≤ gg 4 0 1 by omega) (show 1 ≤ gg 4 0 3 by omega) ?_
    intro A11_2 hA11_2
    show fwWP mX12_gains (d + 6) 14 [some (aR 12 0)] [] (fwUc h 42 0 A11_2) Q
    refine w_aload_n dX12_gains_14 rfl ?_
    refine w_callV (d := d + 5) (S := []) [] dX12_gains_15 ml_X12_251 ok_X12_gainOfAll vi_X12_gainOfAll rfl rfl (by decide) rfl (Nat.le_of_ble_eq_true rfl) ?_
    refine c_X12_gainOfAll (d := d) (gg 17 0) J R hA11_2 hb17 (show 1 ≤ gg 4 0 1 by omega) ?_
    show fwWP mX12_gains (d + 6) 18 [some (aR 12 0)] [aI (mSum (mGain (gg 4 0 1) (gg 17 0) (gg 4 0 2) (gg 18 0)) (gg 5 0 3).toNat)] (fwUc h 42 0 A11_2) Q
    have hga3 := mSum_r2 J hb17 (gg 5 0 3).toNat (by omega)
    exact w_iretE dX12_gains_18 rfl (by unfold an_gains; first | (rw [if_pos (by omega)]; done) | (rw [if_neg (by omega)]; done) | (rw [if_pos (by omega)]; rfl) | (rw [if_neg (by omega)]; rfl)) (k _ (scr_uc (scr_rf hsh) rfl (by decide) (by decide) (by decide)))
  · refine w_bipush dX12_gains_7 rfl ?_
    exact w_iretE dX12_gains_9 rfl (by unfold an_gains; first | (rw [if_pos (by omega)]; done) | (rw [if_neg (by omega)]; done) | (rw [if_pos (by omega)]; rfl) | (rw [if_neg (by omega)]; rfl)) (k _ (scr_rf hsh))
set_option maxRecDepth 100000 in
set_option maxHeartbeats 4000000 in
theorem c_X12_slides {d : Nat} {h gg : fwH} {Q : Option fwV → fwH → Prop} (x : Int) (J : cOk gg) (R : jF gg h) (K : jA gg h) (hsh : sc h) (hx : -2147483648 ≤ x ∧ x < 2147483648) (k : ∀ g, scr h g → Q (some (aI (an_slides gg x))) g) : fwCt mX12_slides (d + 6) [aR 12 0, aI x] h Q := by
  refine fwCt_of [some (aR 12 0), some (aI x)] rfl rfl rfl ?_
  obtain ⟨hl, hP, hG, hM0, htd, hut, hlw, hhc, ha, hs, hT, hsc⟩ := id J
  have hb17 : hB (gg 17 0) := fun c hc => by have := hM0 c hc; omega
  obtain ⟨⟨g1, g2⟩, ⟨g3, g4⟩, ⟨g5, g6⟩, g7, -⟩ := id hG
  have h17_99 : ∀ c : Nat, (c : Int) < gg 4 0 1 → gg 17 0 c ≤ 99 := fun c hc => (hM0 c (by omega)).2
  have hpz := hP.1
  have hrs1 := R.2.2.2.2.2.2.2.2.2.2.2
  refine w_aload_n dX12_slides_0 rfl ?_
  refine w_iload_n dX12_slides_1 rfl ?_
  refine w_i2l dX12_slides_2 (by omega) ?_
  refine w_callV (d := d + 5) (S := []) [aJ x] dX12_slides_3 ml_X12_203 ok_X12_isCell vi_X12_isCell rfl rfl (by decide) rfl (Nat.le_of_ble_eq_true rfl) ?_
  refine c_X12_isCell (d := (d + 4)) x J R (by omega) ?_
  show fwWP mX12_slides (d + 6) 6 [some (aR 12 0), some (aI x)] [aI (fwB (0 ≤ x ∧ x ≤ gg 4 0 1 - 1))] h Q
  refine w_ifB_ne 12 dX12_slides_6 (by decide) (fun c6 => ?_) (fun c6 => ?_)
  · refine w_aload_n dX12_slides_12 rfl ?_
    refine w_callV (d := d + 5) (S := []) [] dX12_slides_13 ml_X12_240 ok_X12_asItIs vi_X12_asItIs rfl rfl (by decide) rfl (Nat.le_of_ble_eq_true rfl) ?_
    refine c_X12_asItIs (d := d) J R K (show 1 ≤ gg 4 0 1 by omega) (show 1 ≤ gg 4 0 3 by omega) ?_
    intro A13_2 hA13_2
    show fwWP mX12_slides (d + 6) 16 [some (aR 12 0), some (aI x)] [] (fwUc h 42 0 A13_2) Q
    refine w_aload_n dX12_slides_16 rfl ?_
    refine w_iload_n dX12_slides_17 rfl ?_
    refine w_callV (d := d + 5) (S := []) [aI x] dX12_slides_18 ml_X12_211 ok_X12_slideOf vi_X12_slideOf rfl rfl (by decide) rfl (Nat.le_of_ble_eq_true rfl) ?_
    refine c_X12_slideOf (d := (d + 2)) x (gg 17 0) J R hA13_2 hb17 h17_99 (show 1 ≤ gg 4 0 3 by omega) (show 0 ≤ x ∧ x < gg 4 0 1 by omega) ?_
    show fwWP mX12_slides (d + 6) 21 [some (aR 12 0), some (aI x)] [aI (mStay (gg 4 0 1) (gg 17 0) (gg 4 0 3) x)] (fwUc h 42 0 A13_2) Q
    have hsr3 := mStay_rng (gg 17 0) (rs := gg 4 0 3) (n := gg 4 0 1) (x := x) (by omega) (by omega)
    exact w_iretE dX12_slides_21 rfl (by unfold an_slides; first | (rw [if_pos (by omega)]; done) | (rw [if_neg (by omega)]; done) | (rw [if_pos (by omega)]; rfl) | (rw [if_neg (by omega)]; rfl)) (k _ (scr_uc (scr_rf hsh) rfl (by decide) (by decide) (by decide)))
  · refine w_bipush dX12_slides_9 rfl ?_
    exact w_iretE dX12_slides_11 rfl (by unfold an_slides; first | (rw [if_pos (by omega)]; done) | (rw [if_neg (by omega)]; done) | (rw [if_pos (by omega)]; rfl) | (rw [if_neg (by omega)]; rfl)) (k _ (scr_rf hsh))
end
section
theorem hB_fu {H : Nat → Int} (hb : hB H) {t : Nat} {x : Int} (hx : 0 ≤ x ∧ x ≤ 1000) : hB (fwFu H t x) := by
  intro c hc
  unfold fwFu
  split
  · exact hx
  · exact hb c hc
theorem fwFu_mp (H : Nat → Int) (t : Nat) : fwFu (fwFu H t (H t - 1)) t (fwFu H t (H t - 1) t + 1) = H := by
  funext s
  unfold fwFu
  split
  · rename_i e; subst e; rw [if_pos rfl]; omega
  · rfl
theorem fwFu_pm (H : Nat → Int) (t : Nat) : fwFu (fwFu H t (H t + 1)) t (fwFu H t (H t + 1) t - 1) = H := by
  funext s
  unfold fwFu
  split
  · rename_i e; subst e; rw [if_pos rfl]; omega
  · rfl
theorem mLw_hb {h : fwH} (J : cOk h) (k : Nat) : hB (mLw h k) := mLowN_rng (by have := J.2.2.1.1; omega) (fun c hc => by have := J.2.2.2.1 c hc; omega) k
theorem mLw_99 {h : fwH} (J : cOk h) (k : Nat) : ∀ c : Nat, c < 10 → 0 ≤ mLw h k c ∧ mLw h k c ≤ 99 := mLowN_rng (by have := J.2.2.1.1; omega) J.2.2.2.1 k
set_option maxRecDepth 100000 in
set_option maxHeartbeats 4000000 in
theorem c_X12_dark {d : Nat} {h gg : fwH} {Q : Option fwV → fwH → Prop} (x : Int) (J : cOk gg) (R : jF gg h) (K : jA gg h) (hsh : sc h) (hx : -2147483648 ≤ x ∧ x < 2147483648) (k : ∀ g, scr h g → Q (some (aI (an_dark gg x))) g) : fwCt mX12_dark (d + 6) [aR 12 0, aI x] h Q := by
  refine fwCt_of [some (aR 12 0), some (aI x), none, none] rfl rfl rfl ?_
  obtain ⟨hl, hP, hG, hM0, htd, hut, hlw, hhc, ha, hs, hT, hsc⟩ := id J
  have hb17 : hB (gg 17 0) := fun c hc => by have := hM0 c hc; omega
  obtain ⟨⟨g1, g2⟩, ⟨g3, g4⟩, ⟨g5, g6⟩, g7, -⟩ := id hG
  have h17_99 : ∀ c : Nat, (c : Int) < gg 4 0 1 → gg 17 0 c ≤ 99 := fun c hc => (hM0 c (by omega)).2
  have hpz := hP.1
  have hrs1 := R.2.2.2.2.2.2.2.2.2.2.2
  refine w_aload_n dX12_dark_0 rfl ?_
  refine w_callV (d := d + 5) (S := []) [] dX12_dark_1 ml_X12_73 ok_X12_isMount vi_X12_isMount rfl rfl (by decide) rfl (Nat.le_of_ble_eq_true rfl) ?_
  refine c_X12_isMount (d := (d + 5)) J R ?_
  show fwWP mX12_dark (d + 6) 4 [some (aR 12 0), some (aI x), none, none] [aI (fwB (0 < gg 3 0 6))] h Q
  refine w_ifB_eq 15 dX12_dark_4 (by decide) (fun c4 => ?_) (fun c4 => ?_)
  · refine w_bipush dX12_dark_15 rfl ?_
    exact w_iretE dX12_dark_17 rfl (by unfold an_dark; first | (rw [if_pos (by omega)]; done) | (rw [if_neg (by omega)]; done) | (rw [if_pos (by omega)]; rfl) | (rw [if_neg (by omega)]; rfl)) (k _ (scr_rf hsh))
  · refine w_iload_n dX12_dark_7 rfl ?_
    refine w_i2l dX12_dark_8 (by omega) ?_
    refine w_callS (d := d + 5) (S := []) [aJ x] dX12_dark_9 ml_X12_243 ok_X12_isHour st_X12_isHour rfl (Nat.le_of_ble_eq_true rfl) ?_
    refine c_X12_isHour (d := (d + 4)) x (by omega) ?_
    show fwWP mX12_dark (d + 6) 12 [some (aR 12 0), some (aI x), none, none] [aI (fwB (x ≠ 0 ∧ -9 ≤ x ∧ x ≤ 9))] h Q
    refine w_ifB_ne 18 dX12_dark_12 (by decide) (fun c12 => ?_) (fun c12 => ?_)
    · refine w_aload_n dX12_dark_18 rfl ?_
      refine w_callV (d := d + 5) (S := []) [] dX12_dark_19 ml_X12_240 ok_X12_asItIs vi_X12_asItIs rfl rfl (by decide) rfl (Nat.le_of_ble_eq_true rfl) ?_
      refine c_X12_asItIs (d := d) J R K (show 1 ≤ gg 4 0 1 by omega) (show 1 ≤ gg 4 0 3 by omega) ?_
      intro A19_3 hA19_3
      show fwWP mX12_dark (d + 6) 22 [some (aR 12 0), some (aI x), none, none] [] (fwUc h 42 0 A19_3) Q
      refine w_iconst dX12_dark_22 ?_
      refine w_istore_n [some (aR 12 0), some (aI x), some (aI 0), none] dX12_dark_23 rfl (by decide) ?_
      refine w_iconst dX12_dark_24 ?_
      refine w_istore_n [some (aR 12 0), some (aI x), some (aI 0), some (aI 0)] dX12_dark_25 rfl (by decide) ?_
      have lp26 : ∀ c : Nat, c ≤ (gg 4 0 1).toNat → ∀ (y26 se : Int), y26 = (c : Int) → se = mBits (fun c => mShadeB (gg 4 0 1) (gg 17 0) (c : Int) x) c → fwWP mX12_dark (d + 6) 26 [some (aR 12 0), some (aI x), some (aI se), some (aI y26)] [] (fwUc h 42 0 A19_3) Q := by
        refine fw_up (fun c hc26 ih26 => ?_)
        intro y26 se ey26 e_se
        subst ey26
        subst e_se
        show fwWP mX12_dark (d + 6) 26 [some (aR 12 0), some (aI x), some (aI (mBits (fun c => mShadeB (gg 4 0 1) (gg 17 0) (c : Int) x) c)), some (aI (c : Int))] [] (fwUc h 42 0 A19_3) Q
        refine w_iload_n dX12_dark_26 rfl ?_
        refine w_aload_n dX12_dark_27 rfl ?_
        refine w_getr 36 0 dX12_dark_28 fl_X12_9 rfl (by decide) ?_
        refine w_iconst dX12_dark_31 ?_
        refine w_ialdE (v := gg 4 0 1) dX12_dark_32 rfl (by decide) (by omega) (by omega) R.1 ?_
        refine w_icmp_ge 61 dX12_dark_33 (by decide) (by omega) (by omega) (fun c33 => ?_) (fun c33 => ?_)
        · have ec26 : (gg 4 0 1).toNat = c := by omega
          subst ec26
          refine w_iload_n dX12_dark_61 rfl ?_
          exact w_iretE dX12_dark_62 rfl (by unfold an_dark; first | (rw [if_pos (by omega)]; done) | (rw [if_neg (by omega)]; done) | (rw [if_pos (by omega)]; rfl) | (rw [if_neg (by omega)]; rfl)) (k _ (scr_uc (scr_rf hsh) rfl (by decide) (by decide) (by decide)))
        · refine w_iload_n dX12_dark_36 rfl ?_
          refine w_aload_n dX12_dark_37 rfl ?_
          refine w_iload_n dX12_dark_38 rfl ?_
          refine w_iload_n dX12_dark_39 rfl ?_
          refine w_callV (d := d + 5) (S := [aI (mBits (fun c => mShadeB (gg 4 0 1) (gg 17 0) (c : Int) x) c)]) [aI (c : Int), aI x] dX12_dark_40 ml_X12_217 ok_X12_isDark vi_X12_isDark rfl rfl (by decide) rfl (Nat.le_of_ble_eq_true rfl) ?_
          refine c_X12_isDark (d := (d + 3)) (c : Int) x (gg 17 0) J R hA19_3 hb17 (show 0 ≤ (c : Int) ∧ (c : Int) < gg 4 0 1 by omega) (by omega) ?_
          show fwWP mX12_dark (d + 6) 43 [some (aR 12 0), some (aI x), some (aI (mBits (fun c => mShadeB (gg 4 0 1) (gg 17 0) (c : Int) x) c)), some (aI (c : Int))] [aI (fwB (mShadeB (gg 4 0 1) (gg 17 0) (c : Int) x = true)), aI (mBits (fun c => mShadeB (gg 4 0 1) (gg 17 0) (c : Int) x) c)] (fwUc h 42 0 A19_3) Q
          refine w_ifB_eq 52 dX12_dark_43 (by decide) (fun c43 => ?_) (fun c43 => ?_)
          · refine w_iconst dX12_dark_52 ?_
            refine w_ior dX12_dark_53 ?_
            refine w_istore_n [some (aR 12 0), some (aI x), some (aI (fwOr (mBits (fun c => mShadeB (gg 4 0 1) (gg 17 0) (c : Int) x) c) 0)), some (aI (c : Int))] dX12_dark_54 rfl (by decide) ?_
            refine w_iinc [some (aR 12 0), some (aI x), some (aI (fwOr (mBits (fun c => mShadeB (gg 4 0 1) (gg 17 0) (c : Int) x) c) 0)), some (aI ((c : Int) + 1))] dX12_dark_55 rfl rfl (by decide) ?_
            refine w_goto 26 dX12_dark_58 (by decide) ?_
            refine ih26 (by omega) _ _ ?_ ?_
            · exact (by omega)
            · exact (by rw [mBits, if_neg c43, fwOr_0 (mBits_rng _ _)])
          · refine w_iconst dX12_dark_46 ?_
            refine w_iload_n dX12_dark_47 rfl ?_
            refine w_ishl dX12_dark_48 ?_
            refine w_goto 53 dX12_dark_49 (by decide) ?_
            refine w_ior dX12_dark_53 ?_
            refine w_istore_n [some (aR 12 0), some (aI x), some (aI (fwOr (mBits (fun c => mShadeB (gg 4 0 1) (gg 17 0) (c : Int) x) c) (fwShl 1 (c : Int)))), some (aI (c : Int))] dX12_dark_54 rfl (by decide) ?_
            refine w_iinc [some (aR 12 0), some (aI x), some (aI (fwOr (mBits (fun c => mShadeB (gg 4 0 1) (gg 17 0) (c : Int) x) c) (fwShl 1 (c : Int)))), some (aI ((c : Int) + 1))] dX12_dark_55 rfl rfl (by decide) ?_
            refine w_goto 26 dX12_dark_58 (by decide) ?_
            refine ih26 (by omega) _ _ ?_ ?_
            · exact (by omega)
            · exact (by rw [mBits, if_pos c43])
      refine lp26 0 (Nat.zero_le _) _ _ ?_ ?_
      · exact (by omega)
      · exact rfl
    · refine w_bipush dX12_dark_15 rfl ?_
      exact w_iretE dX12_dark_17 rfl (by unfold an_dark; first | (rw [if_pos (by omega)]; done) | (rw [if_neg (by omega)]; done) | (rw [if_pos (by omega)]; rfl) | (rw [if_neg (by omega)]; rfl)) (k _ (scr_rf hsh))
set_option maxRecDepth 100000 in
set_option maxHeartbeats 4000000 in
theorem c_X12_hopesOf {d : Nat} {h gg : fwH} {Q : Option fwV → fwH → Prop} (f u : Nat) (J : cOk gg) (R : jF gg h) (K : jA gg h) (ht : 0 < gg 3 0 6) (hf : (f : Int) < gg 5 0 3) (hu : u ≤ 100) (k : ∀ A, Q (some (aI (mGain (gg 4 0 1) (mLw gg u) (gg 4 0 2) (gg 18 0) f - mGain (gg 4 0 1) (gg 17 0) (gg 4 0 2) (gg 18 0) f))) (fwUc h 42 0 A)) : fwCt mX12_hopesOf (d + 6) [aR 12 0, aI (f : Int), aI (u : Int)] h Q := by
  refine fwCt_of [some (aR 12 0), some (aI (f : Int)), some (aI (u : Int)), none, none] rfl rfl rfl ?_
  obtain ⟨hl, hP, hG, hM0, htd, hut, hlw, hhc, ha, hs, hT, hsc⟩ := id J
  have hb17 : hB (gg 17 0) := fun c hc => by have := hM0 c hc; omega
  obtain ⟨⟨g1, g2⟩, ⟨g3, g4⟩, ⟨g5, g6⟩, g7, -⟩ := id hG
  have h17_99 : ∀ c : Nat, (c : Int) < gg 4 0 1 → gg 17 0 c ≤ 99 := fun c hc => (hM0 c (by omega)).2
  have hpz := hP.1
  have hrs1 := R.2.2.2.2.2.2.2.2.2.2.2
  refine w_aload_n dX12_hopesOf_0 rfl ?_
  refine w_callV (d := d + 5) (S := []) [] dX12_hopesOf_1 ml_X12_240 ok_X12_asItIs vi_X12_asItIs rfl rfl (by decide) rfl (Nat.le_of_ble_eq_true rfl) ?_
  refine c_X12_asItIs (d := d) J R K (show 1 ≤ gg 4 0 1 by omega) (show 1 ≤ gg 4 0 3 by omega) ?_
  intro A1_1 hA1_1
  show fwWP mX12_hopesOf (d + 6) 4 [some (aR 12 0), some (aI (f : Int)), some (aI (u : Int)), none, none] [] (fwUc h 42 0 A1_1) Q
  refine w_aload_n dX12_hopesOf_4 rfl ?_
  refine w_iload_n dX12_hopesOf_5 rfl ?_
  refine w_callV (d := d + 5) (S := []) [aI (f : Int)] dX12_hopesOf_6 ml_X12_232 ok_X12_gainOf vi_X12_gainOf rfl rfl (by decide) rfl (Nat.le_of_ble_eq_true rfl) ?_
  refine c_X12_gainOf (d := (d + 1)) f (gg 17 0) J R hA1_1 hb17 (show 1 ≤ gg 4 0 1 by omega) (show (f : Int) < gg 5 0 3 by omega) ?_
  show fwWP mX12_hopesOf (d + 6) 9 [some (aR 12 0), some (aI (f : Int)), some (aI (u : Int)), none, none] [aI (mGain (gg 4 0 1) (gg 17 0) (gg 4 0 2) (gg 18 0) f)] (fwUc h 42 0 A1_1) Q
  have hgr2 := mGain_r2 J hb17 f (by omega)
  refine w_istore_n [some (aR 12 0), some (aI (f : Int)), some (aI (u : Int)), some (aI (mGain (gg 4 0 1) (gg 17 0) (gg 4 0 2) (gg 18 0) f)), none] dX12_hopesOf_9 rfl (by decide) ?_
  refine w_iconst dX12_hopesOf_10 ?_
  refine w_istore [some (aR 12 0), some (aI (f : Int)), some (aI (u : Int)), some (aI (mGain (gg 4 0 1) (gg 17 0) (gg 4 0 2) (gg 18 0) f)), some (aI 0)] dX12_hopesOf_11 rfl (by decide) ?_
  have lp13 : ∀ c : Nat, c ≤ u → ∀ (y13 : Int) (A13 : Nat → Int), y13 = (c : Int) → hiR (gg 4 0 1) A13 (mLw gg c) → fwWP mX12_hopesOf (d + 6) 13 [some (aR 12 0), some (aI (f : Int)), some (aI (u : Int)), some (aI (mGain (gg 4 0 1) (gg 17 0) (gg 4 0 2) (gg 18 0) f)), some (aI y13)] [] (fwUc h 42 0 A13) Q := by
    refine fw_up (fun c hc13 ih13 => ?_)
    intro y13 A13 ey13 hA13
    subst ey13
    show fwWP mX12_hopesOf (d + 6) 13 [some (aR 12 0), some (aI (f : Int)), some (aI (u : Int)), some (aI (mGain (gg 4 0 1) (gg 17 0) (gg 4 0 2) (gg 18 0) f)), some (aI (c : Int))] [] (fwUc h 42 0 A13) Q
    refine w_iload dX12_hopesOf_13 rfl ?_
    refine w_iload_n dX12_hopesOf_15 rfl ?_
    refine w_icmp_ge 30 dX12_hopesOf_16 (by decide) (by omega) (by omega) (fun c16 => ?_) (fun c16 => ?_)
    · have ec13 : u = c := by omega
      subst ec13
      have hbu := mLw_hb J u
      refine w_aload_n dX12_hopesOf_30 rfl ?_
      refine w_iload_n dX12_hopesOf_31 rfl ?_
      refine w_callV (d := d + 5) (S := []) [aI (f : Int)] dX12_hopesOf_32 ml_X12_232 ok_X12_gainOf vi_X12_gainOf rfl rfl (by decide) rfl (Nat.le_of_ble_eq_true rfl) ?_
      refine c_X12_gainOf (d := (d + 1)) f (mLw gg u) J R hA13 hbu (show 1 ≤ gg 4 0 1 by omega) (show (f : Int) < gg 5 0 3 by omega) ?_
      show fwWP mX12_hopesOf (d + 6) 35 [some (aR 12 0), some (aI (f : Int)), some (aI (u : Int)), some (aI (mGain (gg 4 0 1) (gg 17 0) (gg 4 0 2) (gg 18 0) f)), some (aI ((u : Nat) : Int))] [aI (mGain (gg 4 0 1) (mLw gg u) (gg 4 0 2) (gg 18 0) f)] (fwUc h 42 0 A13) Q
      have hgr4 := mGain_r2 J hbu f (by omega)
      refine w_iload_n dX12_hopesOf_35 rfl ?_
      refine w_isub dX12_hopesOf_36 ?_
      exact w_iretE dX12_hopesOf_37 rfl rfl (k _)
    · have hbl := mLw_hb J c
      refine w_aload_n dX12_hopesOf_19 rfl ?_
      refine w_callV (d := d + 5) (S := []) [] dX12_hopesOf_20 ml_X12_194 ok_X12_take0 vi_X12_take0 rfl rfl (by decide) rfl (Nat.le_of_ble_eq_true rfl) ?_
      refine c_X12_take0 (d := (d + 4)) (mLw gg c) J R hA13 hbl (show 1 ≤ gg 4 0 1 by omega) ?_
      intro A20_5 hA20_5
      show fwWP mX12_hopesOf (d + 6) 23 [some (aR 12 0), some (aI (f : Int)), some (aI (u : Int)), some (aI (mGain (gg 4 0 1) (gg 17 0) (gg 4 0 2) (gg 18 0) f)), some (aI (c : Int))] [aI (fwB (0 < (gg 4 0 1).toNat ∧ (mLw gg c) (mTop (mLw gg c) (gg 4 0 4) (gg 4 0 1).toNat).toNat ≠ 0))] (fwUc (fwUc h 42 0 A13) 42 0 A20_5) Q
      rw [show (fwUc (fwUc h 42 0 A13) 42 0 A20_5) = (fwUc h 42 0 A20_5) from by funext a b; simp only [fwUc]; (repeat' split); all_goals first | rfl | (exfalso; omega)]
      refine w_pop dX12_hopesOf_23 rfl ?_
      refine w_iinc [some (aR 12 0), some (aI (f : Int)), some (aI (u : Int)), some (aI (mGain (gg 4 0 1) (gg 17 0) (gg 4 0 2) (gg 18 0) f)), some (aI ((c : Int) + 1))] dX12_hopesOf_24 rfl rfl (by decide) ?_
      refine w_goto 13 dX12_hopesOf_27 (by decide) ?_
      refine ih13 (by omega) _ _ ?_ ?_
      · exact (by omega)
      · exact hA20_5
  have z13 := lp13 0 (Nat.zero_le _) _ A1_1 (by exact (show 0 = ((0 : Nat) : Int) by omega))  hA1_1
  exact z13
theorem c_hoE {d : Nat} {h gg : fwH} {Q : Option fwV → fwH → Prop} (f u : Nat) (x : Int) (J : cOk gg) (R : jF gg h) (K : jA gg h) (ht : 0 < gg 3 0 6) (ex : x = (u : Int)) (hf : (f : Int) < gg 5 0 3) (hu : u ≤ 100) (k : ∀ A, Q (some (aI (mGain (gg 4 0 1) (mLw gg u) (gg 4 0 2) (gg 18 0) f - mGain (gg 4 0 1) (gg 17 0) (gg 4 0 2) (gg 18 0) f))) (fwUc h 42 0 A)) : fwCt mX12_hopesOf (d + 6) [aR 12 0, aI (f : Int), aI x] h Q := by
  subst ex
  exact c_X12_hopesOf f u J R K ht hf hu k
theorem mWish_2 (h : fwH) (f : Nat) : ∀ k : Nat, (0 ≤ (mWish h f k).1 ∧ (mWish h f k).1 ≤ k) ∧ (mWish h f k).2 = mGain (h 4 0 1) (mLw h (mWish h f k).1.toNat) (h 4 0 2) (h 18 0) f := by
  intro k
  induction k with
  | zero => exact ⟨by rw [mWish]; dsimp only; omega, rfl⟩
  | succ k ih =>
    rw [mWish]
    split
    · refine ⟨by dsimp only; omega, ?_⟩
      show _ = mGain (h 4 0 1) (mLw h ((k : Int) + 1).toNat) (h 4 0 2) (h 18 0) f
      rw [show ((k : Int) + 1).toNat = k + 1 by omega]
    · exact ⟨by omega, ih.2⟩
set_option maxRecDepth 100000 in
set_option maxHeartbeats 4000000 in
theorem c_X12_hopes {d : Nat} {h gg : fwH} {Q : Option fwV → fwH → Prop} (x : Int) (y : Int) (J : cOk gg) (R : jF gg h) (K : jA gg h) (hsh : sc h) (hx : -2147483648 ≤ x ∧ x < 2147483648) (hy : -2147483648 ≤ y ∧ y < 2147483648) (k : ∀ g, scr h g → Q (some (aI (an_hopes gg x y))) g) : fwCt mX12_hopes (d + 7) [aR 12 0, aI x, aI y] h Q := by
  refine fwCt_of [some (aR 12 0), some (aI x), some (aI y)] rfl rfl rfl ?_
  obtain ⟨hl, hP, hG, hM0, htd, hut, hlw, hhc, ha, hs, hT, hsc⟩ := id J
  have hb17 : hB (gg 17 0) := fun c hc => by have := hM0 c hc; omega
  obtain ⟨⟨g1, g2⟩, ⟨g3, g4⟩, ⟨g5, g6⟩, g7, -⟩ := id hG
  have h17_99 : ∀ c : Nat, (c : Int) < gg 4 0 1 → gg 17 0 c ≤ 99 := fun c hc => (hM0 c (by omega)).2
  have hpz := hP.1
  have hrs1 := R.2.2.2.2.2.2.2.2.2.2.2
  refine w_aload_n dX12_hopes_0 rfl ?_
  refine w_iload_n dX12_hopes_1 rfl ?_
  refine w_i2l dX12_hopes_2 (by omega) ?_
  refine w_callV (d := d + 6) (S := []) [aJ x] dX12_hopes_3 ml_X12_235 ok_X12_isFolk vi_X12_isFolk rfl rfl (by decide) rfl (Nat.le_of_ble_eq_true rfl) ?_
  refine c_X12_isFolk (d := (d + 5)) x J R (by omega) ?_
  show fwWP mX12_hopes (d + 7) 6 [some (aR 12 0), some (aI x), some (aI y)] [aI (fwB (0 ≤ x ∧ x ≤ gg 5 0 3 - 1))] h Q
  refine w_ifB_eq 30 dX12_hopes_6 (by decide) (fun c6 => ?_) (fun c6 => ?_)
  · refine w_sipush dX12_hopes_30 rfl ?_
    exact w_iretE dX12_hopes_33 rfl (by unfold an_hopes; first | (rw [if_pos (by omega)]; done) | (rw [if_neg (by omega)]; done) | (rw [if_pos (by omega)]; rfl) | (rw [if_neg (by omega)]; rfl)) (k _ (scr_rf hsh))
  · refine w_iload_n dX12_hopes_9 rfl ?_
    refine w_i2l dX12_hopes_10 (by omega) ?_
    refine w_lconst (z := 0) dX12_hopes_11 rfl ?_
    refine w_ldc2 (n := 20) dX12_hopes_12 cs_X12_246 ?_
    refine w_callS (d := d + 6) (S := []) [aJ y, aJ 0, aJ 20] dX12_hopes_15 ml_X12_65 ok_X12_in st_X12_in rfl (Nat.le_of_ble_eq_true rfl) ?_
    refine c_X12_in (d := (d + 6)) y 0 20 (by omega) (by omega) (by omega) ?_
    show fwWP mX12_hopes (d + 7) 18 [some (aR 12 0), some (aI x), some (aI y)] [aI (fwB (0 ≤ y ∧ y ≤ 20))] h Q
    refine w_ifB_eq 30 dX12_hopes_18 (by decide) (fun c18 => ?_) (fun c18 => ?_)
    · refine w_sipush dX12_hopes_30 rfl ?_
      exact w_iretE dX12_hopes_33 rfl (by unfold an_hopes; first | (rw [if_pos (by omega)]; done) | (rw [if_neg (by omega)]; done) | (rw [if_pos (by omega)]; rfl) | (rw [if_neg (by omega)]; rfl)) (k _ (scr_rf hsh))
    · obtain ⟨f, rfl⟩ : ∃ f : Nat, x = (f : Int) := ⟨x.toNat, by omega⟩
      obtain ⟨u, rfl⟩ : ∃ u : Nat, y = (u : Int) := ⟨y.toNat, by omega⟩
      refine w_aload_n dX12_hopes_21 rfl ?_
      refine w_iload_n dX12_hopes_22 rfl ?_
      refine w_iload_n dX12_hopes_23 rfl ?_
      refine w_callV (d := d + 6) (S := []) [aI (f : Int), aI (u : Int)] dX12_hopes_24 ml_X12_248 ok_X12_hopesOf vi_X12_hopesOf rfl rfl (by decide) rfl (Nat.le_of_ble_eq_true rfl) ?_
      refine c_hoE (d := d) f u (u : Int) J R K (show 0 < gg 3 0 6 by omega) (by omega) (show (f : Int) < gg 5 0 3 by omega) (by omega) ?_
      intro A24_3
      show fwWP mX12_hopes (d + 7) 27 [some (aR 12 0), some (aI (f : Int)), some (aI (u : Int))] [aI (mGain (gg 4 0 1) (mLw gg u) (gg 4 0 2) (gg 18 0) f - mGain (gg 4 0 1) (gg 17 0) (gg 4 0 2) (gg 18 0) f)] (fwUc h 42 0 A24_3) Q
      have hgr3 := mGain_r2 J (mLw_hb J u) f (by omega)
      have hgq3 := mGain_r2 J hb17 f (by omega)
      refine w_goto 33 dX12_hopes_27 (by decide) ?_
      exact w_iretE dX12_hopes_33 rfl (by unfold an_hopes; first | (rw [if_pos (by omega)]; done) | (rw [if_neg (by omega)]; done) | (rw [if_pos (by omega)]; rfl) | (rw [if_neg (by omega)]; rfl)) (k _ (scr_uc (scr_rf hsh) rfl (by decide) (by decide) (by decide)))
set_option maxRecDepth 100000 in
set_option maxHeartbeats 4000000 in
theorem c_X12_wishes {d : Nat} {h gg : fwH} {Q : Option fwV → fwH → Prop} (x : Int) (J : cOk gg) (R : jF gg h) (K : jA gg h) (hsh : sc h) (hx : -2147483648 ≤ x ∧ x < 2147483648) (k : ∀ g, scr h g → Q (some (aI (an_wishes gg x))) g) : fwCt mX12_wishes (d + 7) [aR 12 0, aI x] h Q := by
  refine fwCt_of [some (aR 12 0), some (aI x), none, none] rfl rfl rfl ?_
  obtain ⟨hl, hP, hG, hM0, htd, hut, hlw, hhc, ha, hs, hT, hsc⟩ := id J
  have hb17 : hB (gg 17 0) := fun c hc => by have := hM0 c hc; omega
  obtain ⟨⟨g1, g2⟩, ⟨g3, g4⟩, ⟨g5, g6⟩, g7, -⟩ := id hG
  have h17_99 : ∀ c : Nat, (c : Int) < gg 4 0 1 → gg 17 0 c ≤ 99 := fun c hc => (hM0 c (by omega)).2
  have hpz := hP.1
  have hrs1 := R.2.2.2.2.2.2.2.2.2.2.2
  refine w_aload_n dX12_wishes_0 rfl ?_
  refine w_iload_n dX12_wishes_1 rfl ?_
  refine w_i2l dX12_wishes_2 (by omega) ?_
  refine w_callV (d := d + 6) (S := []) [aJ x] dX12_wishes_3 ml_X12_235 ok_X12_isFolk vi_X12_isFolk rfl rfl (by decide) rfl (Nat.le_of_ble_eq_true rfl) ?_
  refine c_X12_isFolk (d := (d + 5)) x J R (by omega) ?_
  show fwWP mX12_wishes (d + 7) 6 [some (aR 12 0), some (aI x), none, none] [aI (fwB (0 ≤ x ∧ x ≤ gg 5 0 3 - 1))] h Q
  refine w_ifB_ne 12 dX12_wishes_6 (by decide) (fun c6 => ?_) (fun c6 => ?_)
  · obtain ⟨f, rfl⟩ : ∃ f : Nat, x = (f : Int) := ⟨x.toNat, by omega⟩
    refine w_iconst dX12_wishes_12 ?_
    refine w_istore_n [some (aR 12 0), some (aI (f : Int)), some (aI 0), none] dX12_wishes_13 rfl (by decide) ?_
    refine w_iconst dX12_wishes_14 ?_
    refine w_istore_n [some (aR 12 0), some (aI (f : Int)), some (aI 0), some (aI 1)] dX12_wishes_15 rfl (by decide) ?_
    have lp16 : ∀ c : Nat, c ≤ 20 → ∀ (y16 be : Int) (A16 : Nat → Int), y16 = (c : Int) + 1 → be = (mWish gg f c).1 → fwWP mX12_wishes (d + 7) 16 [some (aR 12 0), some (aI (f : Int)), some (aI be), some (aI y16)] [] (fwUc h 42 0 A16) Q := by
      refine fw_up (fun c hc16 ih16 => ?_)
      intro y16 be A16 ey16 e_be
      subst ey16
      subst e_be
      have hw2 := (mWish_2 gg f c).1
      show fwWP mX12_wishes (d + 7) 16 [some (aR 12 0), some (aI (f : Int)), some (aI ((mWish gg f c).1)), some (aI ((c : Int) + 1))] [] (fwUc h 42 0 A16) Q
      refine w_iload_n dX12_wishes_16 rfl ?_
      refine w_bipush dX12_wishes_17 rfl ?_
      refine w_icmp_gt 49 dX12_wishes_19 (by decide) (by omega) (by omega) (fun c19 => ?_) (fun c19 => ?_)
      · have ec16 : 20 = c := by omega
        subst ec16
        refine w_iload_n dX12_wishes_49 rfl ?_
        exact w_iretE dX12_wishes_50 rfl (by unfold an_wishes; first | (rw [if_neg (by omega)]; done) | (rw [if_pos (by omega)]; done) | (rw [if_pos (by omega)]; rfl)) (k _ (scr_uc (scr_rf hsh) rfl (by decide) (by decide) (by decide)))
      · refine w_aload_n dX12_wishes_22 rfl ?_
        refine w_iload_n dX12_wishes_23 rfl ?_
        refine w_iload_n dX12_wishes_24 rfl ?_
        refine w_callV (d := d + 6) (S := []) [aI (f : Int), aI ((c : Int) + 1)] dX12_wishes_25 ml_X12_248 ok_X12_hopesOf vi_X12_hopesOf rfl rfl (by decide) rfl (Nat.le_of_ble_eq_true rfl) ?_
        refine c_hoE (d := d) f (c + 1) ((c : Int) + 1) J R K (show 0 < gg 3 0 6 by omega) (by omega) (show (f : Int) < gg 5 0 3 by omega) (by omega) ?_
        intro A25_4
        show fwWP mX12_wishes (d + 7) 28 [some (aR 12 0), some (aI (f : Int)), some (aI ((mWish gg f c).1)), some (aI ((c : Int) + 1))] [aI (mGain (gg 4 0 1) (mLw gg (c + 1)) (gg 4 0 2) (gg 18 0) f - mGain (gg 4 0 1) (gg 17 0) (gg 4 0 2) (gg 18 0) f)] (fwUc (fwUc h 42 0 A16) 42 0 A25_4) Q
        rw [show (fwUc (fwUc h 42 0 A16) 42 0 A25_4) = (fwUc h 42 0 A25_4) from by funext a b; simp only [fwUc]; (repeat' split); all_goals first | rfl | (exfalso; omega)]
        have hgra := mGain_r2 J (mLw_hb J (c + 1)) f (by omega)
        have hgrb := mGain_r2 J hb17 f (by omega)
        refine w_aload_n dX12_wishes_28 rfl ?_
        refine w_iload_n dX12_wishes_29 rfl ?_
        refine w_iload_n dX12_wishes_30 rfl ?_
        refine w_callV (d := d + 6) (S := [aI (mGain (gg 4 0 1) (mLw gg (c + 1)) (gg 4 0 2) (gg 18 0) f - mGain (gg 4 0 1) (gg 17 0) (gg 4 0 2) (gg 18 0) f)]) [aI (f : Int), aI ((mWish gg f c).1)] dX12_wishes_31 ml_X12_248 ok_X12_hopesOf vi_X12_hopesOf rfl rfl (by decide) rfl (Nat.le_of_ble_eq_true rfl) ?_
        refine c_hoE (d := d) f ((mWish gg f c).1).toNat ((mWish gg f c).1) J R K (show 0 < gg 3 0 6 by omega) (by omega) (show (f : Int) < gg 5 0 3 by omega) (by omega) ?_
        intro A31_5
        show fwWP mX12_wishes (d + 7) 34 [some (aR 12 0), some (aI (f : Int)), some (aI ((mWish gg f c).1)), some (aI ((c : Int) + 1))] [aI (mGain (gg 4 0 1) (mLw gg ((mWish gg f c).1).toNat) (gg 4 0 2) (gg 18 0) f - mGain (gg 4 0 1) (gg 17 0) (gg 4 0 2) (gg 18 0) f), aI (mGain (gg 4 0 1) (mLw gg (c + 1)) (gg 4 0 2) (gg 18 0) f - mGain (gg 4 0 1) (gg 17 0) (gg 4 0 2) (gg 18 0) f)] (fwUc (fwUc h 42 0 A25_4) 42 0 A31_5) Q
        rw [show (fwUc (fwUc h 42 0 A25_4) 42 0 A31_5) = (fwUc h 42 0 A31_5) from by funext a b; simp only [fwUc]; (repeat' split); all_goals first | rfl | (exfalso; omega)]
        have hgr5 := mGain_r2 J (mLw_hb J (((mWish gg f c).1).toNat)) f (by omega)
        have hgq5 := mGain_r2 J hb17 f (by omega)
        refine w_icmp_le 41 dX12_wishes_34 (by decide) (by omega) (by omega) (fun c34 => ?_) (fun c34 => ?_)
        · refine w_iload_n dX12_wishes_41 rfl ?_
          refine w_istore_n [some (aR 12 0), some (aI (f : Int)), some (aI ((mWish gg f c).1)), some (aI ((c : Int) + 1))] dX12_wishes_42 rfl (by decide) ?_
          refine w_iinc [some (aR 12 0), some (aI (f : Int)), some (aI ((mWish gg f c).1)), some (aI (((c : Int) + 1) + 1))] dX12_wishes_43 rfl rfl (by decide) ?_
          refine w_goto 16 dX12_wishes_46 (by decide) ?_
          refine ih16 (by omega) _ _ _ ?_ ?_
          · exact (by omega)
          · exact (by rw [mWish.eq_2, if_neg (by rw [(mWish_2 gg f c).2]; omega)])
        · refine w_iload_n dX12_wishes_37 rfl ?_
          refine w_goto 42 dX12_wishes_38 (by decide) ?_
          refine w_istore_n [some (aR 12 0), some (aI (f : Int)), some (aI ((c : Int) + 1)), some (aI ((c : Int) + 1))] dX12_wishes_42 rfl (by decide) ?_
          refine w_iinc [some (aR 12 0), some (aI (f : Int)), some (aI ((c : Int) + 1)), some (aI (((c : Int) + 1) + 1))] dX12_wishes_43 rfl rfl (by decide) ?_
          refine w_goto 16 dX12_wishes_46 (by decide) ?_
          refine ih16 (by omega) _ _ _ ?_ ?_
          · exact (by omega)
          · exact (by rw [mWish.eq_2, if_pos (by rw [(mWish_2 gg f c).2]; omega)])
    have z16 := lp16 0 (Nat.zero_le _) _ _ (h 42 0) (by exact (show 1 = ((0 : Nat) : Int) + 1 by omega)) (by exact (show 0 = (mWish gg f 0).1 from rfl))
    rw [fwUc_self] at z16
    exact z16
  · refine w_bipush dX12_wishes_9 rfl ?_
    exact w_iretE dX12_wishes_11 rfl (by unfold an_wishes; first | (rw [if_neg (by omega)]; done) | (rw [if_pos (by omega)]; done) | (rw [if_pos (by omega)]; rfl)) (k _ (scr_rf hsh))
set_option maxRecDepth 100000 in
set_option maxHeartbeats 4000000 in
theorem c_X12_willingSet {d : Nat} {h gg : fwH} {Q : Option fwV → fwH → Prop} (H : Nat → Int) (J : cOk gg) (R : jF gg h) (hH : hiR (gg 4 0 1) (h 42 0) H) (hb : hB H) (hn : 1 ≤ gg 4 0 1) (k : ∀ A, hiR (gg 4 0 1) A H → Q (some (aI (mGers (gg 4 0 1) H (gg 4 0 2) (gg 4 0 4) (gg 18 0) (gg 5 0 3).toNat (-1)))) (fwUc h 42 0 A)) : fwCt mX12_willingSet (d + 5) [aR 12 0] h Q := by
  refine fwCt_of [some (aR 12 0), none, none, none, none] rfl rfl rfl ?_
  obtain ⟨hl, hP, hG, -, -, -, hlw, -, ha, hs, -, hsc⟩ := id J
  obtain ⟨⟨g1, g2⟩, ⟨g3, g4⟩, ⟨g5, g6⟩, g7, -⟩ := id hG
  have hpz := hP.1
  refine w_iconst dX12_willingSet_0 ?_
  refine w_istore_n [some (aR 12 0), some (aI 0), none, none, none] dX12_willingSet_1 rfl (by decide) ?_
  refine w_aload_n dX12_willingSet_2 rfl ?_
  refine w_callV (d := d + 4) (S := []) [] dX12_willingSet_3 ml_X12_200 ok_X12_topCell vi_X12_topCell rfl rfl (by decide) rfl (Nat.le_of_ble_eq_true rfl) ?_
  refine c_X12_topCell (d := (d + 4)) H J R hH hb (show 1 ≤ gg 4 0 1 by omega) ?_
  show fwWP mX12_willingSet (d + 5) 6 [some (aR 12 0), some (aI 0), none, none, none] [aI (mTop H (gg 4 0 4) (gg 4 0 1).toNat)] h Q
  have htp1 := mTop_r2 H (gg 4 0 4) (gg 4 0 1).toNat (by omega)
  refine w_istore_n [some (aR 12 0), some (aI 0), some (aI (mTop H (gg 4 0 4) (gg 4 0 1).toNat)), none, none] dX12_willingSet_6 rfl (by decide) ?_
  have hbt := hb (mTop H (gg 4 0 4) (gg 4 0 1).toNat).toNat (by omega)
  refine w_aload_n dX12_willingSet_7 rfl ?_
  refine w_getr 42 0 dX12_willingSet_8 fl_X12_34 rfl (by decide) ?_
  refine w_iload_n dX12_willingSet_11 rfl ?_
  refine w_ialdE (v := H (mTop H (gg 4 0 4) (gg 4 0 1).toNat).toNat) dX12_willingSet_12 rfl (by decide) (by omega) (by omega) (hH _ (by omega)) ?_
  refine w_if_ne 18 dX12_willingSet_13 (by decide) (by omega) (fun c13 => ?_) (fun c13 => ?_)
  · refine w_iconst dX12_willingSet_18 ?_
    refine w_istore_n [some (aR 12 0), some (aI 0), some (aI (mTop H (gg 4 0 4) (gg 4 0 1).toNat)), some (aI 0), none] dX12_willingSet_19 rfl (by decide) ?_
    have lp20 : ∀ c : Nat, c ≤ (gg 5 0 3).toNat → ∀ (y20 se : Int) (A20 : Nat → Int), y20 = (c : Int) → se = mBits (fun f => decide (mGain (gg 4 0 1) H (gg 4 0 2) (gg 18 0) f < mGain (gg 4 0 1) (fwFu H (mTop H (gg 4 0 4) (gg 4 0 1).toNat).toNat (H (mTop H (gg 4 0 4) (gg 4 0 1).toNat).toNat + -1)) (gg 4 0 2) (gg 18 0) f)) c → hiR (gg 4 0 1) A20 H → fwWP mX12_willingSet (d + 5) 20 [some (aR 12 0), some (aI se), some (aI (mTop H (gg 4 0 4) (gg 4 0 1).toNat)), some (aI y20), none] [] (fwUc h 42 0 A20) Q := by
      refine fw_up (fun c hc20 ih20 => ?_)
      intro y20 se A20 ey20 e_se hA20
      subst ey20
      subst e_se
      show fwWP mX12_willingSet (d + 5) 20 [some (aR 12 0), some (aI (mBits (fun f => decide (mGain (gg 4 0 1) H (gg 4 0 2) (gg 18 0) f < mGain (gg 4 0 1) (fwFu H (mTop H (gg 4 0 4) (gg 4 0 1).toNat).toNat (H (mTop H (gg 4 0 4) (gg 4 0 1).toNat).toNat + -1)) (gg 4 0 2) (gg 18 0) f)) c)), some (aI (mTop H (gg 4 0 4) (gg 4 0 1).toNat)), some (aI (c : Int)), none] [] (fwUc h 42 0 A20) Q
      refine w_iload_n dX12_willingSet_20 rfl ?_
      refine w_aload_n dX12_willingSet_21 rfl ?_
      refine w_getr 36 0 dX12_willingSet_22 fl_X12_9 rfl (by decide) ?_
      refine w_bipush dX12_willingSet_25 rfl ?_
      refine w_ialdE (v := gg 5 0 3) dX12_willingSet_27 rfl (by decide) (by omega) (by omega) R.2.2.2.2.2.2.1 ?_
      refine w_icmp_ge 84 dX12_willingSet_28 (by decide) (by omega) (by omega) (fun c28 => ?_) (fun c28 => ?_)
      · have ec20 : (gg 5 0 3).toNat = c := by omega
        subst ec20
        refine w_iload_n dX12_willingSet_84 rfl ?_
        have k2 := k _ hA20
        rw [mGers, if_neg (by omega)] at k2
        exact w_iret dX12_willingSet_85 rfl k2
      · refine w_aload_n dX12_willingSet_31 rfl ?_
        refine w_iload_n dX12_willingSet_32 rfl ?_
        refine w_callV (d := d + 4) (S := []) [aI (c : Int)] dX12_willingSet_33 ml_X12_232 ok_X12_gainOf vi_X12_gainOf rfl rfl (by decide) rfl (Nat.le_of_ble_eq_true rfl) ?_
        refine c_X12_gainOf (d := d) c H J R hA20 hb (show 1 ≤ gg 4 0 1 by omega) (show (c : Int) < gg 5 0 3 by omega) ?_
        show fwWP mX12_willingSet (d + 5) 36 [some (aR 12 0), some (aI (mBits (fun f => decide (mGain (gg 4 0 1) H (gg 4 0 2) (gg 18 0) f < mGain (gg 4 0 1) (fwFu H (mTop H (gg 4 0 4) (gg 4 0 1).toNat).toNat (H (mTop H (gg 4 0 4) (gg 4 0 1).toNat).toNat + -1)) (gg 4 0 2) (gg 18 0) f)) c)), some (aI (mTop H (gg 4 0 4) (gg 4 0 1).toNat)), some (aI (c : Int)), none] [aI (mGain (gg 4 0 1) H (gg 4 0 2) (gg 18 0) c)] (fwUc h 42 0 A20) Q
        have hgr4 := mGain_r2 J hb c (by omega)
        refine w_istore [some (aR 12 0), some (aI (mBits (fun f => decide (mGain (gg 4 0 1) H (gg 4 0 2) (gg 18 0) f < mGain (gg 4 0 1) (fwFu H (mTop H (gg 4 0 4) (gg 4 0 1).toNat).toNat (H (mTop H (gg 4 0 4) (gg 4 0 1).toNat).toNat + -1)) (gg 4 0 2) (gg 18 0) f)) c)), some (aI (mTop H (gg 4 0 4) (gg 4 0 1).toNat)), some (aI (c : Int)), some (aI (mGain (gg 4 0 1) H (gg 4 0 2) (gg 18 0) c))] dX12_willingSet_36 rfl (by decide) ?_
        refine w_aload_n dX12_willingSet_38 rfl ?_
        refine w_getr 42 0 dX12_willingSet_39 fl_X12_34 rfl (by decide) ?_
        refine w_iload_n dX12_willingSet_42 rfl ?_
        refine w_dup2 dX12_willingSet_43 rfl rfl ?_
        refine w_ialdE (v := H (mTop H (gg 4 0 4) (gg 4 0 1).toNat).toNat) dX12_willingSet_44 rfl (by decide) (by omega) (by omega) (hA20 _ (by omega)) ?_
        refine w_iconst dX12_willingSet_45 ?_
        refine w_isub dX12_willingSet_46 ?_
        refine w_iast dX12_willingSet_47 rfl (by decide) (by omega) (by omega) ?_
        rw [show (fwUp (fwUc h 42 0 A20) 42 0 (mTop H (gg 4 0 4) (gg 4 0 1).toNat).toNat ((H (mTop H (gg 4 0 4) (gg 4 0 1).toNat).toNat) - 1)) = (fwUc h 42 0 (fwFu A20 (mTop H (gg 4 0 4) (gg 4 0 1).toNat).toNat ((H (mTop H (gg 4 0 4) (gg 4 0 1).toNat).toNat) - 1))) from by rw [fwUp_fu]; rw [fwUc_uc]; rfl]
        have hA47 := hiR_fu hA20 (mTop H (gg 4 0 4) (gg 4 0 1).toNat).toNat ((H (mTop H (gg 4 0 4) (gg 4 0 1).toNat).toNat) - 1)
        have hb47 : hB (fwFu H (mTop H (gg 4 0 4) (gg 4 0 1).toNat).toNat ((H (mTop H (gg 4 0 4) (gg 4 0 1).toNat).toNat) - 1)) := hB_fu hb (by omega)
        refine w_iload_n dX12_willingSet_48 rfl ?_
        refine w_aload_n dX12_willingSet_49 rfl ?_
        refine w_iload_n dX12_willingSet_50 rfl ?_
        refine w_callV (d := d + 4) (S := [aI (mBits (fun f => decide (mGain (gg 4 0 1) H (gg 4 0 2) (gg 18 0) f < mGain (gg 4 0 1) (fwFu H (mTop H (gg 4 0 4) (gg 4 0 1).toNat).toNat (H (mTop H (gg 4 0 4) (gg 4 0 1).toNat).toNat + -1)) (gg 4 0 2) (gg 18 0) f)) c)]) [aI (c : Int)] dX12_willingSet_51 ml_X12_232 ok_X12_gainOf vi_X12_gainOf rfl rfl (by decide) rfl (Nat.le_of_ble_eq_true rfl) ?_
        refine c_X12_gainOf (d := d) c (fwFu H (mTop H (gg 4 0 4) (gg 4 0 1).toNat).toNat ((H (mTop H (gg 4 0 4) (gg 4 0 1).toNat).toNat) - 1)) J R hA47 hb47 (show 1 ≤ gg 4 0 1 by omega) (show (c : Int) < gg 5 0 3 by omega) ?_
        show fwWP mX12_willingSet (d + 5) 54 [some (aR 12 0), some (aI (mBits (fun f => decide (mGain (gg 4 0 1) H (gg 4 0 2) (gg 18 0) f < mGain (gg 4 0 1) (fwFu H (mTop H (gg 4 0 4) (gg 4 0 1).toNat).toNat (H (mTop H (gg 4 0 4) (gg 4 0 1).toNat).toNat + -1)) (gg 4 0 2) (gg 18 0) f)) c)), some (aI (mTop H (gg 4 0 4) (gg 4 0 1).toNat)), some (aI (c : Int)), some (aI (mGain (gg 4 0 1) H (gg 4 0 2) (gg 18 0) c))] [aI (mGain (gg 4 0 1) (fwFu H (mTop H (gg 4 0 4) (gg 4 0 1).toNat).toNat ((H (mTop H (gg 4 0 4) (gg 4 0 1).toNat).toNat) - 1)) (gg 4 0 2) (gg 18 0) c), aI (mBits (fun f => decide (mGain (gg 4 0 1) H (gg 4 0 2) (gg 18 0) f < mGain (gg 4 0 1) (fwFu H (mTop H (gg 4 0 4) (gg 4 0 1).toNat).toNat (H (mTop H (gg 4 0 4) (gg 4 0 1).toNat).toNat + -1)) (gg 4 0 2) (gg 18 0) f)) c)] (fwUc h 42 0 (fwFu A20 (mTop H (gg 4 0 4) (gg 4 0 1).toNat).toNat ((H (mTop H (gg 4 0 4) (gg 4 0 1).toNat).toNat) - 1))) Q
        have hgr5 := mGain_r2 J hb47 c (by omega)
        refine w_iload dX12_willingSet_54 rfl ?_
        refine w_icmp_le 65 dX12_willingSet_56 (by decide) (by omega) (by omega) (fun c56 => ?_) (fun c56 => ?_)
        · refine w_iconst dX12_willingSet_65 ?_
          refine w_ior dX12_willingSet_66 ?_
          refine w_istore_n [some (aR 12 0), some (aI (fwOr (mBits (fun f => decide (mGain (gg 4 0 1) H (gg 4 0 2) (gg 18 0) f < mGain (gg 4 0 1) (fwFu H (mTop H (gg 4 0 4) (gg 4 0 1).toNat).toNat (H (mTop H (gg 4 0 4) (gg 4 0 1).toNat).toNat + -1)) (gg 4 0 2) (gg 18 0) f)) c) 0)), some (aI (mTop H (gg 4 0 4) (gg 4 0 1).toNat)), some (aI (c : Int)), some (aI (mGain (gg 4 0 1) H (gg 4 0 2) (gg 18 0) c))] dX12_willingSet_67 rfl (by decide) ?_
          refine w_aload_n dX12_willingSet_68 rfl ?_
          refine w_getr 42 0 dX12_willingSet_69 fl_X12_34 rfl (by decide) ?_
          refine w_iload_n dX12_willingSet_72 rfl ?_
          refine w_dup2 dX12_willingSet_73 rfl rfl ?_
          refine w_ialdE (v := (fwFu H (mTop H (gg 4 0 4) (gg 4 0 1).toNat).toNat ((H (mTop H (gg 4 0 4) (gg 4 0 1).toNat).toNat) - 1)) (mTop H (gg 4 0 4) (gg 4 0 1).toNat).toNat) dX12_willingSet_74 rfl (by decide) (by omega) (by omega) (hA47 _ (by omega)) ?_
          refine w_iconst dX12_willingSet_75 ?_
          refine w_iadd dX12_willingSet_76 ?_
          refine w_iast dX12_willingSet_77 rfl (by decide) (by omega) (by omega) ?_
          rw [show (fwUp (fwUc h 42 0 (fwFu A20 (mTop H (gg 4 0 4) (gg 4 0 1).toNat).toNat ((H (mTop H (gg 4 0 4) (gg 4 0 1).toNat).toNat) - 1))) 42 0 (mTop H (gg 4 0 4) (gg 4 0 1).toNat).toNat (((fwFu H (mTop H (gg 4 0 4) (gg 4 0 1).toNat).toNat ((H (mTop H (gg 4 0 4) (gg 4 0 1).toNat).toNat) - 1)) (mTop H (gg 4 0 4) (gg 4 0 1).toNat).toNat) + 1)) = (fwUc h 42 0 (fwFu (fwFu A20 (mTop H (gg 4 0 4) (gg 4 0 1).toNat).toNat ((H (mTop H (gg 4 0 4) (gg 4 0 1).toNat).toNat) - 1)) (mTop H (gg 4 0 4) (gg 4 0 1).toNat).toNat (((fwFu H (mTop H (gg 4 0 4) (gg 4 0 1).toNat).toNat ((H (mTop H (gg 4 0 4) (gg 4 0 1).toNat).toNat) - 1)) (mTop H (gg 4 0 4) (gg 4 0 1).toNat).toNat) + 1))) from by rw [fwUp_fu]; rw [fwUc_uc]; rfl]
          have hA77 := hiR_fu hA47 (mTop H (gg 4 0 4) (gg 4 0 1).toNat).toNat (((fwFu H (mTop H (gg 4 0 4) (gg 4 0 1).toNat).toNat ((H (mTop H (gg 4 0 4) (gg 4 0 1).toNat).toNat) - 1)) (mTop H (gg 4 0 4) (gg 4 0 1).toNat).toNat) + 1)
          rw [fwFu_mp] at hA77
          refine w_iinc [some (aR 12 0), some (aI (fwOr (mBits (fun f => decide (mGain (gg 4 0 1) H (gg 4 0 2) (gg 18 0) f < mGain (gg 4 0 1) (fwFu H (mTop H (gg 4 0 4) (gg 4 0 1).toNat).toNat (H (mTop H (gg 4 0 4) (gg 4 0 1).toNat).toNat + -1)) (gg 4 0 2) (gg 18 0) f)) c) 0)), some (aI (mTop H (gg 4 0 4) (gg 4 0 1).toNat)), some (aI ((c : Int) + 1)), some (aI (mGain (gg 4 0 1) H (gg 4 0 2) (gg 18 0) c))] dX12_willingSet_78 rfl rfl (by decide) ?_
          refine w_goto 20 dX12_willingSet_81 (by decide) ?_
          refine w_drop [4] [some (aR 12 0), some (aI (fwOr (mBits (fun f => decide (mGain (gg 4 0 1) H (gg 4 0 2) (gg 18 0) f < mGain (gg 4 0 1) (fwFu H (mTop H (gg 4 0 4) (gg 4 0 1).toNat).toNat (H (mTop H (gg 4 0 4) (gg 4 0 1).toNat).toNat + -1)) (gg 4 0 2) (gg 18 0) f)) c) 0)), some (aI (mTop H (gg 4 0 4) (gg 4 0 1).toNat)), some (aI ((c : Int) + 1)), none] rfl ?_
          refine ih20 (by omega) _ _ _ ?_ ?_ ?_
          · exact (by omega)
          · exact (by rw [mBits, if_neg (by rw [decide_eq_true_eq, ← Int.sub_eq_add_neg]; omega), fwOr_0 (mBits_rng _ _)])
          · exact hA77
        · refine w_iconst dX12_willingSet_59 ?_
          refine w_iload_n dX12_willingSet_60 rfl ?_
          refine w_ishl dX12_willingSet_61 ?_
          refine w_goto 66 dX12_willingSet_62 (by decide) ?_
          refine w_ior dX12_willingSet_66 ?_
          refine w_istore_n [some (aR 12 0), some (aI (fwOr (mBits (fun f => decide (mGain (gg 4 0 1) H (gg 4 0 2) (gg 18 0) f < mGain (gg 4 0 1) (fwFu H (mTop H (gg 4 0 4) (gg 4 0 1).toNat).toNat (H (mTop H (gg 4 0 4) (gg 4 0 1).toNat).toNat + -1)) (gg 4 0 2) (gg 18 0) f)) c) (fwShl 1 (c : Int)))), some (aI (mTop H (gg 4 0 4) (gg 4 0 1).toNat)), some (aI (c : Int)), some (aI (mGain (gg 4 0 1) H (gg 4 0 2) (gg 18 0) c))] dX12_willingSet_67 rfl (by decide) ?_
          refine w_aload_n dX12_willingSet_68 rfl ?_
          refine w_getr 42 0 dX12_willingSet_69 fl_X12_34 rfl (by decide) ?_
          refine w_iload_n dX12_willingSet_72 rfl ?_
          refine w_dup2 dX12_willingSet_73 rfl rfl ?_
          refine w_ialdE (v := (fwFu H (mTop H (gg 4 0 4) (gg 4 0 1).toNat).toNat ((H (mTop H (gg 4 0 4) (gg 4 0 1).toNat).toNat) - 1)) (mTop H (gg 4 0 4) (gg 4 0 1).toNat).toNat) dX12_willingSet_74 rfl (by decide) (by omega) (by omega) (hA47 _ (by omega)) ?_
          refine w_iconst dX12_willingSet_75 ?_
          refine w_iadd dX12_willingSet_76 ?_
          refine w_iast dX12_willingSet_77 rfl (by decide) (by omega) (by omega) ?_
          rw [show (fwUp (fwUc h 42 0 (fwFu A20 (mTop H (gg 4 0 4) (gg 4 0 1).toNat).toNat ((H (mTop H (gg 4 0 4) (gg 4 0 1).toNat).toNat) - 1))) 42 0 (mTop H (gg 4 0 4) (gg 4 0 1).toNat).toNat (((fwFu H (mTop H (gg 4 0 4) (gg 4 0 1).toNat).toNat ((H (mTop H (gg 4 0 4) (gg 4 0 1).toNat).toNat) - 1)) (mTop H (gg 4 0 4) (gg 4 0 1).toNat).toNat) + 1)) = (fwUc h 42 0 (fwFu (fwFu A20 (mTop H (gg 4 0 4) (gg 4 0 1).toNat).toNat ((H (mTop H (gg 4 0 4) (gg 4 0 1).toNat).toNat) - 1)) (mTop H (gg 4 0 4) (gg 4 0 1).toNat).toNat (((fwFu H (mTop H (gg 4 0 4) (gg 4 0 1).toNat).toNat ((H (mTop H (gg 4 0 4) (gg 4 0 1).toNat).toNat) - 1)) (mTop H (gg 4 0 4) (gg 4 0 1).toNat).toNat) + 1))) from by rw [fwUp_fu]; rw [fwUc_uc]; rfl]
          have hA77 := hiR_fu hA47 (mTop H (gg 4 0 4) (gg 4 0 1).toNat).toNat (((fwFu H (mTop H (gg 4 0 4) (gg 4 0 1).toNat).toNat ((H (mTop H (gg 4 0 4) (gg 4 0 1).toNat).toNat) - 1)) (mTop H (gg 4 0 4) (gg 4 0 1).toNat).toNat) + 1)
          rw [fwFu_mp] at hA77
          refine w_iinc [some (aR 12 0), some (aI (fwOr (mBits (fun f => decide (mGain (gg 4 0 1) H (gg 4 0 2) (gg 18 0) f < mGain (gg 4 0 1) (fwFu H (mTop H (gg 4 0 4) (gg 4 0 1).toNat).toNat (H (mTop H (gg 4 0 4) (gg 4 0 1).toNat).toNat + -1)) (gg 4 0 2) (gg 18 0) f)) c) (fwShl 1 (c : Int)))), some (aI (mTop H (gg 4 0 4) (gg 4 0 1).toNat)), some (aI ((c : Int) + 1)), some (aI (mGain (gg 4 0 1) H (gg 4 0 2) (gg 18 0) c))] dX12_willingSet_78 rfl rfl (by decide) ?_
          refine w_goto 20 dX12_willingSet_81 (by decide) ?_
          refine w_drop [4] [some (aR 12 0), some (aI (fwOr (mBits (fun f => decide (mGain (gg 4 0 1) H (gg 4 0 2) (gg 18 0) f < mGain (gg 4 0 1) (fwFu H (mTop H (gg 4 0 4) (gg 4 0 1).toNat).toNat (H (mTop H (gg 4 0 4) (gg 4 0 1).toNat).toNat + -1)) (gg 4 0 2) (gg 18 0) f)) c) (fwShl 1 (c : Int)))), some (aI (mTop H (gg 4 0 4) (gg 4 0 1).toNat)), some (aI ((c : Int) + 1)), none] rfl ?_
          refine ih20 (by omega) _ _ _ ?_ ?_ ?_
          · exact (by omega)
          · exact (by rw [mBits, if_pos (decide_eq_true (by rw [← Int.sub_eq_add_neg]; omega))])
          · exact hA77
    have z20 := lp20 0 (Nat.zero_le _) _ _ (h 42 0) (by exact (show 0 = ((0 : Nat) : Int) by omega)) (by exact (show 0 = mBits (fun f => decide (mGain (gg 4 0 1) H (gg 4 0 2) (gg 18 0) f < mGain (gg 4 0 1) (fwFu H (mTop H (gg 4 0 4) (gg 4 0 1).toNat).toNat (H (mTop H (gg 4 0 4) (gg 4 0 1).toNat).toNat + -1)) (gg 4 0 2) (gg 18 0) f)) 0 from rfl)) hH
    rw [fwUc_self] at z20
    exact z20
  · refine w_iconst dX12_willingSet_16 ?_
    have k2 := k (h 42 0) hH
    rw [fwUc_self, mGers, if_pos (by omega)] at k2
    exact w_iret dX12_willingSet_17 rfl k2
theorem mGers_r (n : Int) (H : Nat → Int) (sl ls : Int) (F : Nat → Int) {m : Nat} (y : Int) (hn : m ≤ 8) : 0 ≤ mGers n H sl ls F m y ∧ mGers n H sl ls F m y < 1024 := by
  unfold mGers
  split
  · omega
  · exact mBits_10 (by omega)
set_option maxRecDepth 100000 in
set_option maxHeartbeats 4000000 in
theorem c_X12_willing {d : Nat} {h gg : fwH} {Q : Option fwV → fwH → Prop}  (J : cOk gg) (R : jF gg h) (K : jA gg h) (hsh : sc h)  (k : ∀ g, scr h g → Q (some (aI (an_willing gg ))) g) : fwCt mX12_willing (d + 6) [aR 12 0] h Q := by
  refine fwCt_of [some (aR 12 0)] rfl rfl rfl ?_
  obtain ⟨hl, hP, hG, hM0, htd, hut, hlw, hhc, ha, hs, hT, hsc⟩ := id J
  have hb17 : hB (gg 17 0) := fun c hc => by have := hM0 c hc; omega
  obtain ⟨⟨g1, g2⟩, ⟨g3, g4⟩, ⟨g5, g6⟩, g7, -⟩ := id hG
  have h17_99 : ∀ c : Nat, (c : Int) < gg 4 0 1 → gg 17 0 c ≤ 99 := fun c hc => (hM0 c (by omega)).2
  have hpz := hP.1
  have hrs1 := R.2.2.2.2.2.2.2.2.2.2.2
  refine w_aload_n dX12_willing_0 rfl ?_
  refine w_callV (d := d + 5) (S := []) [] dX12_willing_1 ml_X12_73 ok_X12_isMount vi_X12_isMount rfl rfl (by decide) rfl (Nat.le_of_ble_eq_true rfl) ?_
  refine c_X12_isMount (d := (d + 5)) J R ?_
  show fwWP mX12_willing (d + 6) 4 [some (aR 12 0)] [aI (fwB (0 < gg 3 0 6))] h Q
  refine w_ifB_ne 10 dX12_willing_4 (by decide) (fun c4 => ?_) (fun c4 => ?_)
  · refine w_aload_n dX12_willing_10 rfl ?_
    refine w_callV (d := d + 5) (S := []) [] dX12_willing_11 ml_X12_240 ok_X12_asItIs vi_X12_asItIs rfl rfl (by decide) rfl (Nat.le_of_ble_eq_true rfl) ?_
    refine c_X12_asItIs (d := d) J R K (show 1 ≤ gg 4 0 1 by omega) (show 1 ≤ gg 4 0 3 by omega) ?_
    intro A11_2 hA11_2
    show fwWP mX12_willing (d + 6) 14 [some (aR 12 0)] [] (fwUc h 42 0 A11_2) Q
    refine w_aload_n dX12_willing_14 rfl ?_
    refine w_callV (d := d + 5) (S := []) [] dX12_willing_15 ml_X12_263 ok_X12_willingSet vi_X12_willingSet rfl rfl (by decide) rfl (Nat.le_of_ble_eq_true rfl) ?_
    refine c_X12_willingSet (d := d) (gg 17 0) J R hA11_2 hb17 (show 1 ≤ gg 4 0 1 by omega) ?_
    intro A15_3 hA15_3
    show fwWP mX12_willing (d + 6) 18 [some (aR 12 0)] [aI (mGers (gg 4 0 1) (gg 17 0) (gg 4 0 2) (gg 4 0 4) (gg 18 0) (gg 5 0 3).toNat (-1))] (fwUc (fwUc h 42 0 A11_2) 42 0 A15_3) Q
    rw [show (fwUc (fwUc h 42 0 A11_2) 42 0 A15_3) = (fwUc h 42 0 A15_3) from by funext a b; simp only [fwUc]; (repeat' split); all_goals first | rfl | (exfalso; omega)]
    have hwr3 := mGers_r (gg 4 0 1) (gg 17 0) (gg 4 0 2) (gg 4 0 4) (gg 18 0) (m := (gg 5 0 3).toNat) (-1) (by omega)
    exact w_iretE dX12_willing_18 rfl (by unfold an_willing; first | (rw [if_pos (by omega)]; done) | (rw [if_neg (by omega)]; done) | (rw [if_pos (by omega)]; rfl) | (rw [if_neg (by omega)]; rfl)) (k _ (scr_uc (scr_rf hsh) rfl (by decide) (by decide) (by decide)))
  · refine w_bipush dX12_willing_7 rfl ?_
    exact w_iretE dX12_willing_9 rfl (by unfold an_willing; first | (rw [if_pos (by omega)]; done) | (rw [if_neg (by omega)]; done) | (rw [if_pos (by omega)]; rfl) | (rw [if_neg (by omega)]; rfl)) (k _ (scr_rf hsh))
end
section
set_option maxRecDepth 100000 in
set_option maxHeartbeats 4000000 in
theorem c_X12_raisers {d : Nat} {h gg : fwH} {Q : Option fwV → fwH → Prop}  (J : cOk gg) (R : jF gg h) (K : jA gg h) (hsh : sc h)  (k : ∀ g, scr h g → Q (some (aI (an_raisers gg ))) g) : fwCt mX12_raisers (d + 6) [aR 12 0] h Q := by
  refine fwCt_of [some (aR 12 0), none, none, none, none] rfl rfl rfl ?_
  obtain ⟨hl, hP, hG, hM0, htd, hut, hlw, hhc, ha, hs, hT, hsc⟩ := id J
  have hb17 : hB (gg 17 0) := fun c hc => by have := hM0 c hc; omega
  obtain ⟨⟨g1, g2⟩, ⟨g3, g4⟩, ⟨g5, g6⟩, g7, -⟩ := id hG
  have h17_99 : ∀ c : Nat, (c : Int) < gg 4 0 1 → gg 17 0 c ≤ 99 := fun c hc => (hM0 c (by omega)).2
  have hpz := hP.1
  have hrs1 := R.2.2.2.2.2.2.2.2.2.2.2
  refine w_aload_n dX12_raisers_0 rfl ?_
  refine w_callV (d := d + 5) (S := []) [] dX12_raisers_1 ml_X12_73 ok_X12_isMount vi_X12_isMount rfl rfl (by decide) rfl (Nat.le_of_ble_eq_true rfl) ?_
  refine c_X12_isMount (d := (d + 5)) J R ?_
  show fwWP mX12_raisers (d + 6) 4 [some (aR 12 0), none, none, none, none] [aI (fwB (0 < gg 3 0 6))] h Q
  refine w_ifB_ne 10 dX12_raisers_4 (by decide) (fun c4 => ?_) (fun c4 => ?_)
  · refine w_aload_n dX12_raisers_10 rfl ?_
    refine w_callV (d := d + 5) (S := []) [] dX12_raisers_11 ml_X12_240 ok_X12_asItIs vi_X12_asItIs rfl rfl (by decide) rfl (Nat.le_of_ble_eq_true rfl) ?_
    refine c_X12_asItIs (d := d) J R K (show 1 ≤ gg 4 0 1 by omega) (show 1 ≤ gg 4 0 3 by omega) ?_
    intro A11_2 hA11_2
    show fwWP mX12_raisers (d + 6) 14 [some (aR 12 0), none, none, none, none] [] (fwUc h 42 0 A11_2) Q
    refine w_aload_n dX12_raisers_14 rfl ?_
    refine w_callV (d := d + 5) (S := []) [] dX12_raisers_15 ml_X12_200 ok_X12_topCell vi_X12_topCell rfl rfl (by decide) rfl (Nat.le_of_ble_eq_true rfl) ?_
    refine c_X12_topCell (d := (d + 5)) (gg 17 0) J R hA11_2 hb17 (show 1 ≤ gg 4 0 1 by omega) ?_
    show fwWP mX12_raisers (d + 6) 18 [some (aR 12 0), none, none, none, none] [aI (mTop (gg 17 0) (gg 4 0 4) (gg 4 0 1).toNat)] (fwUc h 42 0 A11_2) Q
    have htp3 := mTop_r2 (gg 17 0) (gg 4 0 4) (gg 4 0 1).toNat (by omega)
    refine w_istore_n [some (aR 12 0), some (aI (mTop (gg 17 0) (gg 4 0 4) (gg 4 0 1).toNat)), none, none, none] dX12_raisers_18 rfl (by decide) ?_
    have hbt := hM0 (mTop (gg 17 0) (gg 4 0 4) (gg 4 0 1).toNat).toNat (by omega)
    refine w_iconst dX12_raisers_19 ?_
    refine w_istore_n [some (aR 12 0), some (aI (mTop (gg 17 0) (gg 4 0 4) (gg 4 0 1).toNat)), some (aI 0), none, none] dX12_raisers_20 rfl (by decide) ?_
    refine w_iconst dX12_raisers_21 ?_
    refine w_istore_n [some (aR 12 0), some (aI (mTop (gg 17 0) (gg 4 0 4) (gg 4 0 1).toNat)), some (aI 0), some (aI 0), none] dX12_raisers_22 rfl (by decide) ?_
    have lp23 : ∀ c : Nat, c ≤ (gg 5 0 3).toNat → ∀ (y23 se : Int) (A23 : Nat → Int), y23 = (c : Int) → se = mBits (fun f => decide (mGain (gg 4 0 1) (gg 17 0) (gg 4 0 2) (gg 18 0) f < mGain (gg 4 0 1) (fwFu (gg 17 0) (mTop (gg 17 0) (gg 4 0 4) (gg 4 0 1).toNat).toNat (gg 17 0 (mTop (gg 17 0) (gg 4 0 4) (gg 4 0 1).toNat).toNat + 1)) (gg 4 0 2) (gg 18 0) f)) c → hiR (gg 4 0 1) A23 (gg 17 0) → fwWP mX12_raisers (d + 6) 23 [some (aR 12 0), some (aI (mTop (gg 17 0) (gg 4 0 4) (gg 4 0 1).toNat)), some (aI se), some (aI y23), none] [] (fwUc h 42 0 A23) Q := by
      refine fw_up (fun c hc23 ih23 => ?_)
      intro y23 se A23 ey23 e_se hA23
      subst ey23
      subst e_se
      show fwWP mX12_raisers (d + 6) 23 [some (aR 12 0), some (aI (mTop (gg 17 0) (gg 4 0 4) (gg 4 0 1).toNat)), some (aI (mBits (fun f => decide (mGain (gg 4 0 1) (gg 17 0) (gg 4 0 2) (gg 18 0) f < mGain (gg 4 0 1) (fwFu (gg 17 0) (mTop (gg 17 0) (gg 4 0 4) (gg 4 0 1).toNat).toNat (gg 17 0 (mTop (gg 17 0) (gg 4 0 4) (gg 4 0 1).toNat).toNat + 1)) (gg 4 0 2) (gg 18 0) f)) c)), some (aI (c : Int)), none] [] (fwUc h 42 0 A23) Q
      refine w_iload_n dX12_raisers_23 rfl ?_
      refine w_aload_n dX12_raisers_24 rfl ?_
      refine w_getr 36 0 dX12_raisers_25 fl_X12_9 rfl (by decide) ?_
      refine w_bipush dX12_raisers_28 rfl ?_
      refine w_ialdE (v := gg 5 0 3) dX12_raisers_30 rfl (by decide) (by omega) (by omega) R.2.2.2.2.2.2.1 ?_
      refine w_icmp_ge 87 dX12_raisers_31 (by decide) (by omega) (by omega) (fun c31 => ?_) (fun c31 => ?_)
      · have ec23 : (gg 5 0 3).toNat = c := by omega
        subst ec23
        refine w_iload_n dX12_raisers_87 rfl ?_
        exact w_iretE dX12_raisers_88 rfl (by unfold an_raisers; first | (rw [if_neg (by omega)]; done) | (rw [if_pos (by omega), mGers, if_neg (by omega)]; done) | (rw [if_pos (by omega), mGers, if_neg (by have := hM0 (mTop (gg 17 0) (gg 4 0 4) (gg 4 0 1).toNat).toNat (by omega); omega)]; done)) (k _ (scr_uc (scr_rf hsh) rfl (by decide) (by decide) (by decide)))
      · refine w_aload_n dX12_raisers_34 rfl ?_
        refine w_iload_n dX12_raisers_35 rfl ?_
        refine w_callV (d := d + 5) (S := []) [aI (c : Int)] dX12_raisers_36 ml_X12_232 ok_X12_gainOf vi_X12_gainOf rfl rfl (by decide) rfl (Nat.le_of_ble_eq_true rfl) ?_
        refine c_X12_gainOf (d := (d + 1)) c (gg 17 0) J R hA23 hb17 (show 1 ≤ gg 4 0 1 by omega) (show (c : Int) < gg 5 0 3 by omega) ?_
        show fwWP mX12_raisers (d + 6) 39 [some (aR 12 0), some (aI (mTop (gg 17 0) (gg 4 0 4) (gg 4 0 1).toNat)), some (aI (mBits (fun f => decide (mGain (gg 4 0 1) (gg 17 0) (gg 4 0 2) (gg 18 0) f < mGain (gg 4 0 1) (fwFu (gg 17 0) (mTop (gg 17 0) (gg 4 0 4) (gg 4 0 1).toNat).toNat (gg 17 0 (mTop (gg 17 0) (gg 4 0 4) (gg 4 0 1).toNat).toNat + 1)) (gg 4 0 2) (gg 18 0) f)) c)), some (aI (c : Int)), none] [aI (mGain (gg 4 0 1) (gg 17 0) (gg 4 0 2) (gg 18 0) c)] (fwUc h 42 0 A23) Q
        have hgr5 := mGain_r2 J hb17 c (by omega)
        refine w_istore [some (aR 12 0), some (aI (mTop (gg 17 0) (gg 4 0 4) (gg 4 0 1).toNat)), some (aI (mBits (fun f => decide (mGain (gg 4 0 1) (gg 17 0) (gg 4 0 2) (gg 18 0) f < mGain (gg 4 0 1) (fwFu (gg 17 0) (mTop (gg 17 0) (gg 4 0 4) (gg 4 0 1).toNat).toNat (gg 17 0 (mTop (gg 17 0) (gg 4 0 4) (gg 4 0 1).toNat).toNat + 1)) (gg 4 0 2) (gg 18 0) f)) c)), some (aI (c : Int)), some (aI (mGain (gg 4 0 1) (gg 17 0) (gg 4 0 2) (gg 18 0) c))] dX12_raisers_39 rfl (by decide) ?_
        refine w_aload_n dX12_raisers_41 rfl ?_
        refine w_getr 42 0 dX12_raisers_42 fl_X12_34 rfl (by decide) ?_
        refine w_iload_n dX12_raisers_45 rfl ?_
        refine w_dup2 dX12_raisers_46 rfl rfl ?_
        refine w_ialdE (v := (gg 17 0) (mTop (gg 17 0) (gg 4 0 4) (gg 4 0 1).toNat).toNat) dX12_raisers_47 rfl (by decide) (by omega) (by omega) (hA23 _ (by omega)) ?_
        refine w_iconst dX12_raisers_48 ?_
        refine w_iadd dX12_raisers_49 ?_
        refine w_iast dX12_raisers_50 rfl (by decide) (by omega) (by omega) ?_
        rw [show (fwUp (fwUc h 42 0 A23) 42 0 (mTop (gg 17 0) (gg 4 0 4) (gg 4 0 1).toNat).toNat (((gg 17 0) (mTop (gg 17 0) (gg 4 0 4) (gg 4 0 1).toNat).toNat) + 1)) = (fwUc h 42 0 (fwFu A23 (mTop (gg 17 0) (gg 4 0 4) (gg 4 0 1).toNat).toNat (((gg 17 0) (mTop (gg 17 0) (gg 4 0 4) (gg 4 0 1).toNat).toNat) + 1))) from by rw [fwUp_fu]; rw [fwUc_uc]; rfl]
        have hA50 := hiR_fu hA23 (mTop (gg 17 0) (gg 4 0 4) (gg 4 0 1).toNat).toNat (((gg 17 0) (mTop (gg 17 0) (gg 4 0 4) (gg 4 0 1).toNat).toNat) + 1)
        have hb50 : hB (fwFu (gg 17 0) (mTop (gg 17 0) (gg 4 0 4) (gg 4 0 1).toNat).toNat (((gg 17 0) (mTop (gg 17 0) (gg 4 0 4) (gg 4 0 1).toNat).toNat) + 1)) := hB_fu hb17 (by omega)
        refine w_iload_n dX12_raisers_51 rfl ?_
        refine w_aload_n dX12_raisers_52 rfl ?_
        refine w_iload_n dX12_raisers_53 rfl ?_
        refine w_callV (d := d + 5) (S := [aI (mBits (fun f => decide (mGain (gg 4 0 1) (gg 17 0) (gg 4 0 2) (gg 18 0) f < mGain (gg 4 0 1) (fwFu (gg 17 0) (mTop (gg 17 0) (gg 4 0 4) (gg 4 0 1).toNat).toNat (gg 17 0 (mTop (gg 17 0) (gg 4 0 4) (gg 4 0 1).toNat).toNat + 1)) (gg 4 0 2) (gg 18 0) f)) c)]) [aI (c : Int)] dX12_raisers_54 ml_X12_232 ok_X12_gainOf vi_X12_gainOf rfl rfl (by decide) rfl (Nat.le_of_ble_eq_true rfl) ?_
        refine c_X12_gainOf (d := (d + 1)) c (fwFu (gg 17 0) (mTop (gg 17 0) (gg 4 0 4) (gg 4 0 1).toNat).toNat (((gg 17 0) (mTop (gg 17 0) (gg 4 0 4) (gg 4 0 1).toNat).toNat) + 1)) J R hA50 hb50 (show 1 ≤ gg 4 0 1 by omega) (show (c : Int) < gg 5 0 3 by omega) ?_
        show fwWP mX12_raisers (d + 6) 57 [some (aR 12 0), some (aI (mTop (gg 17 0) (gg 4 0 4) (gg 4 0 1).toNat)), some (aI (mBits (fun f => decide (mGain (gg 4 0 1) (gg 17 0) (gg 4 0 2) (gg 18 0) f < mGain (gg 4 0 1) (fwFu (gg 17 0) (mTop (gg 17 0) (gg 4 0 4) (gg 4 0 1).toNat).toNat (gg 17 0 (mTop (gg 17 0) (gg 4 0 4) (gg 4 0 1).toNat).toNat + 1)) (gg 4 0 2) (gg 18 0) f)) c)), some (aI (c : Int)), some (aI (mGain (gg 4 0 1) (gg 17 0) (gg 4 0 2) (gg 18 0) c))] [aI (mGain (gg 4 0 1) (fwFu (gg 17 0) (mTop (gg 17 0) (gg 4 0 4) (gg 4 0 1).toNat).toNat (((gg 17 0) (mTop (gg 17 0) (gg 4 0 4) (gg 4 0 1).toNat).toNat) + 1)) (gg 4 0 2) (gg 18 0) c), aI (mBits (fun f => decide (mGain (gg 4 0 1) (gg 17 0) (gg 4 0 2) (gg 18 0) f < mGain (gg 4 0 1) (fwFu (gg 17 0) (mTop (gg 17 0) (gg 4 0 4) (gg 4 0 1).toNat).toNat (gg 17 0 (mTop (gg 17 0) (gg 4 0 4) (gg 4 0 1).toNat).toNat + 1)) (gg 4 0 2) (gg 18 0) f)) c)] (fwUc h 42 0 (fwFu A23 (mTop (gg 17 0) (gg 4 0 4) (gg 4 0 1).toNat).toNat (((gg 17 0) (mTop (gg 17 0) (gg 4 0 4) (gg 4 0 1).toNat).toNat) + 1))) Q
        have hgr6 := mGain_r2 J hb50 c (by omega)
        refine w_iload dX12_raisers_57 rfl ?_
        refine w_icmp_le 68 dX12_raisers_59 (by decide) (by omega) (by omega) (fun c59 => ?_) (fun c59 => ?_)
        · refine w_iconst dX12_raisers_68 ?_
          refine w_ior dX12_raisers_69 ?_
          refine w_istore_n [some (aR 12 0), some (aI (mTop (gg 17 0) (gg 4 0 4) (gg 4 0 1).toNat)), some (aI (fwOr (mBits (fun f => decide (mGain (gg 4 0 1) (gg 17 0) (gg 4 0 2) (gg 18 0) f < mGain (gg 4 0 1) (fwFu (gg 17 0) (mTop (gg 17 0) (gg 4 0 4) (gg 4 0 1).toNat).toNat (gg 17 0 (mTop (gg 17 0) (gg 4 0 4) (gg 4 0 1).toNat).toNat + 1)) (gg 4 0 2) (gg 18 0) f)) c) 0)), some (aI (c : Int)), some (aI (mGain (gg 4 0 1) (gg 17 0) (gg 4 0 2) (gg 18 0) c))] dX12_raisers_70 rfl (by decide) ?_
          refine w_aload_n dX12_raisers_71 rfl ?_
          refine w_getr 42 0 dX12_raisers_72 fl_X12_34 rfl (by decide) ?_
          refine w_iload_n dX12_raisers_75 rfl ?_
          refine w_dup2 dX12_raisers_76 rfl rfl ?_
          refine w_ialdE (v := (fwFu (gg 17 0) (mTop (gg 17 0) (gg 4 0 4) (gg 4 0 1).toNat).toNat (((gg 17 0) (mTop (gg 17 0) (gg 4 0 4) (gg 4 0 1).toNat).toNat) + 1)) (mTop (gg 17 0) (gg 4 0 4) (gg 4 0 1).toNat).toNat) dX12_raisers_77 rfl (by decide) (by omega) (by omega) (hA50 _ (by omega)) ?_
          refine w_iconst dX12_raisers_78 ?_
          refine w_isub dX12_raisers_79 ?_
          refine w_iast dX12_raisers_80 rfl (by decide) (by omega) (by omega) ?_
          rw [show (fwUp (fwUc h 42 0 (fwFu A23 (mTop (gg 17 0) (gg 4 0 4) (gg 4 0 1).toNat).toNat (((gg 17 0) (mTop (gg 17 0) (gg 4 0 4) (gg 4 0 1).toNat).toNat) + 1))) 42 0 (mTop (gg 17 0) (gg 4 0 4) (gg 4 0 1).toNat).toNat (((fwFu (gg 17 0) (mTop (gg 17 0) (gg 4 0 4) (gg 4 0 1).toNat).toNat (((gg 17 0) (mTop (gg 17 0) (gg 4 0 4) (gg 4 0 1).toNat).toNat) + 1)) (mTop (gg 17 0) (gg 4 0 4) (gg 4 0 1).toNat).toNat) - 1)) = (fwUc h 42 0 (fwFu (fwFu A23 (mTop (gg 17 0) (gg 4 0 4) (gg 4 0 1).toNat).toNat (((gg 17 0) (mTop (gg 17 0) (gg 4 0 4) (gg 4 0 1).toNat).toNat) + 1)) (mTop (gg 17 0) (gg 4 0 4) (gg 4 0 1).toNat).toNat (((fwFu (gg 17 0) (mTop (gg 17 0) (gg 4 0 4) (gg 4 0 1).toNat).toNat (((gg 17 0) (mTop (gg 17 0) (gg 4 0 4) (gg 4 0 1).toNat).toNat) + 1)) (mTop (gg 17 0) (gg 4 0 4) (gg 4 0 1).toNat).toNat) - 1))) from by rw [fwUp_fu]; rw [fwUc_uc]; rfl]
          have hA80 := hiR_fu hA50 (mTop (gg 17 0) (gg 4 0 4) (gg 4 0 1).toNat).toNat (((fwFu (gg 17 0) (mTop (gg 17 0) (gg 4 0 4) (gg 4 0 1).toNat).toNat (((gg 17 0) (mTop (gg 17 0) (gg 4 0 4) (gg 4 0 1).toNat).toNat) + 1)) (mTop (gg 17 0) (gg 4 0 4) (gg 4 0 1).toNat).toNat) - 1)
          rw [fwFu_pm] at hA80
          refine w_iinc [some (aR 12 0), some (aI (mTop (gg 17 0) (gg 4 0 4) (gg 4 0 1).toNat)), some (aI (fwOr (mBits (fun f => decide (mGain (gg 4 0 1) (gg 17 0) (gg 4 0 2) (gg 18 0) f < mGain (gg 4 0 1) (fwFu (gg 17 0) (mTop (gg 17 0) (gg 4 0 4) (gg 4 0 1).toNat).toNat (gg 17 0 (mTop (gg 17 0) (gg 4 0 4) (gg 4 0 1).toNat).toNat + 1)) (gg 4 0 2) (gg 18 0) f)) c) 0)), some (aI ((c : Int) + 1)), some (aI (mGain (gg 4 0 1) (gg 17 0) (gg 4 0 2) (gg 18 0) c))] dX12_raisers_81 rfl rfl (by decide) ?_
          refine w_goto 23 dX12_raisers_84 (by decide) ?_
          refine w_drop [4] [some (aR 12 0), some (aI (mTop (gg 17 0) (gg 4 0 4) (gg 4 0 1).toNat)), some (aI (fwOr (mBits (fun f => decide (mGain (gg 4 0 1) (gg 17 0) (gg 4 0 2) (gg 18 0) f < mGain (gg 4 0 1) (fwFu (gg 17 0) (mTop (gg 17 0) (gg 4 0 4) (gg 4 0 1).toNat).toNat (gg 17 0 (mTop (gg 17 0) (gg 4 0 4) (gg 4 0 1).toNat).toNat + 1)) (gg 4 0 2) (gg 18 0) f)) c) 0)), some (aI ((c : Int) + 1)), none] rfl ?_
          refine ih23 (by omega) _ _ _ ?_ ?_ ?_
          · exact (by omega)
          · exact (by rw [mBits, if_neg (by rw [decide_eq_true_eq]; omega), fwOr_0 (mBits_rng _ _)])
          · exact hA80
        · refine w_iconst dX12_raisers_62 ?_
          refine w_iload_n dX12_raisers_63 rfl ?_
          refine w_ishl dX12_raisers_64 ?_
          refine w_goto 69 dX12_raisers_65 (by decide) ?_
          refine w_ior dX12_raisers_69 ?_
          refine w_istore_n [some (aR 12 0), some (aI (mTop (gg 17 0) (gg 4 0 4) (gg 4 0 1).toNat)), some (aI (fwOr (mBits (fun f => decide (mGain (gg 4 0 1) (gg 17 0) (gg 4 0 2) (gg 18 0) f < mGain (gg 4 0 1) (fwFu (gg 17 0) (mTop (gg 17 0) (gg 4 0 4) (gg 4 0 1).toNat).toNat (gg 17 0 (mTop (gg 17 0) (gg 4 0 4) (gg 4 0 1).toNat).toNat + 1)) (gg 4 0 2) (gg 18 0) f)) c) (fwShl 1 (c : Int)))), some (aI (c : Int)), some (aI (mGain (gg 4 0 1) (gg 17 0) (gg 4 0 2) (gg 18 0) c))] dX12_raisers_70 rfl (by decide) ?_
          refine w_aload_n dX12_raisers_71 rfl ?_
          refine w_getr 42 0 dX12_raisers_72 fl_X12_34 rfl (by decide) ?_
          refine w_iload_n dX12_raisers_75 rfl ?_
          refine w_dup2 dX12_raisers_76 rfl rfl ?_
          refine w_ialdE (v := (fwFu (gg 17 0) (mTop (gg 17 0) (gg 4 0 4) (gg 4 0 1).toNat).toNat (((gg 17 0) (mTop (gg 17 0) (gg 4 0 4) (gg 4 0 1).toNat).toNat) + 1)) (mTop (gg 17 0) (gg 4 0 4) (gg 4 0 1).toNat).toNat) dX12_raisers_77 rfl (by decide) (by omega) (by omega) (hA50 _ (by omega)) ?_
          refine w_iconst dX12_raisers_78 ?_
          refine w_isub dX12_raisers_79 ?_
          refine w_iast dX12_raisers_80 rfl (by decide) (by omega) (by omega) ?_
          rw [show (fwUp (fwUc h 42 0 (fwFu A23 (mTop (gg 17 0) (gg 4 0 4) (gg 4 0 1).toNat).toNat (((gg 17 0) (mTop (gg 17 0) (gg 4 0 4) (gg 4 0 1).toNat).toNat) + 1))) 42 0 (mTop (gg 17 0) (gg 4 0 4) (gg 4 0 1).toNat).toNat (((fwFu (gg 17 0) (mTop (gg 17 0) (gg 4 0 4) (gg 4 0 1).toNat).toNat (((gg 17 0) (mTop (gg 17 0) (gg 4 0 4) (gg 4 0 1).toNat).toNat) + 1)) (mTop (gg 17 0) (gg 4 0 4) (gg 4 0 1).toNat).toNat) - 1)) = (fwUc h 42 0 (fwFu (fwFu A23 (mTop (gg 17 0) (gg 4 0 4) (gg 4 0 1).toNat).toNat (((gg 17 0) (mTop (gg 17 0) (gg 4 0 4) (gg 4 0 1).toNat).toNat) + 1)) (mTop (gg 17 0) (gg 4 0 4) (gg 4 0 1).toNat).toNat (((fwFu (gg 17 0) (mTop (gg 17 0) (gg 4 0 4) (gg 4 0 1).toNat).toNat (((gg 17 0) (mTop (gg 17 0) (gg 4 0 4) (gg 4 0 1).toNat).toNat) + 1)) (mTop (gg 17 0) (gg 4 0 4) (gg 4 0 1).toNat).toNat) - 1))) from by rw [fwUp_fu]; rw [fwUc_uc]; rfl]
          have hA80 := hiR_fu hA50 (mTop (gg 17 0) (gg 4 0 4) (gg 4 0 1).toNat).toNat (((fwFu (gg 17 0) (mTop (gg 17 0) (gg 4 0 4) (gg 4 0 1).toNat).toNat (((gg 17 0) (mTop (gg 17 0) (gg 4 0 4) (gg 4 0 1).toNat).toNat) + 1)) (mTop (gg 17 0) (gg 4 0 4) (gg 4 0 1).toNat).toNat) - 1)
          rw [fwFu_pm] at hA80
          refine w_iinc [some (aR 12 0), some (aI (mTop (gg 17 0) (gg 4 0 4) (gg 4 0 1).toNat)), some (aI (fwOr (mBits (fun f => decide (mGain (gg 4 0 1) (gg 17 0) (gg 4 0 2) (gg 18 0) f < mGain (gg 4 0 1) (fwFu (gg 17 0) (mTop (gg 17 0) (gg 4 0 4) (gg 4 0 1).toNat).toNat (gg 17 0 (mTop (gg 17 0) (gg 4 0 4) (gg 4 0 1).toNat).toNat + 1)) (gg 4 0 2) (gg 18 0) f)) c) (fwShl 1 (c : Int)))), some (aI ((c : Int) + 1)), some (aI (mGain (gg 4 0 1) (gg 17 0) (gg 4 0 2) (gg 18 0) c))] dX12_raisers_81 rfl rfl (by decide) ?_
          refine w_goto 23 dX12_raisers_84 (by decide) ?_
          refine w_drop [4] [some (aR 12 0), some (aI (mTop (gg 17 0) (gg 4 0 4) (gg 4 0 1).toNat)), some (aI (fwOr (mBits (fun f => decide (mGain (gg 4 0 1) (gg 17 0) (gg 4 0 2) (gg 18 0) f < mGain (gg 4 0 1) (fwFu (gg 17 0) (mTop (gg 17 0) (gg 4 0 4) (gg 4 0 1).toNat).toNat (gg 17 0 (mTop (gg 17 0) (gg 4 0 4) (gg 4 0 1).toNat).toNat + 1)) (gg 4 0 2) (gg 18 0) f)) c) (fwShl 1 (c : Int)))), some (aI ((c : Int) + 1)), none] rfl ?_
          refine ih23 (by omega) _ _ _ ?_ ?_ ?_
          · exact (by omega)
          · exact (by rw [mBits, if_pos (decide_eq_true (by omega))])
          · exact hA80
    have z23 := lp23 0 (Nat.zero_le _) _ _ A11_2 (by exact (show 0 = ((0 : Nat) : Int) by omega)) (by exact (show 0 = mBits (fun f => decide (mGain (gg 4 0 1) (gg 17 0) (gg 4 0 2) (gg 18 0) f < mGain (gg 4 0 1) (fwFu (gg 17 0) (mTop (gg 17 0) (gg 4 0 4) (gg 4 0 1).toNat).toNat (gg 17 0 (mTop (gg 17 0) (gg 4 0 4) (gg 4 0 1).toNat).toNat + 1)) (gg 4 0 2) (gg 18 0) f)) 0 from rfl)) hA11_2
    exact z23
  · refine w_bipush dX12_raisers_7 rfl ?_
    exact w_iretE dX12_raisers_9 rfl (by unfold an_raisers; first | (rw [if_neg (by omega)]; done) | (rw [if_pos (by omega), mGers, if_neg (by omega)]; done) | (rw [if_pos (by omega), mGers, if_neg (by have := hM0 (mTop (gg 17 0) (gg 4 0 4) (gg 4 0 1).toNat).toNat (by omega); omega)]; done)) (k _ (scr_rf hsh))
theorem mNamesB (F : Nat → Int) (x : Int) (f : Nat) : mNames F x (f + 1) = mNames F x f + fwAnd (fwShr x (f : Int)) 1 * F (7 * f + 1) := by
  rw [mNames]
  rcases bit_01 x f with e | e
  · rw [if_neg (by omega), e]; omega
  · rw [if_pos e, e]; omega
set_option maxRecDepth 100000 in
set_option maxHeartbeats 4000000 in
theorem c_X12_namesOf {d : Nat} {h gg : fwH} {Q : Option fwV → fwH → Prop} (x : Int) (J : cOk gg) (R : jF gg h) (k : Q (some (aI (mNames (gg 18 0) x (gg 5 0 3).toNat))) h) : fwCt mX12_namesOf (d + 1) [aR 12 0, aI x] h Q := by
  refine fwCt_of [some (aR 12 0), some (aI x), none, none] rfl rfl rfl ?_
  obtain ⟨hl, hP, hG, -, -, -, hlw, -, ha, hs, -, hsc⟩ := id J
  obtain ⟨⟨g1, g2⟩, ⟨g3, g4⟩, ⟨g5, g6⟩, g7, -⟩ := id hG
  have hpz := hP.1
  refine w_iconst dX12_namesOf_0 ?_
  refine w_istore_n [some (aR 12 0), some (aI x), some (aI 0), none] dX12_namesOf_1 rfl (by decide) ?_
  refine w_iconst dX12_namesOf_2 ?_
  refine w_istore_n [some (aR 12 0), some (aI x), some (aI 0), some (aI 0)] dX12_namesOf_3 rfl (by decide) ?_
  have lp4 : ∀ c : Nat, c ≤ (gg 5 0 3).toNat → ∀ (y4 nv : Int), y4 = (c : Int) → nv = mNames (gg 18 0) x c → fwWP mX12_namesOf (d + 1) 4 [some (aR 12 0), some (aI x), some (aI nv), some (aI y4)] [] h Q := by
    refine fw_up (fun c hc4 ih4 => ?_)
    intro y4 nv ey4 e_nv
    subst ey4
    subst e_nv
    show fwWP mX12_namesOf (d + 1) 4 [some (aR 12 0), some (aI x), some (aI (mNames (gg 18 0) x c)), some (aI (c : Int))] [] h Q
    refine w_iload_n dX12_namesOf_4 rfl ?_
    refine w_aload_n dX12_namesOf_5 rfl ?_
    refine w_getr 36 0 dX12_namesOf_6 fl_X12_9 rfl (by decide) ?_
    refine w_bipush dX12_namesOf_9 rfl ?_
    refine w_ialdE (v := gg 5 0 3) dX12_namesOf_11 rfl (by decide) (by omega) (by omega) R.2.2.2.2.2.2.1 ?_
    refine w_icmp_ge 36 dX12_namesOf_12 (by decide) (by omega) (by omega) (fun c12 => ?_) (fun c12 => ?_)
    · have ec4 : (gg 5 0 3).toNat = c := by omega
      subst ec4
      refine w_iload_n dX12_namesOf_36 rfl ?_
      exact w_iretE dX12_namesOf_37 rfl (by rfl) k
    · refine w_iload_n dX12_namesOf_15 rfl ?_
      refine w_iload_n dX12_namesOf_16 rfl ?_
      refine w_iload_n dX12_namesOf_17 rfl ?_
      refine w_callS (d := d + 0) (S := [aI (mNames (gg 18 0) x c)]) [aI x, aI (c : Int)] dX12_namesOf_18 ml_X12_257 ok_X12_bit st_X12_bit rfl (Nat.le_of_ble_eq_true rfl) ?_
      refine c_X12_bit (d := d) x (c : Int) ?_
      show fwWP mX12_namesOf (d + 1) 21 [some (aR 12 0), some (aI x), some (aI (mNames (gg 18 0) x c)), some (aI (c : Int))] [aI (fwAnd (fwShr x (c : Int)) 1), aI (mNames (gg 18 0) x c)] h Q
      have hbt2 := bit_01 x (c : Int)
      refine w_aload_n dX12_namesOf_21 rfl ?_
      refine w_iload_n dX12_namesOf_22 rfl ?_
      refine w_iconst dX12_namesOf_23 ?_
      refine w_callV (d := d + 0) (S := [aI (fwAnd (fwShr x (c : Int)) 1), aI (mNames (gg 18 0) x c)]) [aI (c : Int), aI 1] dX12_namesOf_24 ml_X12_220 ok_X12_of vi_X12_of rfl rfl (by decide) rfl (Nat.le_of_ble_eq_true rfl) ?_
      refine c_ofE (d := d) c 1 (c : Int) J R (by omega) (by omega) (by omega) ?_
      show fwWP mX12_namesOf (d + 1) 27 [some (aR 12 0), some (aI x), some (aI (mNames (gg 18 0) x c)), some (aI (c : Int))] [aI (gg 18 0 (7 * c + 1)), aI (fwAnd (fwShr x (c : Int)) 1), aI (mNames (gg 18 0) x c)] h Q
      have hof3 := hP.2 c (by omega)
      refine w_imul dX12_namesOf_27 ?_
      refine w_iadd dX12_namesOf_28 ?_
      refine w_istore_n [some (aR 12 0), some (aI x), some (aI ((mNames (gg 18 0) x c) + ((fwAnd (fwShr x (c : Int)) 1) * (gg 18 0 (7 * c + 1))))), some (aI (c : Int))] dX12_namesOf_29 rfl (by decide) ?_
      refine w_iinc [some (aR 12 0), some (aI x), some (aI ((mNames (gg 18 0) x c) + ((fwAnd (fwShr x (c : Int)) 1) * (gg 18 0 (7 * c + 1))))), some (aI ((c : Int) + 1))] dX12_namesOf_30 rfl rfl (by decide) ?_
      refine w_goto 4 dX12_namesOf_33 (by decide) ?_
      refine ih4 (by omega) _ _ ?_ ?_
      · exact (by omega)
      · exact (by rw [mNamesB])
  refine lp4 0 (Nat.zero_le _) _ _ ?_ ?_
  · exact (by omega)
  · exact rfl
set_option maxRecDepth 100000 in
set_option maxHeartbeats 4000000 in
theorem c_X12_isEnough {d : Nat} {h gg : fwH} {Q : Option fwV → fwH → Prop} (x : Int) (J : cOk gg) (R : jF gg h) (k : Q (some (aI (fwB (gg 3 0 4 ≤ mNames (gg 18 0) x (gg 5 0 3).toNat)))) h) : fwCt mX12_isEnough (d + 2) [aR 12 0, aI x] h Q := by
  refine fwCt_of [some (aR 12 0), some (aI x)] rfl rfl rfl ?_
  obtain ⟨hl, hP, hG, -, -, -, hlw, -, ha, hs, -, hsc⟩ := id J
  obtain ⟨⟨g1, g2⟩, ⟨g3, g4⟩, ⟨g5, g6⟩, g7, -⟩ := id hG
  have hpz := hP.1
  refine w_aload_n dX12_isEnough_0 rfl ?_
  refine w_iload_n dX12_isEnough_1 rfl ?_
  refine w_callV (d := d + 1) (S := []) [aI x] dX12_isEnough_2 ml_X12_260 ok_X12_namesOf vi_X12_namesOf rfl rfl (by decide) rfl (Nat.le_of_ble_eq_true rfl) ?_
  refine c_X12_namesOf (d := d) x J R ?_
  show fwWP mX12_isEnough (d + 2) 5 [some (aR 12 0), some (aI x)] [aI (mNames (gg 18 0) x (gg 5 0 3).toNat)] h Q
  have hnr1 := mNames_r2 hP x
  refine w_aload_n dX12_isEnough_5 rfl ?_
  refine w_getr 36 0 dX12_isEnough_6 fl_X12_9 rfl (by decide) ?_
  refine w_iconst dX12_isEnough_9 ?_
  refine w_ialdE (v := gg 3 0 4) dX12_isEnough_10 rfl (by decide) (by omega) (by omega) R.2.2.2.1 ?_
  refine w_icmp_lt 18 dX12_isEnough_11 (by decide) (by omega) (by omega) (fun c11 => ?_) (fun c11 => ?_)
  · refine w_iconst dX12_isEnough_18 ?_
    exact w_zretE dX12_isEnough_19 rfl (by first | (exfalso; omega) | (rw [fwB_t (by omega)]) | (rw [fwB_f (by omega)])) k
  · refine w_iconst dX12_isEnough_14 ?_
    refine w_goto 19 dX12_isEnough_15 (by decide) ?_
    exact w_zretE dX12_isEnough_19 rfl (by first | (exfalso; omega) | (rw [fwB_t (by omega)]) | (rw [fwB_f (by omega)])) k
/-! bits of FOLK's sets as natural numbers below 256 -/
theorem and_255 {a b : Nat} (ha : a < 256) (hb : b < 256) : fwAnd (a : Int) (b : Int) = ((a &&& b : Nat) : Int) := fwAnd_nat (by omega) (by omega)
theorem or_256 {a f : Nat} (ha : a < 256) (hf : f < 8) : fwOr (a : Int) (fwShl 1 (f : Int)) = ((a ||| 2 ^ f : Nat) : Int) ∧ a ||| 2 ^ f < 256 := by
  have h2 : 2 ^ f < 2 ^ 8 := Nat.pow_lt_pow_right (by omega) hf
  rw [fwShl1_nat (by omega), fwOr_nat (by omega) (by omega)]
  exact ⟨rfl, Nat.or_lt_two_pow (n := 8) (by omega) h2⟩
theorem or_same : ∀ f : Nat, f < 8 → ∀ a : Nat, a < 256 → fwAnd (fwShr (a : Int) (f : Int)) 1 = 1 → a ||| 2 ^ f = a := by decide +kernel
theorem or_bit : ∀ f : Nat, f < 8 → ∀ a : Nat, a < 256 → fwAnd (fwShr ((a ||| 2 ^ f : Nat) : Int) (f : Int)) 1 = 1 := by decide +kernel
theorem or_more : ∀ f : Nat, f < 8 → ∀ a : Nat, a < 256 → ¬ fwAnd (fwShr (a : Int) (f : Int)) 1 = 1 → a < a ||| 2 ^ f := by decide +kernel
theorem or_two : ∀ f : Nat, f < 8 → ∀ a : Nat, a < 256 → ∀ b : Nat, b < 256 → (fwAnd (fwShr (fwOr (a : Int) (b : Int)) (f : Int)) 1 = 1 ↔ fwAnd (fwShr (a : Int) (f : Int)) 1 = 1 ∨ fwAnd (fwShr (b : Int) (f : Int)) 1 = 1) := by
  intro f hf a ha b hb
  rw [fwOr_nat (by omega) (by omega)]
  have h9 : a ||| b < 2 ^ 8 := Nat.or_lt_two_pow (n := 8) (by omega) (by omega)
  have key : ∀ z : Nat, z < 256 → (fwAnd (fwShr (z : Int) (f : Int)) 1 = 1 ↔ z.testBit f = true) := by
    intro z hz
    rw [fwBit_nat (by omega) f (by omega)]
    cases z.testBit f <;> simp
  rw [key _ (by omega), key _ ha, key _ hb, Nat.testBit_or, Bool.or_eq_true]
theorem pop_or : ∀ f : Nat, f < 8 → ∀ a : Nat, a < 256 → ¬ fwAnd (fwShr (a : Int) (f : Int)) 1 = 1 → fwPop ((a ||| 2 ^ f : Nat) : Int) = fwPop (a : Int) + 1 := by decide +kernel
theorem pop_8 : ∀ a : Nat, a < 256 → (0 ≤ fwPop (a : Int) ∧ fwPop (a : Int) ≤ 8) ∧ (8 ≤ fwPop (a : Int) → a = 255) := by decide +kernel
theorem or_255s : ∀ f : Nat, f < 8 → 255 ||| 2 ^ f = 255 := by decide
theorem mPass_n {F : Nat → Int} {ba : Int} {a : Nat} (ha : a < 256) : ∀ f : Nat, f ≤ 8 → ∃ c : Nat, c < 256 ∧ mPass F ba (a : Int) f = (c : Int) ∧ (c = a ∨ fwPop (a : Int) < fwPop (c : Int)) := by
  intro f
  induction f with
  | zero => intro _; exact ⟨a, ha, rfl, Or.inl rfl⟩
  | succ f ih =>
    intro hf
    obtain ⟨c, h1, h2, h3⟩ := ih (by omega)
    rw [mPass, h2]
    split
    · rw [(or_256 h1 (by omega)).1]
      refine ⟨_, (or_256 h1 (by omega)).2, rfl, ?_⟩
      by_cases e : fwAnd (fwShr (c : Int) (f : Int)) 1 = 1
      · rw [or_same f (by omega) c h1 e]
        exact h3
      · right
        have := pop_or f (by omega) c h1 e
        rcases h3 with h3 | h3
        · subst h3; omega
        · omega
    · exact ⟨c, h1, rfl, h3⟩
theorem mPass_255 {F : Nat → Int} {ba : Int} : ∀ f : Nat, f ≤ 8 → mPass F ba 255 f = 255 := by
  intro f
  induction f with
  | zero => intro _; rfl
  | succ f ih =>
    intro hf
    rw [mPass, ih (by omega)]
    split
    · have := (or_256 (a := 255) (by omega) (show f < 8 by omega)).1
      rw [or_255s f (by omega)] at this
      exact this
    · rfl
theorem mSg_n {F : Nat → Int} {ba : Int} {n : Nat} (hn : n ≤ 8) : ∀ (k a : Nat), a < 256 → ∃ c : Nat, c < 256 ∧ mSg F ba n k (a : Int) = (c : Int) := by
  intro k
  induction k with
  | zero => intro a ha; exact ⟨a, ha, rfl⟩
  | succ k ih =>
    intro a ha
    rw [mSg]
    split
    · exact ⟨a, ha, rfl⟩
    · obtain ⟨c, h1, h2, -⟩ := mPass_n (F := F) (ba := ba) ha n hn
      rw [h2]
      exact ih c h1
theorem and_n {a : Nat} (ha : a < 256) (y : Int) : ∃ c : Nat, c < 256 ∧ fwAnd (a : Int) y = (c : Int) := by
  have e : fwAnd (a : Int) y = fwAnd (fwAnd (a : Int) y) 255 := by
    have h1 : Int32.ofInt (a : Int) &&& Int32.ofInt 255 = Int32.ofInt (a : Int) := by
      have h2 := and_255 (a := a) (b := 255) ha (by omega)
      unfold fwAnd at h2
      have h3 : a &&& 255 = a := by
        have := Nat.and_two_pow_sub_one_eq_mod a 8
        rw [show (2 ^ 8 - 1 : Nat) = 255 from rfl] at this
        rw [this]; omega
      rw [h3] at h2
      have h4 := congrArg Int32.ofInt h2
      rw [Int32.ofInt_toInt] at h4
      exact h4
    unfold fwAnd
    rw [Int32.ofInt_toInt, Int32.and_assoc, Int32.and_comm (Int32.ofInt y), ← Int32.and_assoc, h1]
  have h9 := fwAnd255 (fwAnd (a : Int) y)
  rw [← e] at h9
  exact ⟨(fwAnd (a : Int) y).toNat, by omega, by omega⟩
theorem mSign_n {F : Nat → Int} {n a : Nat} {ba : Int} (hn : n ≤ 8) (ha : a < 256) : ∃ c : Nat, c < 256 ∧ mSign F n (a : Int) ba = (c : Int) := by
  unfold mSign
  obtain ⟨c, h1, h2⟩ := and_n ha (fwXor ba (-1))
  rw [h2]
  exact mSg_n hn 8 c h1
theorem mSg_fix {F : Nat → Int} {ba s : Int} {n k : Nat} (h : mPass F ba s n = s) : s = mSg F ba n k s := by
  cases k with
  | zero => rfl
  | succ k => rw [mSg, if_pos h]
theorem sg_step {F : Nat → Int} {b s q c : Nat} (hb : b < 256) (hs : s < 256) (hq : q < 256) (hc : c < 8) (hF : 0 ≤ F (7 * c + 5)) (hF6 : 0 ≤ F (7 * c + 6) ∧ F (7 * c + 6) ≤ 255) (e : mPass F (b : Int) (s : Int) c = (q : Int)) : ((¬ fwAnd (fwShr (fwOr (q : Int) (b : Int)) (c : Int)) 1 = 1 ∧ F (7 * c + 5) ≠ 0 ∧ F (7 * c + 5) ≤ fwPop (fwAnd (q : Int) (F (7 * c + 6)))) → mPass F (b : Int) (s : Int) (c + 1) = fwOr (q : Int) (fwShl 1 (c : Int)) ∧ mPass F (b : Int) (s : Int) (c + 1) ≠ (s : Int)) ∧ (¬ (¬ fwAnd (fwShr (fwOr (q : Int) (b : Int)) (c : Int)) 1 = 1 ∧ F (7 * c + 5) ≠ 0 ∧ F (7 * c + 5) ≤ fwPop (fwAnd (q : Int) (F (7 * c + 6)))) → mPass F (b : Int) (s : Int) (c + 1) = (q : Int)) := by
  have hor := or_two c hc q hq b hb
  obtain ⟨fr, efr⟩ : ∃ fr : Nat, F (7 * c + 6) = (fr : Int) := ⟨(F (7 * c + 6)).toNat, by omega⟩
  have h1 := and_255 (a := q) (b := fr) hq (by omega)
  have h2 := and_255 (a := fr) (b := q) (by omega) hq
  have h3 : fr &&& q = q &&& fr := Nat.and_comm _ _
  have hbb := bit_01 (b : Int) (c : Int)
  rw [efr, h1]
  rw [mPass, e, efr, h2, h3]
  constructor
  · rintro ⟨z1, z2, z3⟩
    have y1 : ¬ fwAnd (fwShr (q : Int) (c : Int)) 1 = 1 := fun y => z1 (hor.mpr (Or.inl y))
    have y2 : ¬ fwAnd (fwShr (b : Int) (c : Int)) 1 = 1 := fun y => z1 (hor.mpr (Or.inr y))
    rw [if_pos ⟨⟨by omega, z3⟩, by omega⟩]
    refine ⟨rfl, ?_⟩
    rw [(or_256 hq hc).1]
    intro y3
    have y4 : q ||| 2 ^ c = s := by omega
    have y5 := pop_or c hc q hq y1
    have y6 := or_more c hc q hq y1
    obtain ⟨q2, x1, x2, x3⟩ := mPass_n (F := F) (ba := (b : Int)) hs c (by omega)
    rw [e] at x2
    have x4 : q2 = q := by omega
    subst x4
    rcases x3 with x3 | x3
    · omega
    · rw [y4] at y5
      omega
  · intro z
    by_cases y : (0 < F (7 * c + 5) ∧ F (7 * c + 5) ≤ fwPop ((q &&& fr : Nat) : Int)) ∧ fwAnd (fwShr (b : Int) (c : Int)) 1 = 0
    · rw [if_pos y]
      by_cases y1 : fwAnd (fwShr (q : Int) (c : Int)) 1 = 1
      · rw [(or_256 hq hc).1, or_same c hc q hq y1]
      · exfalso
        apply z
        refine ⟨fun y3 => ?_, by omega, y.1.2⟩
        rcases hor.mp y3 with y4 | y4
        · exact y1 y4
        · omega
    · rw [if_neg y]
set_option maxRecDepth 100000 in
set_option maxHeartbeats 4000000 in
theorem c_X12_signing {d : Nat} {h gg : fwH} {Q : Option fwV → fwH → Prop} (a b : Nat) (J : cOk gg) (R : jF gg h) (hha : a < 256) (hhb : b < 256) (k : Q (some (aI (mSign (gg 18 0) (gg 5 0 3).toNat (a : Int) (b : Int)))) h) : fwCt mX12_signing (d + 1) [aR 12 0, aI (a : Int), aI (b : Int)] h Q := by
  refine fwCt_of [some (aR 12 0), some (aI (a : Int)), some (aI (b : Int)), none, none, none] rfl rfl rfl ?_
  obtain ⟨hl, hP, hG, -, -, -, hlw, -, ha, hs, -, hsc⟩ := id J
  obtain ⟨⟨g1, g2⟩, ⟨g3, g4⟩, ⟨g5, g6⟩, g7, -⟩ := id hG
  have hpz := hP.1
  refine w_iload_n dX12_signing_0 rfl ?_
  refine w_iload_n dX12_signing_1 rfl ?_
  refine w_iconst dX12_signing_2 ?_
  refine w_ixor dX12_signing_3 ?_
  refine w_iand dX12_signing_4 ?_
  refine w_istore_n [some (aR 12 0), some (aI (a : Int)), some (aI (b : Int)), some (aI (fwAnd (a : Int) (fwXor (b : Int) (-1)))), none, none] dX12_signing_5 rfl (by decide) ?_
  refine w_iconst dX12_signing_6 ?_
  refine w_istore [some (aR 12 0), some (aI (a : Int)), some (aI (b : Int)), some (aI (fwAnd (a : Int) (fwXor (b : Int) (-1)))), some (aI 1), none] dX12_signing_7 rfl (by decide) ?_
  have fin9 : ∀ v : Int, v = mSign (gg 18 0) (gg 5 0 3).toNat (a : Int) (b : Int) → fwWP mX12_signing (d + 1) 9 [some (aR 12 0), some (aI (a : Int)), some (aI (b : Int)), some (aI v), some (aI 0), none] [] h Q := by
    intro v ev
    subst ev
    show fwWP mX12_signing (d + 1) 9 [some (aR 12 0), some (aI (a : Int)), some (aI (b : Int)), some (aI (mSign (gg 18 0) (gg 5 0 3).toNat (a : Int) (b : Int))), some (aI 0), none] [] h Q
    refine w_iload dX12_signing_9 rfl ?_
    refine w_if_eq 99 dX12_signing_11 (by decide) (by omega) (fun c11 => ?_) (fun c11 => ?_)
    · refine w_iload_n dX12_signing_99 rfl ?_
      exact w_iretE dX12_signing_100 rfl (by rfl) k
    · (exfalso; omega)
  have lp9 : ∀ c9 : Nat, c9 ≤ 8 → ∀ s : Nat, s < 256 → (c9 : Int) ≤ fwPop (s : Int) → mSg (gg 18 0) (b : Int) (gg 5 0 3).toNat (8 - c9) (s : Int) = mSign (gg 18 0) (gg 5 0 3).toNat (a : Int) (b : Int) → fwWP mX12_signing (d + 1) 9 [some (aR 12 0), some (aI (a : Int)), some (aI (b : Int)), some (aI (s : Int)), some (aI 1), none] [] h Q := by
    refine fw_up (fun c9 hc9 ih9 => ?_)
    intro s ivs ivp ivr
    show fwWP mX12_signing (d + 1) 9 [some (aR 12 0), some (aI (a : Int)), some (aI (b : Int)), some (aI (s : Int)), some (aI 1), none] [] h Q
    refine w_iload dX12_signing_9 rfl ?_
    refine w_if_eq 99 dX12_signing_11 (by decide) (by omega) (fun c11 => ?_) (fun c11 => ?_)
    · (exfalso; omega)
    · refine w_iconst dX12_signing_14 ?_
      refine w_istore [some (aR 12 0), some (aI (a : Int)), some (aI (b : Int)), some (aI (s : Int)), some (aI 0), none] dX12_signing_15 rfl (by decide) ?_
      refine w_iconst dX12_signing_17 ?_
      refine w_istore [some (aR 12 0), some (aI (a : Int)), some (aI (b : Int)), some (aI (s : Int)), some (aI 0), some (aI 0)] dX12_signing_18 rfl (by decide) ?_
      have lp20 : ∀ c : Nat, c ≤ (gg 5 0 3).toNat → ∀ (y20 sv mv : Int), y20 = (c : Int) → sv = mPass (gg 18 0) (b : Int) (s : Int) c → mv = (if mPass (gg 18 0) (b : Int) (s : Int) c = (s : Int) then 0 else 1) → fwWP mX12_signing (d + 1) 20 [some (aR 12 0), some (aI (a : Int)), some (aI (b : Int)), some (aI sv), some (aI mv), some (aI y20)] [] h Q := by
        refine fw_up (fun c hc20 ih20 => ?_)
        intro y20 sv mv ey20 e_sv e_mv
        subst ey20
        subst e_sv
        subst e_mv
        show fwWP mX12_signing (d + 1) 20 [some (aR 12 0), some (aI (a : Int)), some (aI (b : Int)), some (aI (mPass (gg 18 0) (b : Int) (s : Int) c)), some (aI (if mPass (gg 18 0) (b : Int) (s : Int) c = (s : Int) then 0 else 1)), some (aI (c : Int))] [] h Q
        refine w_iload dX12_signing_20 rfl ?_
        refine w_aload_n dX12_signing_22 rfl ?_
        refine w_getr 36 0 dX12_signing_23 fl_X12_9 rfl (by decide) ?_
        refine w_bipush dX12_signing_26 rfl ?_
        refine w_ialdE (v := gg 5 0 3) dX12_signing_28 rfl (by decide) (by omega) (by omega) R.2.2.2.2.2.2.1 ?_
        refine w_icmp_ge 96 dX12_signing_29 (by decide) (by omega) (by omega) (fun c29 => ?_) (fun c29 => ?_)
        · have ec20 : (gg 5 0 3).toNat = c := by omega
          subst ec20
          refine w_goto 9 dX12_signing_96 (by decide) ?_
          refine w_drop [5] [some (aR 12 0), some (aI (a : Int)), some (aI (b : Int)), some (aI (mPass (gg 18 0) (b : Int) (s : Int) (gg 5 0 3).toNat)), some (aI (if mPass (gg 18 0) (b : Int) (s : Int) (gg 5 0 3).toNat = (s : Int) then 0 else 1)), none] rfl ?_
          by_cases e9 : mPass (gg 18 0) (b : Int) (s : Int) (gg 5 0 3).toNat = (s : Int)
          · rw [e9, if_pos rfl]
            exact fin9 _ (by rw [← ivr]; exact mSg_fix e9)
          · rw [if_neg e9]
            obtain ⟨s2, z1, z2, z3⟩ := mPass_n (F := gg 18 0) (ba := (b : Int)) ivs (gg 5 0 3).toNat (by omega)
            have z4 := z3.resolve_left (fun q0 => e9 (by rw [z2, q0]))
            have z5 := pop_8 s2 z1
            have z6 := pop_8 s ivs
            have z7 : c9 < 8 := by
              rcases Nat.lt_or_ge c9 8 with q0 | q0
              · exact q0
              · exact absurd (show s = 255 from z6.2 (by omega)) (fun q1 => e9 (by rw [q1]; exact mPass_255 _ (by omega)))
            rw [z2]
            exact ih9 z7 _ z1 (by omega) (by rw [← ivr, show 8 - c9 = (8 - (c9 + 1)) + 1 by omega, mSg.eq_2, if_neg e9, z2])
        · obtain ⟨q, hq, eq9, -⟩ := mPass_n (F := gg 18 0) (ba := (b : Int)) ivs c (by omega)
          have hfr := hP.2 c (by omega)
          have hst := sg_step hhb ivs hq (by omega) (by omega) (by omega) eq9
          obtain ⟨w6, hw6, ew6⟩ := and_n hq (gg 18 0 (7 * c + 6))
          rw [eq9]
          refine w_iload_n dX12_signing_32 rfl ?_
          refine w_iload_n dX12_signing_33 rfl ?_
          refine w_ior dX12_signing_34 ?_
          refine w_iload dX12_signing_35 rfl ?_
          refine w_callS (d := d + 0) (S := []) [aI (fwOr (q : Int) (b : Int)), aI (c : Int)] dX12_signing_37 ml_X12_257 ok_X12_bit st_X12_bit rfl (Nat.le_of_ble_eq_true rfl) ?_
          refine c_X12_bit (d := d) (fwOr (q : Int) (b : Int)) (c : Int) ?_
          show fwWP mX12_signing (d + 1) 40 [some (aR 12 0), some (aI (a : Int)), some (aI (b : Int)), some (aI (q : Int)), some (aI (if (q : Int) = (s : Int) then 0 else 1)), some (aI (c : Int))] [aI (fwAnd (fwShr (fwOr (q : Int) (b : Int)) (c : Int)) 1)] h Q
          have hbt4 := bit_01 (fwOr (q : Int) (b : Int)) (c : Int)
          refine w_iconst dX12_signing_40 ?_
          refine w_icmp_eq 90 dX12_signing_41 (by decide) (by omega) (by omega) (fun c41 => ?_) (fun c41 => ?_)
          · refine w_iinc [some (aR 12 0), some (aI (a : Int)), some (aI (b : Int)), some (aI (q : Int)), some (aI (if (q : Int) = (s : Int) then 0 else 1)), some (aI ((c : Int) + 1))] dX12_signing_90 rfl rfl (by decide) ?_
            refine w_goto 20 dX12_signing_93 (by decide) ?_
            refine ih20 (by omega) _ _ _ ?_ ?_ ?_
            · exact (by omega)
            · exact (by rw [hst.2 (fun z => z.1 c41)])
            · exact (by rw [hst.2 (fun z => z.1 c41)])
          · refine w_aload_n dX12_signing_44 rfl ?_
            refine w_iload dX12_signing_45 rfl ?_
            refine w_iconst dX12_signing_47 ?_
            refine w_callV (d := d + 0) (S := []) [aI (c : Int), aI 5] dX12_signing_48 ml_X12_220 ok_X12_of vi_X12_of rfl rfl (by decide) rfl (Nat.le_of_ble_eq_true rfl) ?_
            refine c_ofE (d := d) c 5 (c : Int) J R (by omega) (by omega) (by omega) ?_
            show fwWP mX12_signing (d + 1) 51 [some (aR 12 0), some (aI (a : Int)), some (aI (b : Int)), some (aI (q : Int)), some (aI (if (q : Int) = (s : Int) then 0 else 1)), some (aI (c : Int))] [aI (gg 18 0 (7 * c + 5))] h Q
            have hof6 := hP.2 c (by omega)
            refine w_if_eq 90 dX12_signing_51 (by decide) (by omega) (fun c51 => ?_) (fun c51 => ?_)
            · refine w_iinc [some (aR 12 0), some (aI (a : Int)), some (aI (b : Int)), some (aI (q : Int)), some (aI (if (q : Int) = (s : Int) then 0 else 1)), some (aI ((c : Int) + 1))] dX12_signing_90 rfl rfl (by decide) ?_
              refine w_goto 20 dX12_signing_93 (by decide) ?_
              refine ih20 (by omega) _ _ _ ?_ ?_ ?_
              · exact (by omega)
              · exact (by rw [hst.2 (fun z => z.2.1 c51)])
              · exact (by rw [hst.2 (fun z => z.2.1 c51)])
            · refine w_iload_n dX12_signing_54 rfl ?_
              refine w_aload_n dX12_signing_55 rfl ?_
              refine w_iload dX12_signing_56 rfl ?_
              refine w_bipush dX12_signing_58 rfl ?_
              refine w_callV (d := d + 0) (S := [aI (q : Int)]) [aI (c : Int), aI 6] dX12_signing_60 ml_X12_220 ok_X12_of vi_X12_of rfl rfl (by decide) rfl (Nat.le_of_ble_eq_true rfl) ?_
              refine c_ofE (d := d) c 6 (c : Int) J R (by omega) (by omega) (by omega) ?_
              show fwWP mX12_signing (d + 1) 63 [some (aR 12 0), some (aI (a : Int)), some (aI (b : Int)), some (aI (q : Int)), some (aI (if (q : Int) = (s : Int) then 0 else 1)), some (aI (c : Int))] [aI (gg 18 0 (7 * c + 6)), aI (q : Int)] h Q
              have hof8 := hP.2 c (by omega)
              refine w_iand dX12_signing_63 ?_
              refine w_callS (d := d + 0) (S := []) [aI (fwAnd (q : Int) (gg 18 0 (7 * c + 6)))] dX12_signing_64 ml_X12_229 ok_X12_bits st_X12_bits rfl (Nat.le_of_ble_eq_true rfl) ?_
              refine c_bitsP (d := d) (fwAnd (q : Int) (gg 18 0 (7 * c + 6))) (by first | assumption | omega | decide) ?_
              show fwWP mX12_signing (d + 1) 67 [some (aR 12 0), some (aI (a : Int)), some (aI (b : Int)), some (aI (q : Int)), some (aI (if (q : Int) = (s : Int) then 0 else 1)), some (aI (c : Int))] [aI (fwPop (fwAnd (q : Int) (gg 18 0 (7 * c + 6))))] h Q
              have hpp9 := fwPop_rng (fwAnd (q : Int) (gg 18 0 (7 * c + 6)))
              refine w_aload_n dX12_signing_67 rfl ?_
              refine w_iload dX12_signing_68 rfl ?_
              refine w_iconst dX12_signing_70 ?_
              refine w_callV (d := d + 0) (S := [aI (fwPop (fwAnd (q : Int) (gg 18 0 (7 * c + 6))))]) [aI (c : Int), aI 5] dX12_signing_71 ml_X12_220 ok_X12_of vi_X12_of rfl rfl (by decide) rfl (Nat.le_of_ble_eq_true rfl) ?_
              refine c_ofE (d := d) c 5 (c : Int) J R (by omega) (by omega) (by omega) ?_
              show fwWP mX12_signing (d + 1) 74 [some (aR 12 0), some (aI (a : Int)), some (aI (b : Int)), some (aI (q : Int)), some (aI (if (q : Int) = (s : Int) then 0 else 1)), some (aI (c : Int))] [aI (gg 18 0 (7 * c + 5)), aI (fwPop (fwAnd (q : Int) (gg 18 0 (7 * c + 6))))] h Q
              have hof10 := hP.2 c (by omega)
              refine w_icmp_ge 80 dX12_signing_74 (by decide) (by omega) (by omega) (fun c74 => ?_) (fun c74 => ?_)
              · refine w_iload_n dX12_signing_80 rfl ?_
                refine w_iconst dX12_signing_81 ?_
                refine w_iload dX12_signing_82 rfl ?_
                refine w_ishl dX12_signing_84 ?_
                refine w_ior dX12_signing_85 ?_
                refine w_istore_n [some (aR 12 0), some (aI (a : Int)), some (aI (b : Int)), some (aI (fwOr (q : Int) (fwShl 1 (c : Int)))), some (aI (if (q : Int) = (s : Int) then 0 else 1)), some (aI (c : Int))] dX12_signing_86 rfl (by decide) ?_
                refine w_iconst dX12_signing_87 ?_
                refine w_istore [some (aR 12 0), some (aI (a : Int)), some (aI (b : Int)), some (aI (fwOr (q : Int) (fwShl 1 (c : Int)))), some (aI 1), some (aI (c : Int))] dX12_signing_88 rfl (by decide) ?_
                refine w_iinc [some (aR 12 0), some (aI (a : Int)), some (aI (b : Int)), some (aI (fwOr (q : Int) (fwShl 1 (c : Int)))), some (aI 1), some (aI ((c : Int) + 1))] dX12_signing_90 rfl rfl (by decide) ?_
                refine w_goto 20 dX12_signing_93 (by decide) ?_
                refine ih20 (by omega) _ _ _ ?_ ?_ ?_
                · exact (by omega)
                · exact (by rw [(hst.1 ⟨c41, c51, c74⟩).1])
                · exact (by rw [if_neg (hst.1 ⟨c41, c51, c74⟩).2])
              · refine w_goto 90 dX12_signing_77 (by decide) ?_
                refine w_iinc [some (aR 12 0), some (aI (a : Int)), some (aI (b : Int)), some (aI (q : Int)), some (aI (if (q : Int) = (s : Int) then 0 else 1)), some (aI ((c : Int) + 1))] dX12_signing_90 rfl rfl (by decide) ?_
                refine w_goto 20 dX12_signing_93 (by decide) ?_
                refine ih20 (by omega) _ _ _ ?_ ?_ ?_
                · exact (by omega)
                · exact (by rw [hst.2 (fun z => absurd z.2.2 (by omega))])
                · exact (by rw [hst.2 (fun z => absurd z.2.2 (by omega))])
      refine lp20 0 (Nat.zero_le _) _ _ _ ?_ ?_ ?_
      · exact (by omega)
      · exact rfl
      · exact (by rw [mPass, if_pos rfl])
  obtain ⟨s0, z1, z2⟩ := and_n hha (fwXor (b : Int) (-1))
  rw [z2]
  exact lp9 0 (by omega) s0 z1 (by have := pop_8 s0 z1; omega) (by unfold mSign; rw [z2])
end
section
theorem c_sgE {d : Nat} {h gg : fwH} {Q : Option fwV → fwH → Prop} (x y : Int) (J : cOk gg) (R : jF gg h) (hx : 0 ≤ x ∧ x < 256) (hy : 0 ≤ y ∧ y < 256) (k : Q (some (aI (mSign (gg 18 0) (gg 5 0 3).toNat x y))) h) : fwCt mX12_signing (d + 1) [aR 12 0, aI x, aI y] h Q := by
  obtain ⟨a, rfl⟩ : ∃ a : Nat, x = a := ⟨x.toNat, by omega⟩
  obtain ⟨b, rfl⟩ : ∃ b : Nat, y = b := ⟨y.toNat, by omega⟩
  exact c_X12_signing a b J R (by omega) (by omega) k
theorem or_rg {x y : Int} (hx : 0 ≤ x ∧ x < 256) (hy : 0 ≤ y ∧ y < 256) : 0 ≤ fwOr x y ∧ fwOr x y < 256 := by
  obtain ⟨a, rfl⟩ : ∃ a : Nat, x = a := ⟨x.toNat, by omega⟩
  obtain ⟨b, rfl⟩ : ∃ b : Nat, y = b := ⟨y.toNat, by omega⟩
  rw [fwOr_nat (by omega) (by omega)]
  have := Nat.or_lt_two_pow (n := 8) (x := a) (y := b) (by omega) (by omega)
  omega
theorem mGers_8 (n : Int) (H : Nat → Int) (sl ls : Int) (F : Nat → Int) {m : Nat} (y : Int) (hn : m ≤ 8) : 0 ≤ mGers n H sl ls F m y ∧ mGers n H sl ls F m y < 256 := by
  unfold mGers
  split
  · omega
  · obtain ⟨a, e, ha⟩ := mBits_n (p := fun f => decide (mGain n H sl F f < mGain n (fwFu H (mTop H ls n.toNat).toNat (H (mTop H ls n.toNat).toNat + y)) sl F f)) m (by omega)
    have : 2 ^ m ≤ 2 ^ 8 := Nat.pow_le_pow_right (by omega) hn
    rw [e]
    omega
theorem shl_8 {x : Int} (hx : 0 ≤ x ∧ x ≤ 8) : 1 ≤ fwShl 1 x ∧ fwShl 1 x ≤ 256 := by
  obtain ⟨n, rfl⟩ : ∃ n : Nat, x = n := ⟨x.toNat, by omega⟩
  have key : ∀ n : Nat, n ≤ 8 → 1 ≤ fwShl 1 (n : Int) ∧ fwShl 1 (n : Int) ≤ 256 := by decide +kernel
  exact key n (by omega)
theorem shl_7 {n : Nat} (hn : n < 8) : 0 ≤ fwShl 1 (n : Int) ∧ fwShl 1 (n : Int) < 256 := by
  have key : ∀ n : Nat, n < 8 → 0 ≤ fwShl 1 (n : Int) ∧ fwShl 1 (n : Int) < 256 := by decide +kernel
  exact key n hn
theorem mFew_2 (E : Int → Bool) : ∀ s : Nat, ((mFew E s).1 = -1 ∧ (mFew E s).2 = 9) ∨ ((0 ≤ (mFew E s).1 ∧ (mFew E s).1 < s) ∧ (mFew E s).2 = fwPop (mFew E s).1) := by
  intro s
  induction s with
  | zero => exact Or.inl ⟨rfl, rfl⟩
  | succ s ih =>
    rw [mFew]
    split
    · exact Or.inr ⟨by dsimp only; omega, rfl⟩
    · rcases ih with e | e
      · exact Or.inl e
      · exact Or.inr ⟨by omega, e.2⟩
set_option maxRecDepth 100000 in
set_option maxHeartbeats 4000000 in
theorem c_X12_signers {d : Nat} {h gg : fwH} {Q : Option fwV → fwH → Prop} (x : Int) (J : cOk gg) (R : jF gg h) (K : jA gg h) (hsh : sc h) (hx : -2147483648 ≤ x ∧ x < 2147483648) (k : ∀ g, scr h g → Q (some (aI (an_signers gg x))) g) : fwCt mX12_signers (d + 6) [aR 12 0, aI x] h Q := by
  refine fwCt_of [some (aR 12 0), some (aI x)] rfl rfl rfl ?_
  obtain ⟨hl, hP, hG, hM0, htd, hut, hlw, hhc, ha, hs, hT, hsc⟩ := id J
  have hb17 : hB (gg 17 0) := fun c hc => by have := hM0 c hc; omega
  obtain ⟨⟨g1, g2⟩, ⟨g3, g4⟩, ⟨g5, g6⟩, g7, -⟩ := id hG
  have h17_99 : ∀ c : Nat, (c : Int) < gg 4 0 1 → gg 17 0 c ≤ 99 := fun c hc => (hM0 c (by omega)).2
  have hpz := hP.1
  have hrs1 := R.2.2.2.2.2.2.2.2.2.2.2
  refine w_aload_n dX12_signers_0 rfl ?_
  refine w_iload_n dX12_signers_1 rfl ?_
  refine w_callV (d := d + 5) (S := []) [aI x] dX12_signers_2 ml_X12_266 ok_X12_isSet vi_X12_isSet rfl rfl (by decide) rfl (Nat.le_of_ble_eq_true rfl) ?_
  refine c_X12_isSet (d := (d + 4)) x J R (by omega) ?_
  show fwWP mX12_signers (d + 6) 5 [some (aR 12 0), some (aI x)] [aI (fwB (0 < gg 3 0 6 ∧ 0 ≤ x ∧ x ≤ fwShl 1 (gg 5 0 3) - 1))] h Q
  refine w_ifB_ne 11 dX12_signers_5 (by decide) (fun c5 => ?_) (fun c5 => ?_)
  · refine w_aload_n dX12_signers_11 rfl ?_
    refine w_callV (d := d + 5) (S := []) [] dX12_signers_12 ml_X12_240 ok_X12_asItIs vi_X12_asItIs rfl rfl (by decide) rfl (Nat.le_of_ble_eq_true rfl) ?_
    refine c_X12_asItIs (d := d) J R K (show 1 ≤ gg 4 0 1 by omega) (show 1 ≤ gg 4 0 3 by omega) ?_
    intro A12_2 hA12_2
    show fwWP mX12_signers (d + 6) 15 [some (aR 12 0), some (aI x)] [] (fwUc h 42 0 A12_2) Q
    refine w_aload_n dX12_signers_15 rfl ?_
    refine w_aload_n dX12_signers_16 rfl ?_
    refine w_callV (d := d + 5) (S := [aR 12 0]) [] dX12_signers_17 ml_X12_263 ok_X12_willingSet vi_X12_willingSet rfl rfl (by decide) rfl (Nat.le_of_ble_eq_true rfl) ?_
    refine c_X12_willingSet (d := d) (gg 17 0) J R hA12_2 hb17 (show 1 ≤ gg 4 0 1 by omega) ?_
    intro A17_3 hA17_3
    show fwWP mX12_signers (d + 6) 20 [some (aR 12 0), some (aI x)] [aI (mGers (gg 4 0 1) (gg 17 0) (gg 4 0 2) (gg 4 0 4) (gg 18 0) (gg 5 0 3).toNat (-1)), aR 12 0] (fwUc (fwUc h 42 0 A12_2) 42 0 A17_3) Q
    rw [show (fwUc (fwUc h 42 0 A12_2) 42 0 A17_3) = (fwUc h 42 0 A17_3) from by funext a b; simp only [fwUc]; (repeat' split); all_goals first | rfl | (exfalso; omega)]
    have hwr3 := mGers_r (gg 4 0 1) (gg 17 0) (gg 4 0 2) (gg 4 0 4) (gg 18 0) (m := (gg 5 0 3).toNat) (-1) (by omega)
    have hw8_4 := mGers_8 (gg 4 0 1) (gg 17 0) (gg 4 0 2) (gg 4 0 4) (gg 18 0) (m := (gg 5 0 3).toNat) (-1) (by omega)
    change fwWP _ _ _ _ (aI (mWil gg 0) :: _) _ _
    have hw8 : 0 ≤ mWil gg 0 ∧ mWil gg 0 < 256 := hw8_4
    have hs8 := shl_8 (x := gg 5 0 3) (by omega)
    have ho8 := or_rg hw8 (y := x) (by omega)
    refine w_iload_n dX12_signers_20 rfl ?_
    refine w_ior dX12_signers_21 ?_
    refine w_iconst dX12_signers_22 ?_
    refine w_callV (d := d + 5) (S := []) [aI (fwOr (mWil gg 0) x), aI 0] dX12_signers_23 ml_X12_270 ok_X12_signing vi_X12_signing rfl rfl (by decide) rfl (Nat.le_of_ble_eq_true rfl) ?_
    refine c_sgE (d := (d + 4)) (fwOr (mWil gg 0) x) 0 J R (by omega) (by omega) ?_
    show fwWP mX12_signers (d + 6) 26 [some (aR 12 0), some (aI x)] [aI (mSign (gg 18 0) (gg 5 0 3).toNat (fwOr (mWil gg 0) x) 0)] (fwUc h 42 0 A17_3) Q
    exact w_iretE dX12_signers_26 rfl (by unfold an_signers; first | (rw [if_pos (by omega)]; done) | (rw [if_neg (by omega)]; done) | (rw [if_pos (by omega)]; rfl) | (rw [if_neg (by omega)]; rfl)) (k _ (scr_uc (scr_rf hsh) rfl (by decide) (by decide) (by decide)))
  · refine w_bipush dX12_signers_8 rfl ?_
    exact w_iretE dX12_signers_10 rfl (by unfold an_signers; first | (rw [if_pos (by omega)]; done) | (rw [if_neg (by omega)]; done) | (rw [if_pos (by omega)]; rfl) | (rw [if_neg (by omega)]; rfl)) (k _ (scr_rf hsh))
set_option maxRecDepth 100000 in
set_option maxHeartbeats 4000000 in
theorem c_X12_names {d : Nat} {h gg : fwH} {Q : Option fwV → fwH → Prop} (x : Int) (J : cOk gg) (R : jF gg h) (K : jA gg h) (hsh : sc h) (hx : -2147483648 ≤ x ∧ x < 2147483648) (k : ∀ g, scr h g → Q (some (aI (an_names gg x))) g) : fwCt mX12_names (d + 6) [aR 12 0, aI x] h Q := by
  refine fwCt_of [some (aR 12 0), some (aI x)] rfl rfl rfl ?_
  obtain ⟨hl, hP, hG, hM0, htd, hut, hlw, hhc, ha, hs, hT, hsc⟩ := id J
  have hb17 : hB (gg 17 0) := fun c hc => by have := hM0 c hc; omega
  obtain ⟨⟨g1, g2⟩, ⟨g3, g4⟩, ⟨g5, g6⟩, g7, -⟩ := id hG
  have h17_99 : ∀ c : Nat, (c : Int) < gg 4 0 1 → gg 17 0 c ≤ 99 := fun c hc => (hM0 c (by omega)).2
  have hpz := hP.1
  have hrs1 := R.2.2.2.2.2.2.2.2.2.2.2
  refine w_aload_n dX12_names_0 rfl ?_
  refine w_iload_n dX12_names_1 rfl ?_
  refine w_callV (d := d + 5) (S := []) [aI x] dX12_names_2 ml_X12_266 ok_X12_isSet vi_X12_isSet rfl rfl (by decide) rfl (Nat.le_of_ble_eq_true rfl) ?_
  refine c_X12_isSet (d := (d + 4)) x J R (by omega) ?_
  show fwWP mX12_names (d + 6) 5 [some (aR 12 0), some (aI x)] [aI (fwB (0 < gg 3 0 6 ∧ 0 ≤ x ∧ x ≤ fwShl 1 (gg 5 0 3) - 1))] h Q
  refine w_ifB_ne 11 dX12_names_5 (by decide) (fun c5 => ?_) (fun c5 => ?_)
  · refine w_aload_n dX12_names_11 rfl ?_
    refine w_callV (d := d + 5) (S := []) [] dX12_names_12 ml_X12_240 ok_X12_asItIs vi_X12_asItIs rfl rfl (by decide) rfl (Nat.le_of_ble_eq_true rfl) ?_
    refine c_X12_asItIs (d := d) J R K (show 1 ≤ gg 4 0 1 by omega) (show 1 ≤ gg 4 0 3 by omega) ?_
    intro A12_2 hA12_2
    show fwWP mX12_names (d + 6) 15 [some (aR 12 0), some (aI x)] [] (fwUc h 42 0 A12_2) Q
    refine w_aload_n dX12_names_15 rfl ?_
    refine w_aload_n dX12_names_16 rfl ?_
    refine w_aload_n dX12_names_17 rfl ?_
    refine w_callV (d := d + 5) (S := [aR 12 0, aR 12 0]) [] dX12_names_18 ml_X12_263 ok_X12_willingSet vi_X12_willingSet rfl rfl (by decide) rfl (Nat.le_of_ble_eq_true rfl) ?_
    refine c_X12_willingSet (d := d) (gg 17 0) J R hA12_2 hb17 (show 1 ≤ gg 4 0 1 by omega) ?_
    intro A18_3 hA18_3
    show fwWP mX12_names (d + 6) 21 [some (aR 12 0), some (aI x)] [aI (mGers (gg 4 0 1) (gg 17 0) (gg 4 0 2) (gg 4 0 4) (gg 18 0) (gg 5 0 3).toNat (-1)), aR 12 0, aR 12 0] (fwUc (fwUc h 42 0 A12_2) 42 0 A18_3) Q
    rw [show (fwUc (fwUc h 42 0 A12_2) 42 0 A18_3) = (fwUc h 42 0 A18_3) from by funext a b; simp only [fwUc]; (repeat' split); all_goals first | rfl | (exfalso; omega)]
    have hwr3 := mGers_r (gg 4 0 1) (gg 17 0) (gg 4 0 2) (gg 4 0 4) (gg 18 0) (m := (gg 5 0 3).toNat) (-1) (by omega)
    have hw8_4 := mGers_8 (gg 4 0 1) (gg 17 0) (gg 4 0 2) (gg 4 0 4) (gg 18 0) (m := (gg 5 0 3).toNat) (-1) (by omega)
    change fwWP _ _ _ _ (aI (mWil gg 0) :: _) _ _
    have hw8 : 0 ≤ mWil gg 0 ∧ mWil gg 0 < 256 := hw8_4
    have hs8 := shl_8 (x := gg 5 0 3) (by omega)
    have ho8 := or_rg hw8 (y := x) (by omega)
    refine w_iload_n dX12_names_21 rfl ?_
    refine w_ior dX12_names_22 ?_
    refine w_iconst dX12_names_23 ?_
    refine w_callV (d := d + 5) (S := [aR 12 0]) [aI (fwOr (mWil gg 0) x), aI 0] dX12_names_24 ml_X12_270 ok_X12_signing vi_X12_signing rfl rfl (by decide) rfl (Nat.le_of_ble_eq_true rfl) ?_
    refine c_sgE (d := (d + 4)) (fwOr (mWil gg 0) x) 0 J R (by omega) (by omega) ?_
    show fwWP mX12_names (d + 6) 27 [some (aR 12 0), some (aI x)] [aI (mSign (gg 18 0) (gg 5 0 3).toNat (fwOr (mWil gg 0) x) 0), aR 12 0] (fwUc h 42 0 A18_3) Q
    refine w_callV (d := d + 5) (S := []) [aI (mSign (gg 18 0) (gg 5 0 3).toNat (fwOr (mWil gg 0) x) 0)] dX12_names_27 ml_X12_260 ok_X12_namesOf vi_X12_namesOf rfl rfl (by decide) rfl (Nat.le_of_ble_eq_true rfl) ?_
    refine c_X12_namesOf (d := (d + 4)) (mSign (gg 18 0) (gg 5 0 3).toNat (fwOr (mWil gg 0) x) 0) J R ?_
    show fwWP mX12_names (d + 6) 30 [some (aR 12 0), some (aI x)] [aI (mNames (gg 18 0) (mSign (gg 18 0) (gg 5 0 3).toNat (fwOr (mWil gg 0) x) 0) (gg 5 0 3).toNat)] (fwUc h 42 0 A18_3) Q
    have hnr5 := mNames_r2 hP (mSign (gg 18 0) (gg 5 0 3).toNat (fwOr (mWil gg 0) x) 0)
    exact w_iretE dX12_names_30 rfl (by unfold an_names; first | (rw [if_pos (by omega)]; done) | (rw [if_neg (by omega)]; done) | (rw [if_pos (by omega)]; rfl) | (rw [if_neg (by omega)]; rfl)) (k _ (scr_uc (scr_rf hsh) rfl (by decide) (by decide) (by decide)))
  · refine w_bipush dX12_names_8 rfl ?_
    exact w_iretE dX12_names_10 rfl (by unfold an_names; first | (rw [if_pos (by omega)]; done) | (rw [if_neg (by omega)]; done) | (rw [if_pos (by omega)]; rfl) | (rw [if_neg (by omega)]; rfl)) (k _ (scr_rf hsh))
set_option maxRecDepth 100000 in
set_option maxHeartbeats 4000000 in
theorem c_X12_firstSet {d : Nat} {h gg : fwH} {Q : Option fwV → fwH → Prop}  (J : cOk gg) (R : jF gg h) (K : jA gg h) (ht : 0 < gg 3 0 6) (k : ∀ A, Q (some (aI ((mFew (mEnoB gg) (fwShl 1 (gg 5 0 3)).toNat).1))) (fwUc h 42 0 A)) : fwCt mX12_firstSet (d + 6) [aR 12 0] h Q := by
  refine fwCt_of [some (aR 12 0), none, none, none] rfl rfl rfl ?_
  obtain ⟨hl, hP, hG, hM0, htd, hut, hlw, hhc, ha, hs, hT, hsc⟩ := id J
  have hb17 : hB (gg 17 0) := fun c hc => by have := hM0 c hc; omega
  obtain ⟨⟨g1, g2⟩, ⟨g3, g4⟩, ⟨g5, g6⟩, g7, -⟩ := id hG
  have h17_99 : ∀ c : Nat, (c : Int) < gg 4 0 1 → gg 17 0 c ≤ 99 := fun c hc => (hM0 c (by omega)).2
  have hpz := hP.1
  have hrs1 := R.2.2.2.2.2.2.2.2.2.2.2
  refine w_aload_n dX12_firstSet_0 rfl ?_
  refine w_callV (d := d + 5) (S := []) [] dX12_firstSet_1 ml_X12_240 ok_X12_asItIs vi_X12_asItIs rfl rfl (by decide) rfl (Nat.le_of_ble_eq_true rfl) ?_
  refine c_X12_asItIs (d := d) J R K (show 1 ≤ gg 4 0 1 by omega) (show 1 ≤ gg 4 0 3 by omega) ?_
  intro A1_1 hA1_1
  show fwWP mX12_firstSet (d + 6) 4 [some (aR 12 0), none, none, none] [] (fwUc h 42 0 A1_1) Q
  refine w_aload_n dX12_firstSet_4 rfl ?_
  refine w_callV (d := d + 5) (S := []) [] dX12_firstSet_5 ml_X12_263 ok_X12_willingSet vi_X12_willingSet rfl rfl (by decide) rfl (Nat.le_of_ble_eq_true rfl) ?_
  refine c_X12_willingSet (d := d) (gg 17 0) J R hA1_1 hb17 (show 1 ≤ gg 4 0 1 by omega) ?_
  intro A5_2 hA5_2
  show fwWP mX12_firstSet (d + 6) 8 [some (aR 12 0), none, none, none] [aI (mGers (gg 4 0 1) (gg 17 0) (gg 4 0 2) (gg 4 0 4) (gg 18 0) (gg 5 0 3).toNat (-1))] (fwUc (fwUc h 42 0 A1_1) 42 0 A5_2) Q
  rw [show (fwUc (fwUc h 42 0 A1_1) 42 0 A5_2) = (fwUc h 42 0 A5_2) from by funext a b; simp only [fwUc]; (repeat' split); all_goals first | rfl | (exfalso; omega)]
  have hwr2 := mGers_r (gg 4 0 1) (gg 17 0) (gg 4 0 2) (gg 4 0 4) (gg 18 0) (m := (gg 5 0 3).toNat) (-1) (by omega)
  have hw8_3 := mGers_8 (gg 4 0 1) (gg 17 0) (gg 4 0 2) (gg 4 0 4) (gg 18 0) (m := (gg 5 0 3).toNat) (-1) (by omega)
  change fwWP _ _ _ _ (aI (mWil gg 0) :: _) _ _
  have hw8 : 0 ≤ mWil gg 0 ∧ mWil gg 0 < 256 := hw8_3
  have hs8 := shl_8 (x := gg 5 0 3) (by omega)
  refine w_istore_n [some (aR 12 0), some (aI (mWil gg 0)), none, none] dX12_firstSet_8 rfl (by decide) ?_
  refine w_iconst dX12_firstSet_9 ?_
  refine w_istore_n [some (aR 12 0), some (aI (mWil gg 0)), some (aI (-1)), none] dX12_firstSet_10 rfl (by decide) ?_
  refine w_iconst dX12_firstSet_11 ?_
  refine w_istore_n [some (aR 12 0), some (aI (mWil gg 0)), some (aI (-1)), some (aI 0)] dX12_firstSet_12 rfl (by decide) ?_
  have lp13 : ∀ c : Nat, c ≤ (fwShl 1 (gg 5 0 3)).toNat → ∀ (y13 be : Int), y13 = (c : Int) → be = (mFew (mEnoB gg) c).1 → fwWP mX12_firstSet (d + 6) 13 [some (aR 12 0), some (aI (mWil gg 0)), some (aI be), some (aI y13)] [] (fwUc h 42 0 A5_2) Q := by
    refine fw_up (fun c hc13 ih13 => ?_)
    intro y13 be ey13 e_be
    subst ey13
    subst e_be
    show fwWP mX12_firstSet (d + 6) 13 [some (aR 12 0), some (aI (mWil gg 0)), some (aI ((mFew (mEnoB gg) c).1)), some (aI (c : Int))] [] (fwUc h 42 0 A5_2) Q
    refine w_iload_n dX12_firstSet_13 rfl ?_
    refine w_aload_n dX12_firstSet_14 rfl ?_
    refine w_callV (d := d + 5) (S := [aI (c : Int)]) [] dX12_firstSet_15 ml_X12_77 ok_X12_all vi_X12_all rfl rfl (by decide) rfl (Nat.le_of_ble_eq_true rfl) ?_
    refine c_X12_all (d := (d + 5)) J R ?_
    show fwWP mX12_firstSet (d + 6) 18 [some (aR 12 0), some (aI (mWil gg 0)), some (aI ((mFew (mEnoB gg) c).1)), some (aI (c : Int))] [aI (fwShl 1 (gg 5 0 3) - 1), aI (c : Int)] (fwUc h 42 0 A5_2) Q
    have hsh4 := fwShl1_rng (x := gg 5 0 3) (by omega)
    refine w_icmp_gt 60 dX12_firstSet_18 (by decide) (by omega) (by omega) (fun c18 => ?_) (fun c18 => ?_)
    · have ec13 : (fwShl 1 (gg 5 0 3)).toNat = c := by omega
      subst ec13
      refine w_iload_n dX12_firstSet_60 rfl ?_
      exact w_iret dX12_firstSet_61 rfl (k _)
    · have hf2 := mFew_2 (mEnoB gg) c
      have ho8 := or_rg hw8 (y := (c : Int)) (by omega)
      have hp8 := (pop_8 c (by omega)).1
      refine w_iload_n dX12_firstSet_21 rfl ?_
      refine w_iconst dX12_firstSet_22 ?_
      refine w_icmp_eq 37 dX12_firstSet_23 (by decide) (by omega) (by omega) (fun c23 => ?_) (fun c23 => ?_)
      · refine w_aload_n dX12_firstSet_37 rfl ?_
        refine w_aload_n dX12_firstSet_38 rfl ?_
        refine w_iload_n dX12_firstSet_39 rfl ?_
        refine w_iload_n dX12_firstSet_40 rfl ?_
        refine w_ior dX12_firstSet_41 ?_
        refine w_iconst dX12_firstSet_42 ?_
        refine w_callV (d := d + 5) (S := [aR 12 0]) [aI (fwOr (mWil gg 0) (c : Int)), aI 0] dX12_firstSet_43 ml_X12_270 ok_X12_signing vi_X12_signing rfl rfl (by decide) rfl (Nat.le_of_ble_eq_true rfl) ?_
        refine c_sgE (d := (d + 4)) (fwOr (mWil gg 0) (c : Int)) 0 J R (by omega) (by omega) ?_
        show fwWP mX12_firstSet (d + 6) 46 [some (aR 12 0), some (aI (mWil gg 0)), some (aI ((mFew (mEnoB gg) c).1)), some (aI (c : Int))] [aI (mSign (gg 18 0) (gg 5 0 3).toNat (fwOr (mWil gg 0) (c : Int)) 0), aR 12 0] (fwUc h 42 0 A5_2) Q
        refine w_callV (d := d + 5) (S := []) [aI (mSign (gg 18 0) (gg 5 0 3).toNat (fwOr (mWil gg 0) (c : Int)) 0)] dX12_firstSet_46 ml_X12_273 ok_X12_isEnough vi_X12_isEnough rfl rfl (by decide) rfl (Nat.le_of_ble_eq_true rfl) ?_
        refine c_X12_isEnough (d := (d + 3)) (mSign (gg 18 0) (gg 5 0 3).toNat (fwOr (mWil gg 0) (c : Int)) 0) J R ?_
        show fwWP mX12_firstSet (d + 6) 49 [some (aR 12 0), some (aI (mWil gg 0)), some (aI ((mFew (mEnoB gg) c).1)), some (aI (c : Int))] [aI (fwB (gg 3 0 4 ≤ mNames (gg 18 0) (mSign (gg 18 0) (gg 5 0 3).toNat (fwOr (mWil gg 0) (c : Int)) 0) (gg 5 0 3).toNat))] (fwUc h 42 0 A5_2) Q
        refine w_ifB_eq 54 dX12_firstSet_49 (by decide) (fun c49 => ?_) (fun c49 => ?_)
        · refine w_iinc [some (aR 12 0), some (aI (mWil gg 0)), some (aI ((mFew (mEnoB gg) c).1)), some (aI ((c : Int) + 1))] dX12_firstSet_54 rfl rfl (by decide) ?_
          refine w_goto 13 dX12_firstSet_57 (by decide) ?_
          refine ih13 (by omega) _ _ ?_ ?_
          · exact (by omega)
          · exact (by rw [mFew, if_neg (fun z => c49 (of_decide_eq_true z.2))])
        · refine w_iload_n dX12_firstSet_52 rfl ?_
          refine w_istore_n [some (aR 12 0), some (aI (mWil gg 0)), some (aI (c : Int)), some (aI (c : Int))] dX12_firstSet_53 rfl (by decide) ?_
          refine w_iinc [some (aR 12 0), some (aI (mWil gg 0)), some (aI (c : Int)), some (aI ((c : Int) + 1))] dX12_firstSet_54 rfl rfl (by decide) ?_
          refine w_goto 13 dX12_firstSet_57 (by decide) ?_
          refine ih13 (by omega) _ _ ?_ ?_
          · exact (by omega)
          · exact (by rw [mFew, if_pos ⟨by omega, decide_eq_true c49⟩])
      · refine w_iload_n dX12_firstSet_26 rfl ?_
        refine w_callS (d := d + 5) (S := []) [aI (c : Int)] dX12_firstSet_27 ml_X12_229 ok_X12_bits st_X12_bits rfl (Nat.le_of_ble_eq_true rfl) ?_
        refine c_bitsP (d := (d + 5)) (c : Int) (by first | assumption | omega | decide) ?_
        show fwWP mX12_firstSet (d + 6) 30 [some (aR 12 0), some (aI (mWil gg 0)), some (aI ((mFew (mEnoB gg) c).1)), some (aI (c : Int))] [aI (fwPop (c : Int))] (fwUc h 42 0 A5_2) Q
        have hpp8 := fwPop_rng (c : Int)
        refine w_iload_n dX12_firstSet_30 rfl ?_
        refine w_callS (d := d + 5) (S := [aI (fwPop (c : Int))]) [aI ((mFew (mEnoB gg) c).1)] dX12_firstSet_31 ml_X12_229 ok_X12_bits st_X12_bits rfl (Nat.le_of_ble_eq_true rfl) ?_
        refine c_bitsP (d := (d + 5)) ((mFew (mEnoB gg) c).1) (by first | assumption | omega | decide) ?_
        show fwWP mX12_firstSet (d + 6) 34 [some (aR 12 0), some (aI (mWil gg 0)), some (aI ((mFew (mEnoB gg) c).1)), some (aI (c : Int))] [aI (fwPop ((mFew (mEnoB gg) c).1)), aI (fwPop (c : Int))] (fwUc h 42 0 A5_2) Q
        have hpp9 := fwPop_rng ((mFew (mEnoB gg) c).1)
        refine w_icmp_ge 54 dX12_firstSet_34 (by decide) (by omega) (by omega) (fun c34 => ?_) (fun c34 => ?_)
        · refine w_iinc [some (aR 12 0), some (aI (mWil gg 0)), some (aI ((mFew (mEnoB gg) c).1)), some (aI ((c : Int) + 1))] dX12_firstSet_54 rfl rfl (by decide) ?_
          refine w_goto 13 dX12_firstSet_57 (by decide) ?_
          refine ih13 (by omega) _ _ ?_ ?_
          · exact (by omega)
          · exact (by rw [mFew, if_neg (fun z => by have := z.1; omega)])
        · refine w_aload_n dX12_firstSet_37 rfl ?_
          refine w_aload_n dX12_firstSet_38 rfl ?_
          refine w_iload_n dX12_firstSet_39 rfl ?_
          refine w_iload_n dX12_firstSet_40 rfl ?_
          refine w_ior dX12_firstSet_41 ?_
          refine w_iconst dX12_firstSet_42 ?_
          refine w_callV (d := d + 5) (S := [aR 12 0]) [aI (fwOr (mWil gg 0) (c : Int)), aI 0] dX12_firstSet_43 ml_X12_270 ok_X12_signing vi_X12_signing rfl rfl (by decide) rfl (Nat.le_of_ble_eq_true rfl) ?_
          refine c_sgE (d := (d + 4)) (fwOr (mWil gg 0) (c : Int)) 0 J R (by omega) (by omega) ?_
          show fwWP mX12_firstSet (d + 6) 46 [some (aR 12 0), some (aI (mWil gg 0)), some (aI ((mFew (mEnoB gg) c).1)), some (aI (c : Int))] [aI (mSign (gg 18 0) (gg 5 0 3).toNat (fwOr (mWil gg 0) (c : Int)) 0), aR 12 0] (fwUc h 42 0 A5_2) Q
          refine w_callV (d := d + 5) (S := []) [aI (mSign (gg 18 0) (gg 5 0 3).toNat (fwOr (mWil gg 0) (c : Int)) 0)] dX12_firstSet_46 ml_X12_273 ok_X12_isEnough vi_X12_isEnough rfl rfl (by decide) rfl (Nat.le_of_ble_eq_true rfl) ?_
          refine c_X12_isEnough (d := (d + 3)) (mSign (gg 18 0) (gg 5 0 3).toNat (fwOr (mWil gg 0) (c : Int)) 0) J R ?_
          show fwWP mX12_firstSet (d + 6) 49 [some (aR 12 0), some (aI (mWil gg 0)), some (aI ((mFew (mEnoB gg) c).1)), some (aI (c : Int))] [aI (fwB (gg 3 0 4 ≤ mNames (gg 18 0) (mSign (gg 18 0) (gg 5 0 3).toNat (fwOr (mWil gg 0) (c : Int)) 0) (gg 5 0 3).toNat))] (fwUc h 42 0 A5_2) Q
          refine w_ifB_eq 54 dX12_firstSet_49 (by decide) (fun c49 => ?_) (fun c49 => ?_)
          · refine w_iinc [some (aR 12 0), some (aI (mWil gg 0)), some (aI ((mFew (mEnoB gg) c).1)), some (aI ((c : Int) + 1))] dX12_firstSet_54 rfl rfl (by decide) ?_
            refine w_goto 13 dX12_firstSet_57 (by decide) ?_
            refine ih13 (by omega) _ _ ?_ ?_
            · exact (by omega)
            · exact (by rw [mFew, if_neg (fun z => c49 (of_decide_eq_true z.2))])
          · refine w_iload_n dX12_firstSet_52 rfl ?_
            refine w_istore_n [some (aR 12 0), some (aI (mWil gg 0)), some (aI (c : Int)), some (aI (c : Int))] dX12_firstSet_53 rfl (by decide) ?_
            refine w_iinc [some (aR 12 0), some (aI (mWil gg 0)), some (aI (c : Int)), some (aI ((c : Int) + 1))] dX12_firstSet_54 rfl rfl (by decide) ?_
            refine w_goto 13 dX12_firstSet_57 (by decide) ?_
            refine ih13 (by omega) _ _ ?_ ?_
            · exact (by omega)
            · exact (by rw [mFew, if_pos ⟨by omega, decide_eq_true c49⟩])
  refine lp13 0 (Nat.zero_le _) _ _ ?_ ?_
  · exact (by omega)
  · exact rfl
set_option maxRecDepth 100000 in
set_option maxHeartbeats 4000000 in
theorem c_X12_firsts {d : Nat} {h gg : fwH} {Q : Option fwV → fwH → Prop}  (J : cOk gg) (R : jF gg h) (K : jA gg h) (hsh : sc h)  (k : ∀ g, scr h g → Q (some (aI (an_firsts gg ))) g) : fwCt mX12_firsts (d + 7) [aR 12 0] h Q := by
  refine fwCt_of [some (aR 12 0)] rfl rfl rfl ?_
  obtain ⟨hl, hP, hG, hM0, htd, hut, hlw, hhc, ha, hs, hT, hsc⟩ := id J
  have hb17 : hB (gg 17 0) := fun c hc => by have := hM0 c hc; omega
  obtain ⟨⟨g1, g2⟩, ⟨g3, g4⟩, ⟨g5, g6⟩, g7, -⟩ := id hG
  have h17_99 : ∀ c : Nat, (c : Int) < gg 4 0 1 → gg 17 0 c ≤ 99 := fun c hc => (hM0 c (by omega)).2
  have hpz := hP.1
  have hrs1 := R.2.2.2.2.2.2.2.2.2.2.2
  refine w_aload_n dX12_firsts_0 rfl ?_
  refine w_callV (d := d + 6) (S := []) [] dX12_firsts_1 ml_X12_73 ok_X12_isMount vi_X12_isMount rfl rfl (by decide) rfl (Nat.le_of_ble_eq_true rfl) ?_
  refine c_X12_isMount (d := (d + 6)) J R ?_
  show fwWP mX12_firsts (d + 7) 4 [some (aR 12 0)] [aI (fwB (0 < gg 3 0 6))] h Q
  refine w_ifB_eq 14 dX12_firsts_4 (by decide) (fun c4 => ?_) (fun c4 => ?_)
  · refine w_bipush dX12_firsts_14 rfl ?_
    exact w_iretE dX12_firsts_16 rfl (by unfold an_firsts; first | (rw [if_pos (by omega)]; done) | (rw [if_neg (by omega)]; done) | (rw [if_pos (by omega)]; rfl) | (rw [if_neg (by omega)]; rfl)) (k _ (scr_rf hsh))
  · refine w_aload_n dX12_firsts_7 rfl ?_
    refine w_callV (d := d + 6) (S := []) [] dX12_firsts_8 ml_X12_276 ok_X12_firstSet vi_X12_firstSet rfl rfl (by decide) rfl (Nat.le_of_ble_eq_true rfl) ?_
    refine c_X12_firstSet (d := d) J R K (by omega) ?_
    intro A8_2
    show fwWP mX12_firsts (d + 7) 11 [some (aR 12 0)] [aI ((mFew (mEnoB gg) (fwShl 1 (gg 5 0 3)).toNat).1)] (fwUc h 42 0 A8_2) Q
    have hf2 := mFew_2 (mEnoB gg) (fwShl 1 (gg 5 0 3)).toNat
    have hs8 := shl_8 (x := gg 5 0 3) (by omega)
    refine w_goto 16 dX12_firsts_11 (by decide) ?_
    exact w_iretE dX12_firsts_16 rfl (by unfold an_firsts; first | (rw [if_pos (by omega)]; done) | (rw [if_neg (by omega)]; done) | (rw [if_pos (by omega)]; rfl) | (rw [if_neg (by omega)]; rfl)) (k _ (scr_uc (scr_rf hsh) rfl (by decide) (by decide) (by decide)))
set_option maxRecDepth 100000 in
set_option maxHeartbeats 4000000 in
theorem c_X12_first {d : Nat} {h gg : fwH} {Q : Option fwV → fwH → Prop}  (J : cOk gg) (R : jF gg h) (K : jA gg h) (hsh : sc h)  (k : ∀ g, scr h g → Q (some (aI (an_first gg ))) g) : fwCt mX12_first (d + 7) [aR 12 0] h Q := by
  refine fwCt_of [some (aR 12 0), none] rfl rfl rfl ?_
  obtain ⟨hl, hP, hG, hM0, htd, hut, hlw, hhc, ha, hs, hT, hsc⟩ := id J
  have hb17 : hB (gg 17 0) := fun c hc => by have := hM0 c hc; omega
  obtain ⟨⟨g1, g2⟩, ⟨g3, g4⟩, ⟨g5, g6⟩, g7, -⟩ := id hG
  have h17_99 : ∀ c : Nat, (c : Int) < gg 4 0 1 → gg 17 0 c ≤ 99 := fun c hc => (hM0 c (by omega)).2
  have hpz := hP.1
  have hrs1 := R.2.2.2.2.2.2.2.2.2.2.2
  refine w_aload_n dX12_first_0 rfl ?_
  refine w_callV (d := d + 6) (S := []) [] dX12_first_1 ml_X12_73 ok_X12_isMount vi_X12_isMount rfl rfl (by decide) rfl (Nat.le_of_ble_eq_true rfl) ?_
  refine c_X12_isMount (d := (d + 6)) J R ?_
  show fwWP mX12_first (d + 7) 4 [some (aR 12 0), none] [aI (fwB (0 < gg 3 0 6))] h Q
  refine w_ifB_ne 10 dX12_first_4 (by decide) (fun c4 => ?_) (fun c4 => ?_)
  · refine w_aload_n dX12_first_10 rfl ?_
    refine w_callV (d := d + 6) (S := []) [] dX12_first_11 ml_X12_276 ok_X12_firstSet vi_X12_firstSet rfl rfl (by decide) rfl (Nat.le_of_ble_eq_true rfl) ?_
    refine c_X12_firstSet (d := d) J R K (by omega) ?_
    intro A11_2
    show fwWP mX12_first (d + 7) 14 [some (aR 12 0), none] [aI ((mFew (mEnoB gg) (fwShl 1 (gg 5 0 3)).toNat).1)] (fwUc h 42 0 A11_2) Q
    have hf2 := mFew_2 (mEnoB gg) (fwShl 1 (gg 5 0 3)).toNat
    have hs8 := shl_8 (x := gg 5 0 3) (by omega)
    refine w_istore_n [some (aR 12 0), some (aI ((mFew (mEnoB gg) (fwShl 1 (gg 5 0 3)).toNat).1))] dX12_first_14 rfl (by decide) ?_
    refine w_iload_n dX12_first_15 rfl ?_
    refine w_iconst dX12_first_16 ?_
    refine w_icmp_ne 24 dX12_first_17 (by decide) (by omega) (by omega) (fun c17 => ?_) (fun c17 => ?_)
    · refine w_iload_n dX12_first_24 rfl ?_
      refine w_callS (d := d + 6) (S := []) [aI ((mFew (mEnoB gg) (fwShl 1 (gg 5 0 3)).toNat).1)] dX12_first_25 ml_X12_229 ok_X12_bits st_X12_bits rfl (Nat.le_of_ble_eq_true rfl) ?_
      refine c_bitsP (d := (d + 6)) ((mFew (mEnoB gg) (fwShl 1 (gg 5 0 3)).toNat).1) (by first | assumption | omega | decide) ?_
      show fwWP mX12_first (d + 7) 28 [some (aR 12 0), some (aI ((mFew (mEnoB gg) (fwShl 1 (gg 5 0 3)).toNat).1))] [aI (fwPop ((mFew (mEnoB gg) (fwShl 1 (gg 5 0 3)).toNat).1))] (fwUc h 42 0 A11_2) Q
      have hpp4 := fwPop_rng ((mFew (mEnoB gg) (fwShl 1 (gg 5 0 3)).toNat).1)
      exact w_iretE dX12_first_28 rfl (by unfold an_first; first | (rw [if_neg (by omega)]; done) | (rw [if_pos (by omega), if_pos (by omega)]; done) | (rw [if_pos (by omega), if_neg (by omega)]; done)) (k _ (scr_uc (scr_rf hsh) rfl (by decide) (by decide) (by decide)))
    · refine w_iconst dX12_first_20 ?_
      refine w_goto 28 dX12_first_21 (by decide) ?_
      exact w_iretE dX12_first_28 rfl (by unfold an_first; first | (rw [if_neg (by omega)]; done) | (rw [if_pos (by omega), if_pos (by omega)]; done) | (rw [if_pos (by omega), if_neg (by omega)]; done)) (k _ (scr_uc (scr_rf hsh) rfl (by decide) (by decide) (by decide)))
  · refine w_bipush dX12_first_7 rfl ?_
    exact w_iretE dX12_first_9 rfl (by unfold an_first; first | (rw [if_neg (by omega)]; done) | (rw [if_pos (by omega), if_pos (by omega)]; done) | (rw [if_pos (by omega), if_neg (by omega)]; done)) (k _ (scr_rf hsh))
set_option maxRecDepth 100000 in
set_option maxHeartbeats 4000000 in
theorem c_X12_next {d : Nat} {h gg : fwH} {Q : Option fwV → fwH → Prop} (x : Int) (J : cOk gg) (R : jF gg h) (K : jA gg h) (hsh : sc h) (hx : -2147483648 ≤ x ∧ x < 2147483648) (k : ∀ g, scr h g → Q (some (aI (an_next gg x))) g) : fwCt mX12_next (d + 6) [aR 12 0, aI x] h Q := by
  refine fwCt_of [some (aR 12 0), some (aI x), none, none, none, none, none] rfl rfl rfl ?_
  obtain ⟨hl, hP, hG, hM0, htd, hut, hlw, hhc, ha, hs, hT, hsc⟩ := id J
  have hb17 : hB (gg 17 0) := fun c hc => by have := hM0 c hc; omega
  obtain ⟨⟨g1, g2⟩, ⟨g3, g4⟩, ⟨g5, g6⟩, g7, -⟩ := id hG
  have h17_99 : ∀ c : Nat, (c : Int) < gg 4 0 1 → gg 17 0 c ≤ 99 := fun c hc => (hM0 c (by omega)).2
  have hpz := hP.1
  have hrs1 := R.2.2.2.2.2.2.2.2.2.2.2
  refine w_aload_n dX12_next_0 rfl ?_
  refine w_iload_n dX12_next_1 rfl ?_
  refine w_callV (d := d + 5) (S := []) [aI x] dX12_next_2 ml_X12_266 ok_X12_isSet vi_X12_isSet rfl rfl (by decide) rfl (Nat.le_of_ble_eq_true rfl) ?_
  refine c_X12_isSet (d := (d + 4)) x J R (by omega) ?_
  show fwWP mX12_next (d + 6) 5 [some (aR 12 0), some (aI x), none, none, none, none, none] [aI (fwB (0 < gg 3 0 6 ∧ 0 ≤ x ∧ x ≤ fwShl 1 (gg 5 0 3) - 1))] h Q
  refine w_ifB_ne 11 dX12_next_5 (by decide) (fun c5 => ?_) (fun c5 => ?_)
  · refine w_aload_n dX12_next_11 rfl ?_
    refine w_callV (d := d + 5) (S := []) [] dX12_next_12 ml_X12_240 ok_X12_asItIs vi_X12_asItIs rfl rfl (by decide) rfl (Nat.le_of_ble_eq_true rfl) ?_
    refine c_X12_asItIs (d := d) J R K (show 1 ≤ gg 4 0 1 by omega) (show 1 ≤ gg 4 0 3 by omega) ?_
    intro A12_2 hA12_2
    show fwWP mX12_next (d + 6) 15 [some (aR 12 0), some (aI x), none, none, none, none, none] [] (fwUc h 42 0 A12_2) Q
    refine w_aload_n dX12_next_15 rfl ?_
    refine w_callV (d := d + 5) (S := []) [] dX12_next_16 ml_X12_263 ok_X12_willingSet vi_X12_willingSet rfl rfl (by decide) rfl (Nat.le_of_ble_eq_true rfl) ?_
    refine c_X12_willingSet (d := d) (gg 17 0) J R hA12_2 hb17 (show 1 ≤ gg 4 0 1 by omega) ?_
    intro A16_3 hA16_3
    show fwWP mX12_next (d + 6) 19 [some (aR 12 0), some (aI x), none, none, none, none, none] [aI (mGers (gg 4 0 1) (gg 17 0) (gg 4 0 2) (gg 4 0 4) (gg 18 0) (gg 5 0 3).toNat (-1))] (fwUc (fwUc h 42 0 A12_2) 42 0 A16_3) Q
    rw [show (fwUc (fwUc h 42 0 A12_2) 42 0 A16_3) = (fwUc h 42 0 A16_3) from by funext a b; simp only [fwUc]; (repeat' split); all_goals first | rfl | (exfalso; omega)]
    have hwr3 := mGers_r (gg 4 0 1) (gg 17 0) (gg 4 0 2) (gg 4 0 4) (gg 18 0) (m := (gg 5 0 3).toNat) (-1) (by omega)
    have hw8_4 := mGers_8 (gg 4 0 1) (gg 17 0) (gg 4 0 2) (gg 4 0 4) (gg 18 0) (m := (gg 5 0 3).toNat) (-1) (by omega)
    change fwWP _ _ _ _ (aI (mWil gg 0) :: _) _ _
    have hw8 : 0 ≤ mWil gg 0 ∧ mWil gg 0 < 256 := hw8_4
    have hs8 := shl_8 (x := gg 5 0 3) (by omega)
    have ho8 := or_rg hw8 (y := x) (by omega)
    refine w_iload_n dX12_next_19 rfl ?_
    refine w_ior dX12_next_20 ?_
    refine w_istore_n [some (aR 12 0), some (aI x), some (aI (fwOr (mWil gg 0) x)), none, none, none, none] dX12_next_21 rfl (by decide) ?_
    refine w_aload_n dX12_next_22 rfl ?_
    refine w_aload_n dX12_next_23 rfl ?_
    refine w_iload_n dX12_next_24 rfl ?_
    refine w_iconst dX12_next_25 ?_
    refine w_callV (d := d + 5) (S := [aR 12 0]) [aI (fwOr (mWil gg 0) x), aI 0] dX12_next_26 ml_X12_270 ok_X12_signing vi_X12_signing rfl rfl (by decide) rfl (Nat.le_of_ble_eq_true rfl) ?_
    refine c_sgE (d := (d + 4)) (fwOr (mWil gg 0) x) 0 J R (by omega) (by omega) ?_
    show fwWP mX12_next (d + 6) 29 [some (aR 12 0), some (aI x), some (aI (fwOr (mWil gg 0) x)), none, none, none, none] [aI (mSign (gg 18 0) (gg 5 0 3).toNat (fwOr (mWil gg 0) x) 0), aR 12 0] (fwUc h 42 0 A16_3) Q
    refine w_callV (d := d + 5) (S := []) [aI (mSign (gg 18 0) (gg 5 0 3).toNat (fwOr (mWil gg 0) x) 0)] dX12_next_29 ml_X12_260 ok_X12_namesOf vi_X12_namesOf rfl rfl (by decide) rfl (Nat.le_of_ble_eq_true rfl) ?_
    refine c_X12_namesOf (d := (d + 4)) (mSign (gg 18 0) (gg 5 0 3).toNat (fwOr (mWil gg 0) x) 0) J R ?_
    show fwWP mX12_next (d + 6) 32 [some (aR 12 0), some (aI x), some (aI (fwOr (mWil gg 0) x)), none, none, none, none] [aI (mNames (gg 18 0) (mSign (gg 18 0) (gg 5 0 3).toNat (fwOr (mWil gg 0) x) 0) (gg 5 0 3).toNat)] (fwUc h 42 0 A16_3) Q
    have hnr5 := mNames_r2 hP (mSign (gg 18 0) (gg 5 0 3).toNat (fwOr (mWil gg 0) x) 0)
    refine w_istore_n [some (aR 12 0), some (aI x), some (aI (fwOr (mWil gg 0) x)), some (aI (mNames (gg 18 0) (mSign (gg 18 0) (gg 5 0 3).toNat (fwOr (mWil gg 0) x) 0) (gg 5 0 3).toNat)), none, none, none] dX12_next_32 rfl (by decide) ?_
    refine w_iconst dX12_next_33 ?_
    refine w_istore [some (aR 12 0), some (aI x), some (aI (fwOr (mWil gg 0) x)), some (aI (mNames (gg 18 0) (mSign (gg 18 0) (gg 5 0 3).toNat (fwOr (mWil gg 0) x) 0) (gg 5 0 3).toNat)), some (aI (-1)), none, none] dX12_next_34 rfl (by decide) ?_
    refine w_iconst dX12_next_36 ?_
    refine w_istore [some (aR 12 0), some (aI x), some (aI (fwOr (mWil gg 0) x)), some (aI (mNames (gg 18 0) (mSign (gg 18 0) (gg 5 0 3).toNat (fwOr (mWil gg 0) x) 0) (gg 5 0 3).toNat)), some (aI (-1)), some (aI 0), none] dX12_next_37 rfl (by decide) ?_
    have lp39 : ∀ c : Nat, c ≤ (gg 5 0 3).toNat → ∀ (y39 mo be : Int), y39 = (c : Int) → mo = (mBes gg x c).2 → be = (mBes gg x c).1 → fwWP mX12_next (d + 6) 39 [some (aR 12 0), some (aI x), some (aI (fwOr (mWil gg 0) x)), some (aI mo), some (aI be), some (aI y39), none] [] (fwUc h 42 0 A16_3) Q := by
      refine fw_up (fun c hc39 ih39 => ?_)
      intro y39 mo be ey39 e_mo e_be
      subst ey39
      subst e_mo
      subst e_be
      show fwWP mX12_next (d + 6) 39 [some (aR 12 0), some (aI x), some (aI (fwOr (mWil gg 0) x)), some (aI ((mBes gg x c).2)), some (aI ((mBes gg x c).1)), some (aI (c : Int)), none] [] (fwUc h 42 0 A16_3) Q
      refine w_iload dX12_next_39 rfl ?_
      refine w_aload_n dX12_next_41 rfl ?_
      refine w_getr 36 0 dX12_next_42 fl_X12_9 rfl (by decide) ?_
      refine w_bipush dX12_next_45 rfl ?_
      refine w_ialdE (v := gg 5 0 3) dX12_next_47 rfl (by decide) (by omega) (by omega) R.2.2.2.2.2.2.1 ?_
      refine w_icmp_ge 90 dX12_next_48 (by decide) (by omega) (by omega) (fun c48 => ?_) (fun c48 => ?_)
      · have ec39 : (gg 5 0 3).toNat = c := by omega
        subst ec39
        refine w_iload dX12_next_90 rfl ?_
        exact w_iretE dX12_next_92 rfl (by unfold an_next; first | (rw [if_pos (by omega)]; done) | (rw [if_neg (by omega)]; done) | (rw [if_pos (by omega)]; rfl) | (rw [if_neg (by omega)]; rfl)) (k _ (scr_uc (scr_rf hsh) rfl (by decide) (by decide) (by decide)))
      · have hsf := shl_7 (n := c) (by omega)
        have ho9 := or_rg ho8 hsf
        have hbr := mBes_rng hP x c
        refine w_aload_n dX12_next_51 rfl ?_
        refine w_aload_n dX12_next_52 rfl ?_
        refine w_iload_n dX12_next_53 rfl ?_
        refine w_iconst dX12_next_54 ?_
        refine w_iload dX12_next_55 rfl ?_
        refine w_ishl dX12_next_57 ?_
        refine w_ior dX12_next_58 ?_
        refine w_iconst dX12_next_59 ?_
        refine w_callV (d := d + 5) (S := [aR 12 0]) [aI (fwOr (fwOr (mWil gg 0) x) (fwShl 1 (c : Int))), aI 0] dX12_next_60 ml_X12_270 ok_X12_signing vi_X12_signing rfl rfl (by decide) rfl (Nat.le_of_ble_eq_true rfl) ?_
        refine c_sgE (d := (d + 4)) (fwOr (fwOr (mWil gg 0) x) (fwShl 1 (c : Int))) 0 J R (by omega) (by omega) ?_
        show fwWP mX12_next (d + 6) 63 [some (aR 12 0), some (aI x), some (aI (fwOr (mWil gg 0) x)), some (aI ((mBes gg x c).2)), some (aI ((mBes gg x c).1)), some (aI (c : Int)), none] [aI (mSign (gg 18 0) (gg 5 0 3).toNat (fwOr (fwOr (mWil gg 0) x) (fwShl 1 (c : Int))) 0), aR 12 0] (fwUc h 42 0 A16_3) Q
        refine w_callV (d := d + 5) (S := []) [aI (mSign (gg 18 0) (gg 5 0 3).toNat (fwOr (fwOr (mWil gg 0) x) (fwShl 1 (c : Int))) 0)] dX12_next_63 ml_X12_260 ok_X12_namesOf vi_X12_namesOf rfl rfl (by decide) rfl (Nat.le_of_ble_eq_true rfl) ?_
        refine c_X12_namesOf (d := (d + 4)) (mSign (gg 18 0) (gg 5 0 3).toNat (fwOr (fwOr (mWil gg 0) x) (fwShl 1 (c : Int))) 0) J R ?_
        show fwWP mX12_next (d + 6) 66 [some (aR 12 0), some (aI x), some (aI (fwOr (mWil gg 0) x)), some (aI ((mBes gg x c).2)), some (aI ((mBes gg x c).1)), some (aI (c : Int)), none] [aI (mNames (gg 18 0) (mSign (gg 18 0) (gg 5 0 3).toNat (fwOr (fwOr (mWil gg 0) x) (fwShl 1 (c : Int))) 0) (gg 5 0 3).toNat)] (fwUc h 42 0 A16_3) Q
        have hnr7 := mNames_r2 hP (mSign (gg 18 0) (gg 5 0 3).toNat (fwOr (fwOr (mWil gg 0) x) (fwShl 1 (c : Int))) 0)
        refine w_istore [some (aR 12 0), some (aI x), some (aI (fwOr (mWil gg 0) x)), some (aI ((mBes gg x c).2)), some (aI ((mBes gg x c).1)), some (aI (c : Int)), some (aI (mNames (gg 18 0) (mSign (gg 18 0) (gg 5 0 3).toNat (fwOr (fwOr (mWil gg 0) x) (fwShl 1 (c : Int))) 0) (gg 5 0 3).toNat))] dX12_next_66 rfl (by decide) ?_
        refine w_iload dX12_next_68 rfl ?_
        refine w_iload_n dX12_next_70 rfl ?_
        refine w_icmp_gt 77 dX12_next_71 (by decide) (by omega) (by omega) (fun c71 => ?_) (fun c71 => ?_)
        · refine w_iload dX12_next_77 rfl ?_
          refine w_istore_n [some (aR 12 0), some (aI x), some (aI (fwOr (mWil gg 0) x)), some (aI (mNames (gg 18 0) (mSign (gg 18 0) (gg 5 0 3).toNat (fwOr (fwOr (mWil gg 0) x) (fwShl 1 (c : Int))) 0) (gg 5 0 3).toNat)), some (aI ((mBes gg x c).1)), some (aI (c : Int)), some (aI (mNames (gg 18 0) (mSign (gg 18 0) (gg 5 0 3).toNat (fwOr (fwOr (mWil gg 0) x) (fwShl 1 (c : Int))) 0) (gg 5 0 3).toNat))] dX12_next_79 rfl (by decide) ?_
          refine w_iload dX12_next_80 rfl ?_
          refine w_istore [some (aR 12 0), some (aI x), some (aI (fwOr (mWil gg 0) x)), some (aI (mNames (gg 18 0) (mSign (gg 18 0) (gg 5 0 3).toNat (fwOr (fwOr (mWil gg 0) x) (fwShl 1 (c : Int))) 0) (gg 5 0 3).toNat)), some (aI (c : Int)), some (aI (c : Int)), some (aI (mNames (gg 18 0) (mSign (gg 18 0) (gg 5 0 3).toNat (fwOr (fwOr (mWil gg 0) x) (fwShl 1 (c : Int))) 0) (gg 5 0 3).toNat))] dX12_next_82 rfl (by decide) ?_
          refine w_iinc [some (aR 12 0), some (aI x), some (aI (fwOr (mWil gg 0) x)), some (aI (mNames (gg 18 0) (mSign (gg 18 0) (gg 5 0 3).toNat (fwOr (fwOr (mWil gg 0) x) (fwShl 1 (c : Int))) 0) (gg 5 0 3).toNat)), some (aI (c : Int)), some (aI ((c : Int) + 1)), some (aI (mNames (gg 18 0) (mSign (gg 18 0) (gg 5 0 3).toNat (fwOr (fwOr (mWil gg 0) x) (fwShl 1 (c : Int))) 0) (gg 5 0 3).toNat))] dX12_next_84 rfl rfl (by decide) ?_
          refine w_goto 39 dX12_next_87 (by decide) ?_
          refine w_drop [6] [some (aR 12 0), some (aI x), some (aI (fwOr (mWil gg 0) x)), some (aI (mNames (gg 18 0) (mSign (gg 18 0) (gg 5 0 3).toNat (fwOr (fwOr (mWil gg 0) x) (fwShl 1 (c : Int))) 0) (gg 5 0 3).toNat)), some (aI (c : Int)), some (aI ((c : Int) + 1)), none] rfl ?_
          refine ih39 (by omega) _ _ _ ?_ ?_ ?_
          · exact (by omega)
          · exact (by rw [mBes.eq_2, if_pos (show _ < mBesN gg x c by unfold mBesN; omega)]; try rfl)
          · exact (by rw [mBes.eq_2, if_pos (show _ < mBesN gg x c by unfold mBesN; omega)]; try rfl)
        · refine w_goto 84 dX12_next_74 (by decide) ?_
          refine w_iinc [some (aR 12 0), some (aI x), some (aI (fwOr (mWil gg 0) x)), some (aI ((mBes gg x c).2)), some (aI ((mBes gg x c).1)), some (aI ((c : Int) + 1)), some (aI (mNames (gg 18 0) (mSign (gg 18 0) (gg 5 0 3).toNat (fwOr (fwOr (mWil gg 0) x) (fwShl 1 (c : Int))) 0) (gg 5 0 3).toNat))] dX12_next_84 rfl rfl (by decide) ?_
          refine w_goto 39 dX12_next_87 (by decide) ?_
          refine w_drop [6] [some (aR 12 0), some (aI x), some (aI (fwOr (mWil gg 0) x)), some (aI ((mBes gg x c).2)), some (aI ((mBes gg x c).1)), some (aI ((c : Int) + 1)), none] rfl ?_
          refine ih39 (by omega) _ _ _ ?_ ?_ ?_
          · exact (by omega)
          · exact (by rw [mBes.eq_2, if_neg (show ¬ _ < mBesN gg x c by unfold mBesN; omega)])
          · exact (by rw [mBes.eq_2, if_neg (show ¬ _ < mBesN gg x c by unfold mBesN; omega)])
    refine lp39 0 (Nat.zero_le _) _ _ _ ?_ ?_ ?_
    · exact (by omega)
    · exact rfl
    · exact rfl
  · refine w_bipush dX12_next_8 rfl ?_
    exact w_iretE dX12_next_10 rfl (by unfold an_next; first | (rw [if_pos (by omega)]; done) | (rw [if_neg (by omega)]; done) | (rw [if_pos (by omega)]; rfl) | (rw [if_neg (by omega)]; rfl)) (k _ (scr_rf hsh))
set_option maxRecDepth 100000 in
set_option maxHeartbeats 4000000 in
theorem c_X12_needed {d : Nat} {h gg : fwH} {Q : Option fwV → fwH → Prop}  (J : cOk gg) (R : jF gg h) (K : jA gg h) (hsh : sc h)  (k : ∀ g, scr h g → Q (some (aI (an_needed gg ))) g) : fwCt mX12_needed (d + 6) [aR 12 0] h Q := by
  refine fwCt_of [some (aR 12 0), none, none, none] rfl rfl rfl ?_
  obtain ⟨hl, hP, hG, hM0, htd, hut, hlw, hhc, ha, hs, hT, hsc⟩ := id J
  have hb17 : hB (gg 17 0) := fun c hc => by have := hM0 c hc; omega
  obtain ⟨⟨g1, g2⟩, ⟨g3, g4⟩, ⟨g5, g6⟩, g7, -⟩ := id hG
  have h17_99 : ∀ c : Nat, (c : Int) < gg 4 0 1 → gg 17 0 c ≤ 99 := fun c hc => (hM0 c (by omega)).2
  have hpz := hP.1
  have hrs1 := R.2.2.2.2.2.2.2.2.2.2.2
  refine w_aload_n dX12_needed_0 rfl ?_
  refine w_callV (d := d + 5) (S := []) [] dX12_needed_1 ml_X12_73 ok_X12_isMount vi_X12_isMount rfl rfl (by decide) rfl (Nat.le_of_ble_eq_true rfl) ?_
  refine c_X12_isMount (d := (d + 5)) J R ?_
  show fwWP mX12_needed (d + 6) 4 [some (aR 12 0), none, none, none] [aI (fwB (0 < gg 3 0 6))] h Q
  refine w_ifB_ne 10 dX12_needed_4 (by decide) (fun c4 => ?_) (fun c4 => ?_)
  · refine w_aload_n dX12_needed_10 rfl ?_
    refine w_callV (d := d + 5) (S := []) [] dX12_needed_11 ml_X12_240 ok_X12_asItIs vi_X12_asItIs rfl rfl (by decide) rfl (Nat.le_of_ble_eq_true rfl) ?_
    refine c_X12_asItIs (d := d) J R K (show 1 ≤ gg 4 0 1 by omega) (show 1 ≤ gg 4 0 3 by omega) ?_
    intro A11_2 hA11_2
    show fwWP mX12_needed (d + 6) 14 [some (aR 12 0), none, none, none] [] (fwUc h 42 0 A11_2) Q
    refine w_aload_n dX12_needed_14 rfl ?_
    refine w_callV (d := d + 5) (S := []) [] dX12_needed_15 ml_X12_263 ok_X12_willingSet vi_X12_willingSet rfl rfl (by decide) rfl (Nat.le_of_ble_eq_true rfl) ?_
    refine c_X12_willingSet (d := d) (gg 17 0) J R hA11_2 hb17 (show 1 ≤ gg 4 0 1 by omega) ?_
    intro A15_3 hA15_3
    show fwWP mX12_needed (d + 6) 18 [some (aR 12 0), none, none, none] [aI (mGers (gg 4 0 1) (gg 17 0) (gg 4 0 2) (gg 4 0 4) (gg 18 0) (gg 5 0 3).toNat (-1))] (fwUc (fwUc h 42 0 A11_2) 42 0 A15_3) Q
    rw [show (fwUc (fwUc h 42 0 A11_2) 42 0 A15_3) = (fwUc h 42 0 A15_3) from by funext a b; simp only [fwUc]; (repeat' split); all_goals first | rfl | (exfalso; omega)]
    have hwr3 := mGers_r (gg 4 0 1) (gg 17 0) (gg 4 0 2) (gg 4 0 4) (gg 18 0) (m := (gg 5 0 3).toNat) (-1) (by omega)
    have hw8_4 := mGers_8 (gg 4 0 1) (gg 17 0) (gg 4 0 2) (gg 4 0 4) (gg 18 0) (m := (gg 5 0 3).toNat) (-1) (by omega)
    change fwWP _ _ _ _ (aI (mWil gg 0) :: _) _ _
    have hw8 : 0 ≤ mWil gg 0 ∧ mWil gg 0 < 256 := hw8_4
    have hs8 := shl_8 (x := gg 5 0 3) (by omega)
    refine w_istore_n [some (aR 12 0), some (aI (mWil gg 0)), none, none] dX12_needed_18 rfl (by decide) ?_
    refine w_aload_n dX12_needed_19 rfl ?_
    refine w_aload_n dX12_needed_20 rfl ?_
    refine w_iload_n dX12_needed_21 rfl ?_
    refine w_iconst dX12_needed_22 ?_
    refine w_callV (d := d + 5) (S := [aR 12 0]) [aI (mWil gg 0), aI 0] dX12_needed_23 ml_X12_270 ok_X12_signing vi_X12_signing rfl rfl (by decide) rfl (Nat.le_of_ble_eq_true rfl) ?_
    refine c_sgE (d := (d + 4)) (mWil gg 0) 0 J R (by omega) (by omega) ?_
    show fwWP mX12_needed (d + 6) 26 [some (aR 12 0), some (aI (mWil gg 0)), none, none] [aI (mSign (gg 18 0) (gg 5 0 3).toNat (mWil gg 0) 0), aR 12 0] (fwUc h 42 0 A15_3) Q
    refine w_callV (d := d + 5) (S := []) [aI (mSign (gg 18 0) (gg 5 0 3).toNat (mWil gg 0) 0)] dX12_needed_26 ml_X12_273 ok_X12_isEnough vi_X12_isEnough rfl rfl (by decide) rfl (Nat.le_of_ble_eq_true rfl) ?_
    refine c_X12_isEnough (d := (d + 3)) (mSign (gg 18 0) (gg 5 0 3).toNat (mWil gg 0) 0) J R ?_
    show fwWP mX12_needed (d + 6) 29 [some (aR 12 0), some (aI (mWil gg 0)), none, none] [aI (fwB (gg 3 0 4 ≤ mNames (gg 18 0) (mSign (gg 18 0) (gg 5 0 3).toNat (mWil gg 0) 0) (gg 5 0 3).toNat))] (fwUc h 42 0 A15_3) Q
    refine w_ifB_ne 34 dX12_needed_29 (by decide) (fun c29 => ?_) (fun c29 => ?_)
    · refine w_iconst dX12_needed_34 ?_
      refine w_istore_n [some (aR 12 0), some (aI (mWil gg 0)), some (aI 0), none] dX12_needed_35 rfl (by decide) ?_
      refine w_iconst dX12_needed_36 ?_
      refine w_istore_n [some (aR 12 0), some (aI (mWil gg 0)), some (aI 0), some (aI 0)] dX12_needed_37 rfl (by decide) ?_
      have lp38 : ∀ c : Nat, c ≤ (gg 5 0 3).toNat → ∀ (y38 se : Int), y38 = (c : Int) → se = mBits (mNeedB gg) c → fwWP mX12_needed (d + 6) 38 [some (aR 12 0), some (aI (mWil gg 0)), some (aI se), some (aI y38)] [] (fwUc h 42 0 A15_3) Q := by
        refine fw_up (fun c hc38 ih38 => ?_)
        intro y38 se ey38 e_se
        subst ey38
        subst e_se
        show fwWP mX12_needed (d + 6) 38 [some (aR 12 0), some (aI (mWil gg 0)), some (aI (mBits (mNeedB gg) c)), some (aI (c : Int))] [] (fwUc h 42 0 A15_3) Q
        refine w_iload_n dX12_needed_38 rfl ?_
        refine w_aload_n dX12_needed_39 rfl ?_
        refine w_getr 36 0 dX12_needed_40 fl_X12_9 rfl (by decide) ?_
        refine w_bipush dX12_needed_43 rfl ?_
        refine w_ialdE (v := gg 5 0 3) dX12_needed_45 rfl (by decide) (by omega) (by omega) R.2.2.2.2.2.2.1 ?_
        refine w_icmp_ge 80 dX12_needed_46 (by decide) (by omega) (by omega) (fun c46 => ?_) (fun c46 => ?_)
        · have ec38 : (gg 5 0 3).toNat = c := by omega
          subst ec38
          refine w_iload_n dX12_needed_80 rfl ?_
          exact w_iretE dX12_needed_81 rfl (by unfold an_needed; first | (rw [if_neg (by omega)]; done) | (rw [if_pos (by omega), mNeed, if_neg c29]; done) | (rw [if_pos (by omega), mNeed, if_pos c29]; done)) (k _ (scr_uc (scr_rf hsh) rfl (by decide) (by decide) (by decide)))
        · have hsf := shl_7 (n := c) (by omega)
          refine w_iload_n dX12_needed_49 rfl ?_
          refine w_aload_n dX12_needed_50 rfl ?_
          refine w_aload_n dX12_needed_51 rfl ?_
          refine w_iload_n dX12_needed_52 rfl ?_
          refine w_iconst dX12_needed_53 ?_
          refine w_iload_n dX12_needed_54 rfl ?_
          refine w_ishl dX12_needed_55 ?_
          refine w_callV (d := d + 5) (S := [aR 12 0, aI (mBits (mNeedB gg) c)]) [aI (mWil gg 0), aI (fwShl 1 (c : Int))] dX12_needed_56 ml_X12_270 ok_X12_signing vi_X12_signing rfl rfl (by decide) rfl (Nat.le_of_ble_eq_true rfl) ?_
          refine c_sgE (d := (d + 4)) (mWil gg 0) (fwShl 1 (c : Int)) J R (by omega) (by omega) ?_
          show fwWP mX12_needed (d + 6) 59 [some (aR 12 0), some (aI (mWil gg 0)), some (aI (mBits (mNeedB gg) c)), some (aI (c : Int))] [aI (mSign (gg 18 0) (gg 5 0 3).toNat (mWil gg 0) (fwShl 1 (c : Int))), aR 12 0, aI (mBits (mNeedB gg) c)] (fwUc h 42 0 A15_3) Q
          refine w_callV (d := d + 5) (S := [aI (mBits (mNeedB gg) c)]) [aI (mSign (gg 18 0) (gg 5 0 3).toNat (mWil gg 0) (fwShl 1 (c : Int)))] dX12_needed_59 ml_X12_273 ok_X12_isEnough vi_X12_isEnough rfl rfl (by decide) rfl (Nat.le_of_ble_eq_true rfl) ?_
          refine c_X12_isEnough (d := (d + 3)) (mSign (gg 18 0) (gg 5 0 3).toNat (mWil gg 0) (fwShl 1 (c : Int))) J R ?_
          show fwWP mX12_needed (d + 6) 62 [some (aR 12 0), some (aI (mWil gg 0)), some (aI (mBits (mNeedB gg) c)), some (aI (c : Int))] [aI (fwB (gg 3 0 4 ≤ mNames (gg 18 0) (mSign (gg 18 0) (gg 5 0 3).toNat (mWil gg 0) (fwShl 1 (c : Int))) (gg 5 0 3).toNat)), aI (mBits (mNeedB gg) c)] (fwUc h 42 0 A15_3) Q
          refine w_ifB_eq 69 dX12_needed_62 (by decide) (fun c62 => ?_) (fun c62 => ?_)
          · refine w_iconst dX12_needed_69 ?_
            refine w_iload_n dX12_needed_70 rfl ?_
            refine w_ishl dX12_needed_71 ?_
            refine w_ior dX12_needed_72 ?_
            refine w_istore_n [some (aR 12 0), some (aI (mWil gg 0)), some (aI (fwOr (mBits (mNeedB gg) c) (fwShl 1 (c : Int)))), some (aI (c : Int))] dX12_needed_73 rfl (by decide) ?_
            refine w_iinc [some (aR 12 0), some (aI (mWil gg 0)), some (aI (fwOr (mBits (mNeedB gg) c) (fwShl 1 (c : Int)))), some (aI ((c : Int) + 1))] dX12_needed_74 rfl rfl (by decide) ?_
            refine w_goto 38 dX12_needed_77 (by decide) ?_
            refine ih38 (by omega) _ _ ?_ ?_
            · exact (by omega)
            · exact (by rw [mBits, if_pos (show mNeedB gg c = true from decide_eq_true c62)])
          · refine w_iconst dX12_needed_65 ?_
            refine w_goto 72 dX12_needed_66 (by decide) ?_
            refine w_ior dX12_needed_72 ?_
            refine w_istore_n [some (aR 12 0), some (aI (mWil gg 0)), some (aI (fwOr (mBits (mNeedB gg) c) 0)), some (aI (c : Int))] dX12_needed_73 rfl (by decide) ?_
            refine w_iinc [some (aR 12 0), some (aI (mWil gg 0)), some (aI (fwOr (mBits (mNeedB gg) c) 0)), some (aI ((c : Int) + 1))] dX12_needed_74 rfl rfl (by decide) ?_
            refine w_goto 38 dX12_needed_77 (by decide) ?_
            refine ih38 (by omega) _ _ ?_ ?_
            · exact (by omega)
            · exact (by rw [mBits, if_neg (show ¬ mNeedB gg c = true from fun z => (of_decide_eq_true z) c62), fwOr_0 (mBits_rng _ _)])
      refine lp38 0 (Nat.zero_le _) _ _ ?_ ?_
      · exact (by omega)
      · exact rfl
    · refine w_iconst dX12_needed_32 ?_
      exact w_iretE dX12_needed_33 rfl (by unfold an_needed; first | (rw [if_neg (by omega)]; done) | (rw [if_pos (by omega), mNeed, if_neg c29]; done) | (rw [if_pos (by omega), mNeed, if_pos c29]; done)) (k _ (scr_uc (scr_rf hsh) rfl (by decide) (by decide) (by decide)))
  · refine w_bipush dX12_needed_7 rfl ?_
    exact w_iretE dX12_needed_9 rfl (by unfold an_needed; first | (rw [if_neg (by omega)]; done) | (rw [if_pos (by omega), mNeed, if_neg c29]; done) | (rw [if_pos (by omega), mNeed, if_pos c29]; done)) (k _ (scr_rf hsh))
end
section
set_option maxRecDepth 100000 in
set_option maxHeartbeats 4000000 in
theorem c_X12_isLaw {d : Nat} {h gg : fwH} {Q : Option fwV → fwH → Prop} (x : Int) (J : cOk gg) (R : jF gg h) (hx : -2147483648 ≤ x ∧ x < 2147483648) (k : Q (some (aI (fwB (0 < gg 3 0 6 ∧ 1 ≤ x ∧ x ≤ 999)))) h) : fwCt mX12_isLaw (d + 1) [aR 12 0, aI x] h Q := by
  refine fwCt_of [some (aR 12 0), some (aI x)] rfl rfl rfl ?_
  obtain ⟨hl, hP, hG, -, -, -, hlw, -, ha, hs, -, hsc⟩ := id J
  obtain ⟨⟨g1, g2⟩, ⟨g3, g4⟩, ⟨g5, g6⟩, g7, -⟩ := id hG
  have hpz := hP.1
  refine w_aload_n dX12_isLaw_0 rfl ?_
  refine w_callV (d := d + 0) (S := []) [] dX12_isLaw_1 ml_X12_73 ok_X12_isMount vi_X12_isMount rfl rfl (by decide) rfl (Nat.le_of_ble_eq_true rfl) ?_
  refine c_X12_isMount (d := d) J R ?_
  show fwWP mX12_isLaw (d + 1) 4 [some (aR 12 0), some (aI x)] [aI (fwB (0 < gg 3 0 6))] h Q
  refine w_ifB_eq 23 dX12_isLaw_4 (by decide) (fun c4 => ?_) (fun c4 => ?_)
  · refine w_iconst dX12_isLaw_23 ?_
    exact w_zretE dX12_isLaw_24 rfl (by first | (exfalso; omega) | (rw [fwB_t (by omega)]) | (rw [fwB_f (by omega)]) | rfl) k
  · refine w_iload_n dX12_isLaw_7 rfl ?_
    refine w_i2l dX12_isLaw_8 (by omega) ?_
    refine w_lconst (z := 1) dX12_isLaw_9 rfl ?_
    refine w_ldc2 (n := 999) dX12_isLaw_10 cs_X12_347 ?_
    refine w_callS (d := d + 0) (S := []) [aJ x, aJ 1, aJ 999] dX12_isLaw_13 ml_X12_65 ok_X12_in st_X12_in rfl (Nat.le_of_ble_eq_true rfl) ?_
    refine c_X12_in (d := d) x 1 999 (by omega) (by omega) (by omega) ?_
    show fwWP mX12_isLaw (d + 1) 16 [some (aR 12 0), some (aI x)] [aI (fwB (1 ≤ x ∧ x ≤ 999))] h Q
    refine w_ifB_eq 23 dX12_isLaw_16 (by decide) (fun c16 => ?_) (fun c16 => ?_)
    · refine w_iconst dX12_isLaw_23 ?_
      exact w_zretE dX12_isLaw_24 rfl (by first | (exfalso; omega) | (rw [fwB_t (by omega)]) | (rw [fwB_f (by omega)]) | rfl) k
    · refine w_iconst dX12_isLaw_19 ?_
      refine w_goto 24 dX12_isLaw_20 (by decide) ?_
      exact w_zretE dX12_isLaw_24 rfl (by first | (exfalso; omega) | (rw [fwB_t (by omega)]) | (rw [fwB_f (by omega)]) | rfl) k
set_option maxRecDepth 100000 in
set_option maxHeartbeats 4000000 in
theorem c_X12_areMonths {d : Nat} {h gg : fwH} {Q : Option fwV → fwH → Prop} (x : Int) (y : Int) (J : cOk gg) (R : jF gg h) (hx : -2147483648 ≤ x ∧ x < 2147483648) (hy : -2147483648 ≤ y ∧ y < 2147483648) (k : Q (some (aI (fwB (0 < gg 3 0 6 ∧ (0 ≤ x ∧ x ≤ 2000000000) ∧ 0 ≤ y ∧ y ≤ 40)))) h) : fwCt mX12_areMonths (d + 1) [aR 12 0, aI x, aI y] h Q := by
  refine fwCt_of [some (aR 12 0), some (aI x), some (aI y)] rfl rfl rfl ?_
  obtain ⟨hl, hP, hG, -, -, -, hlw, -, ha, hs, -, hsc⟩ := id J
  obtain ⟨⟨g1, g2⟩, ⟨g3, g4⟩, ⟨g5, g6⟩, g7, -⟩ := id hG
  have hpz := hP.1
  refine w_aload_n dX12_areMonths_0 rfl ?_
  refine w_callV (d := d + 0) (S := []) [] dX12_areMonths_1 ml_X12_73 ok_X12_isMount vi_X12_isMount rfl rfl (by decide) rfl (Nat.le_of_ble_eq_true rfl) ?_
  refine c_X12_isMount (d := d) J R ?_
  show fwWP mX12_areMonths (d + 1) 4 [some (aR 12 0), some (aI x), some (aI y)] [aI (fwB (0 < gg 3 0 6))] h Q
  refine w_ifB_eq 35 dX12_areMonths_4 (by decide) (fun c4 => ?_) (fun c4 => ?_)
  · refine w_iconst dX12_areMonths_35 ?_
    exact w_zretE dX12_areMonths_36 rfl (by first | (exfalso; omega) | (rw [fwB_t (by omega)]) | (rw [fwB_f (by omega)]) | rfl) k
  · refine w_iload_n dX12_areMonths_7 rfl ?_
    refine w_i2l dX12_areMonths_8 (by omega) ?_
    refine w_lconst (z := 0) dX12_areMonths_9 rfl ?_
    refine w_ldc2 (n := 2000000000) dX12_areMonths_10 cs_X12_398 ?_
    refine w_callS (d := d + 0) (S := []) [aJ x, aJ 0, aJ 2000000000] dX12_areMonths_13 ml_X12_65 ok_X12_in st_X12_in rfl (Nat.le_of_ble_eq_true rfl) ?_
    refine c_X12_in (d := d) x 0 2000000000 (by omega) (by omega) (by omega) ?_
    show fwWP mX12_areMonths (d + 1) 16 [some (aR 12 0), some (aI x), some (aI y)] [aI (fwB (0 ≤ x ∧ x ≤ 2000000000))] h Q
    refine w_ifB_eq 35 dX12_areMonths_16 (by decide) (fun c16 => ?_) (fun c16 => ?_)
    · refine w_iconst dX12_areMonths_35 ?_
      exact w_zretE dX12_areMonths_36 rfl (by first | (exfalso; omega) | (rw [fwB_t (by omega)]) | (rw [fwB_f (by omega)]) | rfl) k
    · refine w_iload_n dX12_areMonths_19 rfl ?_
      refine w_i2l dX12_areMonths_20 (by omega) ?_
      refine w_lconst (z := 0) dX12_areMonths_21 rfl ?_
      refine w_ldc2 (n := 40) dX12_areMonths_22 cs_X12_156 ?_
      refine w_callS (d := d + 0) (S := []) [aJ y, aJ 0, aJ 40] dX12_areMonths_25 ml_X12_65 ok_X12_in st_X12_in rfl (Nat.le_of_ble_eq_true rfl) ?_
      refine c_X12_in (d := d) y 0 40 (by omega) (by omega) (by omega) ?_
      show fwWP mX12_areMonths (d + 1) 28 [some (aR 12 0), some (aI x), some (aI y)] [aI (fwB (0 ≤ y ∧ y ≤ 40))] h Q
      refine w_ifB_eq 35 dX12_areMonths_28 (by decide) (fun c28 => ?_) (fun c28 => ?_)
      · refine w_iconst dX12_areMonths_35 ?_
        exact w_zretE dX12_areMonths_36 rfl (by first | (exfalso; omega) | (rw [fwB_t (by omega)]) | (rw [fwB_f (by omega)]) | rfl) k
      · refine w_iconst dX12_areMonths_31 ?_
        refine w_goto 36 dX12_areMonths_32 (by decide) ?_
        exact w_zretE dX12_areMonths_36 rfl (by first | (exfalso; omega) | (rw [fwB_t (by omega)]) | (rw [fwB_f (by omega)]) | rfl) k
set_option maxRecDepth 100000 in
set_option maxHeartbeats 4000000 in
theorem c_X12_goCourse {d : Nat} {h gg : fwH} {Q : Option fwV → fwH → Prop} (x : Int) (J : cOk gg) (R : jF gg h) (K : jA gg h) (ht : 0 < gg 3 0 6) (hx : 1 ≤ x ∧ x ≤ 999) (k : ∀ (u : Nat) A, u = mFst (mGoB gg x) 60 → hiR (gg 4 0 1) A (mLw gg u) → Q (some (aI (u : Int))) (fwUc h 42 0 A)) : fwCt mX12_goCourse (d + 6) [aR 12 0, aI x] h Q := by
  refine fwCt_of [some (aR 12 0), some (aI x), none] rfl rfl rfl ?_
  obtain ⟨hl, hP, hG, hM0, htd, hut, hlw, hhc, ha, hs, hT, hsc⟩ := id J
  have hb17 : hB (gg 17 0) := fun c hc => by have := hM0 c hc; omega
  obtain ⟨⟨g1, g2⟩, ⟨g3, g4⟩, ⟨g5, g6⟩, g7, -⟩ := id hG
  have h17_99 : ∀ c : Nat, (c : Int) < gg 4 0 1 → gg 17 0 c ≤ 99 := fun c hc => (hM0 c (by omega)).2
  have hpz := hP.1
  have hrs1 := R.2.2.2.2.2.2.2.2.2.2.2
  refine w_aload_n dX12_goCourse_0 rfl ?_
  refine w_callV (d := d + 5) (S := []) [] dX12_goCourse_1 ml_X12_240 ok_X12_asItIs vi_X12_asItIs rfl rfl (by decide) rfl (Nat.le_of_ble_eq_true rfl) ?_
  refine c_X12_asItIs (d := d) J R K (show 1 ≤ gg 4 0 1 by omega) (show 1 ≤ gg 4 0 3 by omega) ?_
  intro A1_1 hA1_1
  show fwWP mX12_goCourse (d + 6) 4 [some (aR 12 0), some (aI x), none] [] (fwUc h 42 0 A1_1) Q
  refine w_iconst dX12_goCourse_4 ?_
  refine w_istore_n [some (aR 12 0), some (aI x), some (aI 0)] dX12_goCourse_5 rfl (by decide) ?_
  have lp6 : ∀ c : Nat, c ≤ 60 → ∀ (y6 : Int) (A6 : Nat → Int), y6 = (c : Int) → hiR (gg 4 0 1) A6 (mLw gg c) → (mFst (mGoB gg x) c = c) → fwWP mX12_goCourse (d + 6) 6 [some (aR 12 0), some (aI x), some (aI y6)] [] (fwUc h 42 0 A6) Q := by
    refine fw_up (fun c hc6 ih6 => ?_)
    intro y6 A6 ey6 hA6 iv6_0
    subst ey6
    show fwWP mX12_goCourse (d + 6) 6 [some (aR 12 0), some (aI x), some (aI (c : Int))] [] (fwUc h 42 0 A6) Q
    refine w_iload_n dX12_goCourse_6 rfl ?_
    refine w_bipush dX12_goCourse_7 rfl ?_
    refine w_icmp_ge 42 dX12_goCourse_9 (by decide) (by omega) (by omega) (fun c9 => ?_) (fun c9 => ?_)
    · refine w_iload_n dX12_goCourse_42 rfl ?_
      have ec6 : c = 60 := by omega
      subst ec6
      exact w_iret dX12_goCourse_43 rfl (k 60 _ iv6_0.symm hA6)
    · have hbl := mLw_hb J c
      refine w_aload_n dX12_goCourse_12 rfl ?_
      refine w_aload_n dX12_goCourse_13 rfl ?_
      refine w_aload_n dX12_goCourse_14 rfl ?_
      refine w_callV (d := d + 5) (S := [aR 12 0, aR 12 0]) [] dX12_goCourse_15 ml_X12_263 ok_X12_willingSet vi_X12_willingSet rfl rfl (by decide) rfl (Nat.le_of_ble_eq_true rfl) ?_
      refine c_X12_willingSet (d := d) (mLw gg c) J R hA6 hbl (show 1 ≤ gg 4 0 1 by omega) ?_
      intro A15_3 hA15_3
      show fwWP mX12_goCourse (d + 6) 18 [some (aR 12 0), some (aI x), some (aI (c : Int))] [aI (mGers (gg 4 0 1) (mLw gg c) (gg 4 0 2) (gg 4 0 4) (gg 18 0) (gg 5 0 3).toNat (-1)), aR 12 0, aR 12 0] (fwUc (fwUc h 42 0 A6) 42 0 A15_3) Q
      rw [show (fwUc (fwUc h 42 0 A6) 42 0 A15_3) = (fwUc h 42 0 A15_3) from by funext a b; simp only [fwUc]; (repeat' split); all_goals first | rfl | (exfalso; omega)]
      have hwr3 := mGers_r (gg 4 0 1) (mLw gg c) (gg 4 0 2) (gg 4 0 4) (gg 18 0) (m := (gg 5 0 3).toNat) (-1) (by omega)
      have hw8_4 := mGers_8 (gg 4 0 1) (mLw gg c) (gg 4 0 2) (gg 4 0 4) (gg 18 0) (m := (gg 5 0 3).toNat) (-1) (by omega)
      refine w_iconst dX12_goCourse_18 ?_
      refine w_callV (d := d + 5) (S := [aR 12 0]) [aI (mGers (gg 4 0 1) (mLw gg c) (gg 4 0 2) (gg 4 0 4) (gg 18 0) (gg 5 0 3).toNat (-1)), aI 0] dX12_goCourse_19 ml_X12_270 ok_X12_signing vi_X12_signing rfl rfl (by decide) rfl (Nat.le_of_ble_eq_true rfl) ?_
      refine c_sgE (d := (d + 4)) (mGers (gg 4 0 1) (mLw gg c) (gg 4 0 2) (gg 4 0 4) (gg 18 0) (gg 5 0 3).toNat (-1)) 0 J R (by omega) (by omega) ?_
      show fwWP mX12_goCourse (d + 6) 22 [some (aR 12 0), some (aI x), some (aI (c : Int))] [aI (mSign (gg 18 0) (gg 5 0 3).toNat (mGers (gg 4 0 1) (mLw gg c) (gg 4 0 2) (gg 4 0 4) (gg 18 0) (gg 5 0 3).toNat (-1)) 0), aR 12 0] (fwUc h 42 0 A15_3) Q
      refine w_callV (d := d + 5) (S := []) [aI (mSign (gg 18 0) (gg 5 0 3).toNat (mGers (gg 4 0 1) (mLw gg c) (gg 4 0 2) (gg 4 0 4) (gg 18 0) (gg 5 0 3).toNat (-1)) 0)] dX12_goCourse_22 ml_X12_260 ok_X12_namesOf vi_X12_namesOf rfl rfl (by decide) rfl (Nat.le_of_ble_eq_true rfl) ?_
      refine c_X12_namesOf (d := (d + 4)) (mSign (gg 18 0) (gg 5 0 3).toNat (mGers (gg 4 0 1) (mLw gg c) (gg 4 0 2) (gg 4 0 4) (gg 18 0) (gg 5 0 3).toNat (-1)) 0) J R ?_
      show fwWP mX12_goCourse (d + 6) 25 [some (aR 12 0), some (aI x), some (aI (c : Int))] [aI (mNames (gg 18 0) (mSign (gg 18 0) (gg 5 0 3).toNat (mGers (gg 4 0 1) (mLw gg c) (gg 4 0 2) (gg 4 0 4) (gg 18 0) (gg 5 0 3).toNat (-1)) 0) (gg 5 0 3).toNat)] (fwUc h 42 0 A15_3) Q
      have hnr5 := mNames_r2 hP (mSign (gg 18 0) (gg 5 0 3).toNat (mGers (gg 4 0 1) (mLw gg c) (gg 4 0 2) (gg 4 0 4) (gg 18 0) (gg 5 0 3).toNat (-1)) 0)
      change fwWP _ _ _ _ (aI (mNT gg (mLw gg c)) :: _) _ _
      have hnt : 0 ≤ mNT gg (mLw gg c) ∧ mNT gg (mLw gg c) ≤ 792 := mNames_r2 hP _
      refine w_iload_n dX12_goCourse_25 rfl ?_
      refine w_icmp_lt 42 dX12_goCourse_26 (by decide) (by omega) (by omega) (fun c26 => ?_) (fun c26 => ?_)
      · refine w_iload_n dX12_goCourse_42 rfl ?_
        have est := mFst_stop iv6_0 (show ¬ mGoB gg x c = true from fun q0 => by have := (of_decide_eq_true q0).1; omega) (60 - c)
        rw [show c + (60 - c) = 60 by omega] at est
        exact w_iret dX12_goCourse_43 rfl (k c _ est.symm hA15_3)
      · refine w_aload_n dX12_goCourse_29 rfl ?_
        refine w_callV (d := d + 5) (S := []) [] dX12_goCourse_30 ml_X12_194 ok_X12_take0 vi_X12_take0 rfl rfl (by decide) rfl (Nat.le_of_ble_eq_true rfl) ?_
        refine c_X12_take0 (d := (d + 4)) (mLw gg c) J R hA15_3 hbl (show 1 ≤ gg 4 0 1 by omega) ?_
        intro A30_7 hA30_7
        show fwWP mX12_goCourse (d + 6) 33 [some (aR 12 0), some (aI x), some (aI (c : Int))] [aI (fwB (0 < (gg 4 0 1).toNat ∧ (mLw gg c) (mTop (mLw gg c) (gg 4 0 4) (gg 4 0 1).toNat).toNat ≠ 0))] (fwUc (fwUc h 42 0 A15_3) 42 0 A30_7) Q
        rw [show (fwUc (fwUc h 42 0 A15_3) 42 0 A30_7) = (fwUc h 42 0 A30_7) from by funext a b; simp only [fwUc]; (repeat' split); all_goals first | rfl | (exfalso; omega)]
        refine w_ifB_eq 42 dX12_goCourse_33 (by decide) (fun c33 => ?_) (fun c33 => ?_)
        · refine w_iload_n dX12_goCourse_42 rfl ?_
          have est := mFst_stop iv6_0 (show ¬ mGoB gg x c = true from fun q0 => c33 (of_decide_eq_true q0).2) (60 - c)
          rw [show c + (60 - c) = 60 by omega] at est
          exact w_iret dX12_goCourse_43 rfl (k c _ est.symm (by have z0 : hiR (gg 4 0 1) _ (mLow (gg 4 0 1).toNat (mLw gg c) (gg 4 0 4)) := hA30_7; rw [show mLow (gg 4 0 1).toNat (mLw gg c) (gg 4 0 4) = mLw gg c from mLw_stuck c33] at z0; exact z0))
        · refine w_iinc [some (aR 12 0), some (aI x), some (aI ((c : Int) + 1))] dX12_goCourse_36 rfl rfl (by decide) ?_
          refine w_goto 6 dX12_goCourse_39 (by decide) ?_
          refine ih6 (by omega) _ _ ?_ ?_ ?_
          · exact (by omega)
          · exact hA30_7
          · exact (mFst_go iv6_0 (decide_eq_true ⟨c26, c33⟩))
  have z6 := lp6 0 (Nat.zero_le _) _ A1_1 (by exact (show 0 = ((0 : Nat) : Int) by omega))  hA1_1 rfl
  exact z6
set_option maxRecDepth 100000 in
set_option maxHeartbeats 4000000 in
theorem c_X12_course {d : Nat} {h gg : fwH} {Q : Option fwV → fwH → Prop} (x : Int) (J : cOk gg) (R : jF gg h) (K : jA gg h) (hsh : sc h) (hx : -2147483648 ≤ x ∧ x < 2147483648) (k : ∀ g, scr h g → Q (some (aI (an_course gg x))) g) : fwCt mX12_course (d + 7) [aR 12 0, aI x] h Q := by
  refine fwCt_of [some (aR 12 0), some (aI x)] rfl rfl rfl ?_
  obtain ⟨hl, hP, hG, hM0, htd, hut, hlw, hhc, ha, hs, hT, hsc⟩ := id J
  have hb17 : hB (gg 17 0) := fun c hc => by have := hM0 c hc; omega
  obtain ⟨⟨g1, g2⟩, ⟨g3, g4⟩, ⟨g5, g6⟩, g7, -⟩ := id hG
  have h17_99 : ∀ c : Nat, (c : Int) < gg 4 0 1 → gg 17 0 c ≤ 99 := fun c hc => (hM0 c (by omega)).2
  have hpz := hP.1
  have hrs1 := R.2.2.2.2.2.2.2.2.2.2.2
  refine w_aload_n dX12_course_0 rfl ?_
  refine w_iload_n dX12_course_1 rfl ?_
  refine w_callV (d := d + 6) (S := []) [aI x] dX12_course_2 ml_X12_349 ok_X12_isLaw vi_X12_isLaw rfl rfl (by decide) rfl (Nat.le_of_ble_eq_true rfl) ?_
  refine c_X12_isLaw (d := (d + 5)) x J R (by omega) ?_
  show fwWP mX12_course (d + 7) 5 [some (aR 12 0), some (aI x)] [aI (fwB (0 < gg 3 0 6 ∧ 1 ≤ x ∧ x ≤ 999))] h Q
  refine w_ifB_eq 16 dX12_course_5 (by decide) (fun c5 => ?_) (fun c5 => ?_)
  · refine w_bipush dX12_course_16 rfl ?_
    exact w_iretE dX12_course_18 rfl (by unfold an_course; first | (rw [if_neg (by omega)]; done) | (rw [if_pos (by omega), ← eu]; done)) (k _ (scr_rf hsh))
  · refine w_aload_n dX12_course_8 rfl ?_
    refine w_iload_n dX12_course_9 rfl ?_
    refine w_callV (d := d + 6) (S := []) [aI x] dX12_course_10 ml_X12_352 ok_X12_goCourse vi_X12_goCourse rfl rfl (by decide) rfl (Nat.le_of_ble_eq_true rfl) ?_
    refine c_X12_goCourse (d := d) x J R K (by omega) (by omega) ?_
    intro u A10 eu hA10
    show fwWP mX12_course (d + 7) 13 [some (aR 12 0), some (aI x)] [aI (u : Int)] (fwUc h 42 0 A10) Q
    refine w_goto 18 dX12_course_13 (by decide) ?_
    exact w_iretE dX12_course_18 rfl (by unfold an_course; first | (rw [if_neg (by omega)]; done) | (rw [if_pos (by omega), ← eu]; done)) (k _ (scr_uc (scr_rf hsh) rfl (by decide) (by decide) (by decide)))
set_option maxRecDepth 100000 in
set_option maxHeartbeats 4000000 in
theorem c_X12_ends {d : Nat} {h gg : fwH} {Q : Option fwV → fwH → Prop} (x : Int) (J : cOk gg) (R : jF gg h) (K : jA gg h) (hsh : sc h) (hx : -2147483648 ≤ x ∧ x < 2147483648) (k : ∀ g, scr h g → Q (some (aI (an_ends gg x))) g) : fwCt mX12_ends (d + 7) [aR 12 0, aI x] h Q := by
  refine fwCt_of [some (aR 12 0), some (aI x)] rfl rfl rfl ?_
  obtain ⟨hl, hP, hG, hM0, htd, hut, hlw, hhc, ha, hs, hT, hsc⟩ := id J
  have hb17 : hB (gg 17 0) := fun c hc => by have := hM0 c hc; omega
  obtain ⟨⟨g1, g2⟩, ⟨g3, g4⟩, ⟨g5, g6⟩, g7, -⟩ := id hG
  have h17_99 : ∀ c : Nat, (c : Int) < gg 4 0 1 → gg 17 0 c ≤ 99 := fun c hc => (hM0 c (by omega)).2
  have hpz := hP.1
  have hrs1 := R.2.2.2.2.2.2.2.2.2.2.2
  refine w_aload_n dX12_ends_0 rfl ?_
  refine w_iload_n dX12_ends_1 rfl ?_
  refine w_callV (d := d + 6) (S := []) [aI x] dX12_ends_2 ml_X12_349 ok_X12_isLaw vi_X12_isLaw rfl rfl (by decide) rfl (Nat.le_of_ble_eq_true rfl) ?_
  refine c_X12_isLaw (d := (d + 5)) x J R (by omega) ?_
  show fwWP mX12_ends (d + 7) 5 [some (aR 12 0), some (aI x)] [aI (fwB (0 < gg 3 0 6 ∧ 1 ≤ x ∧ x ≤ 999))] h Q
  refine w_ifB_ne 11 dX12_ends_5 (by decide) (fun c5 => ?_) (fun c5 => ?_)
  · refine w_aload_n dX12_ends_11 rfl ?_
    refine w_iload_n dX12_ends_12 rfl ?_
    refine w_callV (d := d + 6) (S := []) [aI x] dX12_ends_13 ml_X12_352 ok_X12_goCourse vi_X12_goCourse rfl rfl (by decide) rfl (Nat.le_of_ble_eq_true rfl) ?_
    refine c_X12_goCourse (d := d) x J R K (by omega) (by omega) ?_
    intro u A13 eu hA13
    show fwWP mX12_ends (d + 7) 16 [some (aR 12 0), some (aI x)] [aI (u : Int)] (fwUc h 42 0 A13) Q
    refine w_pop dX12_ends_16 rfl ?_
    have hbu := mLw_hb J u
    refine w_aload_n dX12_ends_17 rfl ?_
    refine w_getr 42 0 dX12_ends_18 fl_X12_34 rfl (by decide) ?_
    refine w_aload_n dX12_ends_21 rfl ?_
    refine w_callV (d := d + 6) (S := [aR 42 0]) [] dX12_ends_22 ml_X12_200 ok_X12_topCell vi_X12_topCell rfl rfl (by decide) rfl (Nat.le_of_ble_eq_true rfl) ?_
    refine c_X12_topCell (d := (d + 6)) (mLw gg u) J R hA13 (mLw_hb J u) (show 1 ≤ gg 4 0 1 by omega) ?_
    show fwWP mX12_ends (d + 7) 25 [some (aR 12 0), some (aI x)] [aI (mTop (mLw gg u) (gg 4 0 4) (gg 4 0 1).toNat), aR 42 0] (fwUc h 42 0 A13) Q
    have htp2 := mTop_r2 (mLw gg u) (gg 4 0 4) (gg 4 0 1).toNat (by omega)
    refine w_ialdE (v := (mLw gg u) (mTop (mLw gg u) (gg 4 0 4) (gg 4 0 1).toNat).toNat) dX12_ends_25 rfl (by decide) (by omega) (by omega) (hA13 _ (by omega)) ?_
    exact w_iretE dX12_ends_26 rfl (by unfold an_ends; first | (rw [if_neg (by omega)]; done) | (rw [if_pos (by omega), ← eu, mMax_top (ls := gg 4 0 4) (gg 4 0 1).toNat (by omega) (fun c hc => (mLw_hb J u c (by omega)).1)]; done)) (k _ (scr_uc (scr_rf hsh) rfl (by decide) (by decide) (by decide)))
  · refine w_bipush dX12_ends_8 rfl ?_
    exact w_iretE dX12_ends_10 rfl (by unfold an_ends; first | (rw [if_neg (by omega)]; done) | (rw [if_pos (by omega), ← eu, mMax_top (ls := gg 4 0 4) (gg 4 0 1).toNat (by omega) (fun c hc => (mLw_hb J u c (by omega)).1)]; done)) (k _ (scr_rf hsh))
set_option maxRecDepth 100000 in
set_option maxHeartbeats 4000000 in
theorem c_X12_left {d : Nat} {h gg : fwH} {Q : Option fwV → fwH → Prop} (x : Int) (y : Int) (J : cOk gg) (R : jF gg h) (K : jA gg h) (hsh : sc h) (hx : -2147483648 ≤ x ∧ x < 2147483648) (hy : -2147483648 ≤ y ∧ y < 2147483648) (k : ∀ g, scr h g → Q (some (aI (an_left gg x y))) g) : fwCt mX12_left (d + 7) [aR 12 0, aI x, aI y] h Q := by
  refine fwCt_of [some (aR 12 0), some (aI x), some (aI y)] rfl rfl rfl ?_
  obtain ⟨hl, hP, hG, hM0, htd, hut, hlw, hhc, ha, hs, hT, hsc⟩ := id J
  have hb17 : hB (gg 17 0) := fun c hc => by have := hM0 c hc; omega
  obtain ⟨⟨g1, g2⟩, ⟨g3, g4⟩, ⟨g5, g6⟩, g7, -⟩ := id hG
  have h17_99 : ∀ c : Nat, (c : Int) < gg 4 0 1 → gg 17 0 c ≤ 99 := fun c hc => (hM0 c (by omega)).2
  have hpz := hP.1
  have hrs1 := R.2.2.2.2.2.2.2.2.2.2.2
  refine w_aload_n dX12_left_0 rfl ?_
  refine w_iload_n dX12_left_1 rfl ?_
  refine w_callV (d := d + 6) (S := []) [aI x] dX12_left_2 ml_X12_349 ok_X12_isLaw vi_X12_isLaw rfl rfl (by decide) rfl (Nat.le_of_ble_eq_true rfl) ?_
  refine c_X12_isLaw (d := (d + 5)) x J R (by omega) ?_
  show fwWP mX12_left (d + 7) 5 [some (aR 12 0), some (aI x), some (aI y)] [aI (fwB (0 < gg 3 0 6 ∧ 1 ≤ x ∧ x ≤ 999))] h Q
  refine w_ifB_eq 17 dX12_left_5 (by decide) (fun c5 => ?_) (fun c5 => ?_)
  · refine w_sipush dX12_left_17 rfl ?_
    exact w_iretE dX12_left_20 rfl (by unfold an_left; first | (rw [if_neg (by omega)]; done) | (rw [if_pos (by omega), ← eu]; done) | (rw [if_pos (by omega), ← eu]; rfl)) (k _ (scr_rf hsh))
  · refine w_aload_n dX12_left_8 rfl ?_
    refine w_iload_n dX12_left_9 rfl ?_
    refine w_i2l dX12_left_10 (by omega) ?_
    refine w_callV (d := d + 6) (S := []) [aJ y] dX12_left_11 ml_X12_235 ok_X12_isFolk vi_X12_isFolk rfl rfl (by decide) rfl (Nat.le_of_ble_eq_true rfl) ?_
    refine c_X12_isFolk (d := (d + 5)) y J R (by omega) ?_
    show fwWP mX12_left (d + 7) 14 [some (aR 12 0), some (aI x), some (aI y)] [aI (fwB (0 ≤ y ∧ y ≤ gg 5 0 3 - 1))] h Q
    refine w_ifB_ne 21 dX12_left_14 (by decide) (fun c14 => ?_) (fun c14 => ?_)
    · refine w_aload_n dX12_left_21 rfl ?_
      refine w_iload_n dX12_left_22 rfl ?_
      obtain ⟨f, rfl⟩ : ∃ f : Nat, y = (f : Int) := ⟨y.toNat, by omega⟩
      refine w_callV (d := d + 6) (S := []) [aI x] dX12_left_23 ml_X12_352 ok_X12_goCourse vi_X12_goCourse rfl rfl (by decide) rfl (Nat.le_of_ble_eq_true rfl) ?_
      refine c_X12_goCourse (d := d) x J R K (by omega) (by omega) ?_
      intro u A23 eu hA23
      show fwWP mX12_left (d + 7) 26 [some (aR 12 0), some (aI x), some (aI (f : Int))] [aI (u : Int)] (fwUc h 42 0 A23) Q
      refine w_pop dX12_left_26 rfl ?_
      refine w_aload_n dX12_left_27 rfl ?_
      refine w_iload_n dX12_left_28 rfl ?_
      refine w_callV (d := d + 6) (S := []) [aI (f : Int)] dX12_left_29 ml_X12_232 ok_X12_gainOf vi_X12_gainOf rfl rfl (by decide) rfl (Nat.le_of_ble_eq_true rfl) ?_
      refine c_X12_gainOf (d := (d + 2)) f (mLw gg u) J R hA23 (mLw_hb J u) (show 1 ≤ gg 4 0 1 by omega) (show (f : Int) < gg 5 0 3 by omega) ?_
      show fwWP mX12_left (d + 7) 32 [some (aR 12 0), some (aI x), some (aI (f : Int))] [aI (mGain (gg 4 0 1) (mLw gg u) (gg 4 0 2) (gg 18 0) f)] (fwUc h 42 0 A23) Q
      have hgr3 := mGain_r2 J (mLw_hb J u) f (by omega)
      exact w_iretE dX12_left_32 rfl (by unfold an_left; first | (rw [if_neg (by omega)]; done) | (rw [if_pos (by omega), ← eu]; done) | (rw [if_pos (by omega), ← eu]; rfl)) (k _ (scr_uc (scr_rf hsh) rfl (by decide) (by decide) (by decide)))
    · refine w_sipush dX12_left_17 rfl ?_
      exact w_iretE dX12_left_20 rfl (by unfold an_left; first | (rw [if_neg (by omega)]; done) | (rw [if_pos (by omega), ← eu]; done) | (rw [if_pos (by omega), ← eu]; rfl)) (k _ (scr_rf hsh))
theorem mFst_all {p : Nat → Bool} : ∀ n : Nat, mFst p n = n ↔ ∀ j, j < n → p j = true := by
  intro n
  constructor
  · intro h j hj
    exact mFst_pre n j (by omega)
  · intro h
    rcases Nat.lt_or_ge (mFst p n) n with e | e
    · have h1 := mFst_not n e
      rw [h _ e] at h1
      cases h1
    · have := mFst_le p n
      omega
theorem mLeast_1 {h : fwH} : ∀ n : Nat, 1 ≤ mLeast h n ↔ ∀ j, j < n → 1 ≤ mNT h (mLw h j) := by
  intro n
  induction n with
  | zero => constructor
            · intro _ j hj; omega
            · intro _; simp [mLeast]
  | succ n ih =>
    rw [mLeast]
    constructor
    · intro q j hj
      rcases Nat.lt_or_ge j n with e | e
      · exact ih.mp (by omega) j e
      · rw [show j = n by omega]; omega
    · intro q
      have h1 := ih.mpr (fun j hj => q j (by omega))
      have h2 := q n (by omega)
      omega
set_option maxRecDepth 100000 in
set_option maxHeartbeats 4000000 in
theorem c_X12_law {d : Nat} {h gg : fwH} {Q : Option fwV → fwH → Prop} (x : Int) (J : cOk gg) (R : jF gg h) (K : jA gg h) (hsh : sc h) (hx : -2147483648 ≤ x ∧ x < 2147483648) (k : ∀ g, scr h g → Q (some (aI (an_law gg x))) g) : fwCt mX12_law (d + 7) [aR 12 0, aI x] h Q := by
  refine fwCt_of [some (aR 12 0), some (aI x), none, none] rfl rfl rfl ?_
  obtain ⟨hl, hP, hG, hM0, htd, hut, hlw, hhc, ha, hs, hT, hsc⟩ := id J
  have hb17 : hB (gg 17 0) := fun c hc => by have := hM0 c hc; omega
  obtain ⟨⟨g1, g2⟩, ⟨g3, g4⟩, ⟨g5, g6⟩, g7, -⟩ := id hG
  have h17_99 : ∀ c : Nat, (c : Int) < gg 4 0 1 → gg 17 0 c ≤ 99 := fun c hc => (hM0 c (by omega)).2
  have hpz := hP.1
  have hrs1 := R.2.2.2.2.2.2.2.2.2.2.2
  refine w_aload_n dX12_law_0 rfl ?_
  refine w_callV (d := d + 6) (S := []) [] dX12_law_1 ml_X12_73 ok_X12_isMount vi_X12_isMount rfl rfl (by decide) rfl (Nat.le_of_ble_eq_true rfl) ?_
  refine c_X12_isMount (d := (d + 6)) J R ?_
  show fwWP mX12_law (d + 7) 4 [some (aR 12 0), some (aI x), none, none] [aI (fwB (0 < gg 3 0 6))] h Q
  refine w_ifB_eq 19 dX12_law_4 (by decide) (fun c4 => ?_) (fun c4 => ?_)
  · refine w_bipush dX12_law_19 rfl ?_
    exact w_iretE dX12_law_21 rfl (by unfold an_law; rw [if_neg (by omega)]) (k _ (scr_rf hsh))
  · refine w_iload_n dX12_law_7 rfl ?_
    refine w_i2l dX12_law_8 (by omega) ?_
    refine w_lconst (z := 1) dX12_law_9 rfl ?_
    refine w_ldc2 (n := 60) dX12_law_10 cs_X12_355 ?_
    refine w_callS (d := d + 6) (S := []) [aJ x, aJ 1, aJ 60] dX12_law_13 ml_X12_65 ok_X12_in st_X12_in rfl (Nat.le_of_ble_eq_true rfl) ?_
    refine c_X12_in (d := (d + 6)) x 1 60 (by omega) (by omega) (by omega) ?_
    show fwWP mX12_law (d + 7) 16 [some (aR 12 0), some (aI x), none, none] [aI (fwB (1 ≤ x ∧ x ≤ 60))] h Q
    refine w_ifB_ne 22 dX12_law_16 (by decide) (fun c16 => ?_) (fun c16 => ?_)
    · obtain ⟨u, rfl⟩ : ∃ u : Nat, x = (u : Int) := ⟨x.toNat, by omega⟩
      refine w_aload_n dX12_law_22 rfl ?_
      refine w_callV (d := d + 6) (S := []) [] dX12_law_23 ml_X12_240 ok_X12_asItIs vi_X12_asItIs rfl rfl (by decide) rfl (Nat.le_of_ble_eq_true rfl) ?_
      refine c_X12_asItIs (d := (d + 1)) J R K (show 1 ≤ gg 4 0 1 by omega) (show 1 ≤ gg 4 0 3 by omega) ?_
      intro A23_3 hA23_3
      show fwWP mX12_law (d + 7) 26 [some (aR 12 0), some (aI (u : Int)), none, none] [] (fwUc h 42 0 A23_3) Q
      refine w_sipush dX12_law_26 rfl ?_
      refine w_istore_n [some (aR 12 0), some (aI (u : Int)), some (aI 999), none] dX12_law_29 rfl (by decide) ?_
      refine w_iconst dX12_law_30 ?_
      refine w_istore_n [some (aR 12 0), some (aI (u : Int)), some (aI 999), some (aI 0)] dX12_law_31 rfl (by decide) ?_
      have lp32 : ∀ c : Nat, c ≤ u → ∀ (y32 le : Int) (A32 : Nat → Int), y32 = (c : Int) → le = mLeast gg c → hiR (gg 4 0 1) A32 (mLw gg c) → (∀ j : Nat, j < c → mCan gg (mLw gg j)) → fwWP mX12_law (d + 7) 32 [some (aR 12 0), some (aI (u : Int)), some (aI le), some (aI y32)] [] (fwUc h 42 0 A32) Q := by
        refine fw_up (fun c hc32 ih32 => ?_)
        intro y32 le A32 ey32 e_le hA32 iv32_0
        subst ey32
        subst e_le
        show fwWP mX12_law (d + 7) 32 [some (aR 12 0), some (aI (u : Int)), some (aI (mLeast gg c)), some (aI (c : Int))] [] (fwUc h 42 0 A32) Q
        refine w_iload_n dX12_law_32 rfl ?_
        refine w_iload_n dX12_law_33 rfl ?_
        refine w_icmp_ge 70 dX12_law_34 (by decide) (by omega) (by omega) (fun c34 => ?_) (fun c34 => ?_)
        · have ec32 : u = c := by omega
          subst ec32
          have hlr := mLeast_rng hP u
          refine w_iload_n dX12_law_70 rfl ?_
          refine w_if_ne 78 dX12_law_71 (by decide) (by omega) (fun c71 => ?_) (fun c71 => ?_)
          · refine w_iload_n dX12_law_78 rfl ?_
            exact w_iretE dX12_law_79 rfl (by unfold an_law; rw [if_pos (by omega)]; show mLeast gg u = mGrt gg u; unfold mGrt; rw [if_pos ((mFst_all (p := mGoB gg 1) u).mpr (fun j hj => decide_eq_true ⟨(mLeast_1 u).mp (by omega) j hj, iv32_0 j hj⟩))]) (k _ (scr_uc (scr_rf hsh) rfl (by decide) (by decide) (by decide)))
          · refine w_iconst dX12_law_74 ?_
            refine w_goto 79 dX12_law_75 (by decide) ?_
            exact w_iretE dX12_law_79 rfl (by unfold an_law; rw [if_pos (by omega)]; show -1 = mGrt gg u; unfold mGrt; rw [if_neg (fun q0 => by have q1 : 1 ≤ mLeast gg u := (mLeast_1 u).mpr (fun j hj => (of_decide_eq_true ((mFst_all u).mp q0 j hj)).1); omega)]) (k _ (scr_uc (scr_rf hsh) rfl (by decide) (by decide) (by decide)))
        · have hbl := mLw_hb J c
          have hlr := mLeast_rng hP c
          refine w_iload_n dX12_law_37 rfl ?_
          refine w_aload_n dX12_law_38 rfl ?_
          refine w_aload_n dX12_law_39 rfl ?_
          refine w_aload_n dX12_law_40 rfl ?_
          refine w_callV (d := d + 6) (S := [aR 12 0, aR 12 0, aI (mLeast gg c)]) [] dX12_law_41 ml_X12_263 ok_X12_willingSet vi_X12_willingSet rfl rfl (by decide) rfl (Nat.le_of_ble_eq_true rfl) ?_
          refine c_X12_willingSet (d := (d + 1)) (mLw gg c) J R hA32 hbl (show 1 ≤ gg 4 0 1 by omega) ?_
          intro A41_6 hA41_6
          show fwWP mX12_law (d + 7) 44 [some (aR 12 0), some (aI (u : Int)), some (aI (mLeast gg c)), some (aI (c : Int))] [aI (mGers (gg 4 0 1) (mLw gg c) (gg 4 0 2) (gg 4 0 4) (gg 18 0) (gg 5 0 3).toNat (-1)), aR 12 0, aR 12 0, aI (mLeast gg c)] (fwUc (fwUc h 42 0 A32) 42 0 A41_6) Q
          rw [show (fwUc (fwUc h 42 0 A32) 42 0 A41_6) = (fwUc h 42 0 A41_6) from by funext a b; simp only [fwUc]; (repeat' split); all_goals first | rfl | (exfalso; omega)]
          have hwr6 := mGers_r (gg 4 0 1) (mLw gg c) (gg 4 0 2) (gg 4 0 4) (gg 18 0) (m := (gg 5 0 3).toNat) (-1) (by omega)
          have hw8_7 := mGers_8 (gg 4 0 1) (mLw gg c) (gg 4 0 2) (gg 4 0 4) (gg 18 0) (m := (gg 5 0 3).toNat) (-1) (by omega)
          refine w_iconst dX12_law_44 ?_
          refine w_callV (d := d + 6) (S := [aR 12 0, aI (mLeast gg c)]) [aI (mGers (gg 4 0 1) (mLw gg c) (gg 4 0 2) (gg 4 0 4) (gg 18 0) (gg 5 0 3).toNat (-1)), aI 0] dX12_law_45 ml_X12_270 ok_X12_signing vi_X12_signing rfl rfl (by decide) rfl (Nat.le_of_ble_eq_true rfl) ?_
          refine c_sgE (d := (d + 5)) (mGers (gg 4 0 1) (mLw gg c) (gg 4 0 2) (gg 4 0 4) (gg 18 0) (gg 5 0 3).toNat (-1)) 0 J R (by omega) (by omega) ?_
          show fwWP mX12_law (d + 7) 48 [some (aR 12 0), some (aI (u : Int)), some (aI (mLeast gg c)), some (aI (c : Int))] [aI (mSign (gg 18 0) (gg 5 0 3).toNat (mGers (gg 4 0 1) (mLw gg c) (gg 4 0 2) (gg 4 0 4) (gg 18 0) (gg 5 0 3).toNat (-1)) 0), aR 12 0, aI (mLeast gg c)] (fwUc h 42 0 A41_6) Q
          refine w_callV (d := d + 6) (S := [aI (mLeast gg c)]) [aI (mSign (gg 18 0) (gg 5 0 3).toNat (mGers (gg 4 0 1) (mLw gg c) (gg 4 0 2) (gg 4 0 4) (gg 18 0) (gg 5 0 3).toNat (-1)) 0)] dX12_law_48 ml_X12_260 ok_X12_namesOf vi_X12_namesOf rfl rfl (by decide) rfl (Nat.le_of_ble_eq_true rfl) ?_
          refine c_X12_namesOf (d := (d + 5)) (mSign (gg 18 0) (gg 5 0 3).toNat (mGers (gg 4 0 1) (mLw gg c) (gg 4 0 2) (gg 4 0 4) (gg 18 0) (gg 5 0 3).toNat (-1)) 0) J R ?_
          show fwWP mX12_law (d + 7) 51 [some (aR 12 0), some (aI (u : Int)), some (aI (mLeast gg c)), some (aI (c : Int))] [aI (mNames (gg 18 0) (mSign (gg 18 0) (gg 5 0 3).toNat (mGers (gg 4 0 1) (mLw gg c) (gg 4 0 2) (gg 4 0 4) (gg 18 0) (gg 5 0 3).toNat (-1)) 0) (gg 5 0 3).toNat), aI (mLeast gg c)] (fwUc h 42 0 A41_6) Q
          have hnr8 := mNames_r2 hP (mSign (gg 18 0) (gg 5 0 3).toNat (mGers (gg 4 0 1) (mLw gg c) (gg 4 0 2) (gg 4 0 4) (gg 18 0) (gg 5 0 3).toNat (-1)) 0)
          change fwWP _ _ _ _ (aI (mNT gg (mLw gg c)) :: _) _ _
          have hnt : 0 ≤ mNT gg (mLw gg c) ∧ mNT gg (mLw gg c) ≤ 792 := mNames_r2 hP _
          refine w_min (d := d + 6) (S := []) dX12_law_51 ml_X12_112 (by omega) (by omega) (Nat.le_of_ble_eq_true rfl) ?_
          refine w_istore_n [some (aR 12 0), some (aI (u : Int)), some (aI (min (mLeast gg c) (mNT gg (mLw gg c)))), some (aI (c : Int))] dX12_law_54 rfl (by decide) ?_
          refine w_aload_n dX12_law_55 rfl ?_
          refine w_callV (d := d + 6) (S := []) [] dX12_law_56 ml_X12_194 ok_X12_take0 vi_X12_take0 rfl rfl (by decide) rfl (Nat.le_of_ble_eq_true rfl) ?_
          refine c_X12_take0 (d := (d + 5)) (mLw gg c) J R hA41_6 hbl (show 1 ≤ gg 4 0 1 by omega) ?_
          intro A56_9 hA56_9
          show fwWP mX12_law (d + 7) 59 [some (aR 12 0), some (aI (u : Int)), some (aI (min (mLeast gg c) (mNT gg (mLw gg c)))), some (aI (c : Int))] [aI (fwB (0 < (gg 4 0 1).toNat ∧ (mLw gg c) (mTop (mLw gg c) (gg 4 0 4) (gg 4 0 1).toNat).toNat ≠ 0))] (fwUc (fwUc h 42 0 A41_6) 42 0 A56_9) Q
          rw [show (fwUc (fwUc h 42 0 A41_6) 42 0 A56_9) = (fwUc h 42 0 A56_9) from by funext a b; simp only [fwUc]; (repeat' split); all_goals first | rfl | (exfalso; omega)]
          refine w_ifB_ne 64 dX12_law_59 (by decide) (fun c59 => ?_) (fun c59 => ?_)
          · refine w_iinc [some (aR 12 0), some (aI (u : Int)), some (aI (min (mLeast gg c) (mNT gg (mLw gg c)))), some (aI ((c : Int) + 1))] dX12_law_64 rfl rfl (by decide) ?_
            refine w_goto 32 dX12_law_67 (by decide) ?_
            refine ih32 (by omega) _ _ _ ?_ ?_ ?_ ?_
            · exact (by omega)
            · exact (by rw [mLeast])
            · exact hA56_9
            · exact (fun j hj => by rcases Nat.lt_or_ge j c with e0 | e0; exact iv32_0 j e0; rw [show j = c by omega]; exact c59)
          · refine w_iconst dX12_law_62 ?_
            exact w_iretE dX12_law_63 rfl (by unfold an_law; rw [if_pos (by omega)]; show -1 = mGrt gg u; unfold mGrt; rw [if_neg (fun q0 => c59 (of_decide_eq_true ((mFst_all u).mp q0 c (by omega))).2)]) (k _ (scr_uc (scr_rf hsh) rfl (by decide) (by decide) (by decide)))
      have z32 := lp32 0 (Nat.zero_le _) _ _ A23_3 (by exact (show 0 = ((0 : Nat) : Int) by omega)) (by exact (show 999 = mLeast gg 0 from rfl)) hA23_3 (fun j hj => by omega)
      exact z32
    · refine w_bipush dX12_law_19 rfl ?_
      exact w_iretE dX12_law_21 rfl (by unfold an_law; rw [if_neg (by omega)]) (k _ (scr_rf hsh))
set_option maxRecDepth 100000 in
set_option maxHeartbeats 4000000 in
theorem c_X12_isLower {d : Nat} {h gg : fwH} {Q : Option fwV → fwH → Prop} (x y : Int) (H : Nat → Int) (J : cOk gg) (R : jF gg h) (hH : hiR (gg 4 0 1) (h 42 0) H) (hb : hB H) (hy : 0 ≤ y ∧ y < gg 4 0 1) (hx : -2147483648 ≤ x ∧ x < 2147483648) (k : Q (some (aI (fwB ((0 ≤ x ∧ x ≤ gg 4 0 1 - 1) ∧ H x.toNat < H y.toNat)))) h) : fwCt mX12_isLower (d + 2) [aR 12 0, aI x, aI y] h Q := by
  refine fwCt_of [some (aR 12 0), some (aI x), some (aI y)] rfl rfl rfl ?_
  obtain ⟨hl, hP, hG, -, -, -, hlw, -, ha, hs, -, hsc⟩ := id J
  obtain ⟨⟨g1, g2⟩, ⟨g3, g4⟩, ⟨g5, g6⟩, g7, -⟩ := id hG
  have hpz := hP.1
  refine w_aload_n dX12_isLower_0 rfl ?_
  refine w_iload_n dX12_isLower_1 rfl ?_
  refine w_i2l dX12_isLower_2 (by omega) ?_
  refine w_callV (d := d + 1) (S := []) [aJ x] dX12_isLower_3 ml_X12_203 ok_X12_isCell vi_X12_isCell rfl rfl (by decide) rfl (Nat.le_of_ble_eq_true rfl) ?_
  refine c_X12_isCell (d := d) x J R (by omega) ?_
  show fwWP mX12_isLower (d + 2) 6 [some (aR 12 0), some (aI x), some (aI y)] [aI (fwB (0 ≤ x ∧ x ≤ gg 4 0 1 - 1))] h Q
  refine w_ifB_eq 28 dX12_isLower_6 (by decide) (fun c6 => ?_) (fun c6 => ?_)
  · refine w_iconst dX12_isLower_28 ?_
    exact w_zretE dX12_isLower_29 rfl (by first | (exfalso; omega) | (rw [fwB_t (by omega)]) | (rw [fwB_f (by omega)]) | rfl) k
  · have hbx := hb x.toNat (by omega)
    have hby := hb y.toNat (by omega)
    refine w_aload_n dX12_isLower_9 rfl ?_
    refine w_getr 42 0 dX12_isLower_10 fl_X12_34 rfl (by decide) ?_
    refine w_iload_n dX12_isLower_13 rfl ?_
    refine w_ialdE (v := H (x).toNat) dX12_isLower_14 rfl (by decide) (by omega) (by omega) (hH _ (by omega)) ?_
    refine w_aload_n dX12_isLower_15 rfl ?_
    refine w_getr 42 0 dX12_isLower_16 fl_X12_34 rfl (by decide) ?_
    refine w_iload_n dX12_isLower_19 rfl ?_
    refine w_ialdE (v := H (y).toNat) dX12_isLower_20 rfl (by decide) (by omega) (by omega) (hH _ (by omega)) ?_
    refine w_icmp_ge 28 dX12_isLower_21 (by decide) (by omega) (by omega) (fun c21 => ?_) (fun c21 => ?_)
    · refine w_iconst dX12_isLower_28 ?_
      exact w_zretE dX12_isLower_29 rfl (by first | (exfalso; omega) | (rw [fwB_t (by omega)]) | (rw [fwB_f (by omega)]) | rfl) k
    · refine w_iconst dX12_isLower_24 ?_
      refine w_goto 29 dX12_isLower_25 (by decide) ?_
      exact w_zretE dX12_isLower_29 rfl (by first | (exfalso; omega) | (rw [fwB_t (by omega)]) | (rw [fwB_f (by omega)]) | rfl) k
set_option maxRecDepth 100000 in
set_option maxHeartbeats 4000000 in
theorem c_X12_flowOf {d : Nat} {h gg : fwH} {Q : Option fwV → fwH → Prop} (x : Int) (H : Nat → Int) (J : cOk gg) (R : jF gg h) (hH : hiR (gg 4 0 1) (h 42 0) H) (hb : hB H) (hx : 0 ≤ x ∧ x < gg 4 0 1) (k : Q (some (aI (mDesc (gg 4 0 1) H 0 10 x))) h) : fwCt mX12_flowOf (d + 3) [aR 12 0, aI x] h Q := by
  refine fwCt_of [some (aR 12 0), some (aI x), none, none] rfl rfl rfl ?_
  have g2 : gg 4 0 1 ≤ 10 := J.2.2.1.1.2
  refine w_iload_n dX12_flowOf_0 rfl ?_
  refine w_istore_n [some (aR 12 0), some (aI x), some (aI x), none] dX12_flowOf_1 rfl (by decide) ?_
  have lp2 : ∀ c : Nat, c ≤ 9 → ∀ v : Int, slI (gg 4 0 1) H 1 x c v → fwWP mX12_flowOf (d + 3) 2 [some (aR 12 0), some (aI x), some (aI v), none] [] h Q := by
    refine fw_up (fun c hc2 ih2 => ?_)
    intro v iv2
    have iv0 := iv2.1
    show fwWP mX12_flowOf (d + 3) 2 [some (aR 12 0), some (aI x), some (aI v), none] [] h Q
    refine w_aload_n dX12_flowOf_2 rfl ?_
    refine w_iload_n dX12_flowOf_3 rfl ?_
    refine w_iconst dX12_flowOf_4 ?_
    refine w_isub dX12_flowOf_5 ?_
    refine w_iload_n dX12_flowOf_6 rfl ?_
    refine w_callV (d := d + 2) (S := []) [aI (v - 1), aI v] dX12_flowOf_7 ml_X12_320 ok_X12_isLower vi_X12_isLower rfl rfl (by decide) rfl (Nat.le_of_ble_eq_true rfl) ?_
    refine c_X12_isLower (d := d) (v - 1) v H J R hH hb (show 0 ≤ v ∧ v < gg 4 0 1 by omega) (by omega) ?_
    show fwWP mX12_flowOf (d + 3) 10 [some (aR 12 0), some (aI x), some (aI v), none] [aI (fwB ((0 ≤ (v - 1) ∧ (v - 1) ≤ gg 4 0 1 - 1) ∧ H (v - 1).toNat < H v.toNat))] h Q
    refine w_ifB_ne 24 dX12_flowOf_10 (by decide) (fun c10 => ?_) (fun c10 => ?_)
    · refine w_aload_n dX12_flowOf_24 rfl ?_
      refine w_iload_n dX12_flowOf_25 rfl ?_
      refine w_iconst dX12_flowOf_26 ?_
      refine w_isub dX12_flowOf_27 ?_
      refine w_iload_n dX12_flowOf_28 rfl ?_
      refine w_callV (d := d + 2) (S := []) [aI (v - 1), aI v] dX12_flowOf_29 ml_X12_320 ok_X12_isLower vi_X12_isLower rfl rfl (by decide) rfl (Nat.le_of_ble_eq_true rfl) ?_
      refine c_X12_isLower (d := d) (v - 1) v H J R hH hb (show 0 ≤ v ∧ v < gg 4 0 1 by omega) (by omega) ?_
      show fwWP mX12_flowOf (d + 3) 32 [some (aR 12 0), some (aI x), some (aI v), none] [aI (fwB ((0 ≤ (v - 1) ∧ (v - 1) ≤ gg 4 0 1 - 1) ∧ H (v - 1).toNat < H v.toNat))] h Q
      refine w_ifB_eq 69 dX12_flowOf_32 (by decide) (fun c32 => ?_) (fun c32 => ?_)
      · exact absurd c10 c32
      · refine w_aload_n dX12_flowOf_35 rfl ?_
        refine w_iload_n dX12_flowOf_36 rfl ?_
        refine w_iconst dX12_flowOf_37 ?_
        refine w_iadd dX12_flowOf_38 ?_
        refine w_iload_n dX12_flowOf_39 rfl ?_
        refine w_callV (d := d + 2) (S := []) [aI (v + 1), aI v] dX12_flowOf_40 ml_X12_320 ok_X12_isLower vi_X12_isLower rfl rfl (by decide) rfl (Nat.le_of_ble_eq_true rfl) ?_
        refine c_X12_isLower (d := d) (v + 1) v H J R hH hb (show 0 ≤ v ∧ v < gg 4 0 1 by omega) (by omega) ?_
        show fwWP mX12_flowOf (d + 3) 43 [some (aR 12 0), some (aI x), some (aI v), none] [aI (fwB ((0 ≤ (v + 1) ∧ (v + 1) ≤ gg 4 0 1 - 1) ∧ H (v + 1).toNat < H v.toNat))] h Q
        refine w_ifB_eq 65 dX12_flowOf_43 (by decide) (fun c43 => ?_) (fun c43 => ?_)
        · refine w_iconst dX12_flowOf_65 ?_
          refine w_goto 70 dX12_flowOf_66 (by decide) ?_
          refine w_istore_n [some (aR 12 0), some (aI x), some (aI v), some (aI 1)] dX12_flowOf_70 rfl (by decide) ?_
          refine w_iload_n dX12_flowOf_71 rfl ?_
          refine w_if_eq 81 dX12_flowOf_72 (by decide) (by omega) (fun c72 => ?_) (fun c72 => ?_)
          · (exfalso; omega)
          · refine w_iload_n dX12_flowOf_75 rfl ?_
            refine w_iconst dX12_flowOf_76 ?_
            refine w_isub dX12_flowOf_77 ?_
            refine w_goto 84 dX12_flowOf_78 (by decide) ?_
            refine w_istore_n [some (aR 12 0), some (aI x), some (aI (v - 1)), some (aI 1)] dX12_flowOf_84 rfl (by decide) ?_
            refine w_goto 2 dX12_flowOf_85 (by decide) ?_
            refine w_drop [3] [some (aR 12 0), some (aI x), some (aI (v - 1)), none] rfl ?_
            have hq := slI_l g2 hx (by omega) hc2 iv2 ⟨c32.1, by omega⟩ (Or.inl (fun z => c43 ⟨z.1, by have := z.2; omega⟩))
            exact ih2 hq.1 _ hq.2
        · have hbl := hb (v - 1).toNat (by omega)
          have hbr := hb (v + 1).toNat (by omega)
          refine w_aload_n dX12_flowOf_46 rfl ?_
          refine w_getr 42 0 dX12_flowOf_47 fl_X12_34 rfl (by decide) ?_
          refine w_iload_n dX12_flowOf_50 rfl ?_
          refine w_iconst dX12_flowOf_51 ?_
          refine w_isub dX12_flowOf_52 ?_
          refine w_ialdE (v := H (v - 1).toNat) dX12_flowOf_53 rfl (by decide) (by omega) (by omega) (hH _ (by omega)) ?_
          refine w_aload_n dX12_flowOf_54 rfl ?_
          refine w_getr 42 0 dX12_flowOf_55 fl_X12_34 rfl (by decide) ?_
          refine w_iload_n dX12_flowOf_58 rfl ?_
          refine w_iconst dX12_flowOf_59 ?_
          refine w_iadd dX12_flowOf_60 ?_
          refine w_ialdE (v := H (v + 1).toNat) dX12_flowOf_61 rfl (by decide) (by omega) (by omega) (hH _ (by omega)) ?_
          refine w_icmp_gt 69 dX12_flowOf_62 (by decide) (by omega) (by omega) (fun c62 => ?_) (fun c62 => ?_)
          · refine w_iconst dX12_flowOf_69 ?_
            refine w_istore_n [some (aR 12 0), some (aI x), some (aI v), some (aI 0)] dX12_flowOf_70 rfl (by decide) ?_
            refine w_iload_n dX12_flowOf_71 rfl ?_
            refine w_if_eq 81 dX12_flowOf_72 (by decide) (by omega) (fun c72 => ?_) (fun c72 => ?_)
            · refine w_iload_n dX12_flowOf_81 rfl ?_
              refine w_iconst dX12_flowOf_82 ?_
              refine w_iadd dX12_flowOf_83 ?_
              refine w_istore_n [some (aR 12 0), some (aI x), some (aI (v + 1)), some (aI 0)] dX12_flowOf_84 rfl (by decide) ?_
              refine w_goto 2 dX12_flowOf_85 (by decide) ?_
              refine w_drop [3] [some (aR 12 0), some (aI x), some (aI (v + 1)), none] rfl ?_
              have hq := slI_r g2 hx (by omega) hc2 iv2 ⟨c43.1, by omega⟩ (Or.inr ⟨c32.1, by omega⟩)
              exact ih2 hq.1 _ hq.2
            · (exfalso; omega)
          · refine w_iconst dX12_flowOf_65 ?_
            refine w_goto 70 dX12_flowOf_66 (by decide) ?_
            refine w_istore_n [some (aR 12 0), some (aI x), some (aI v), some (aI 1)] dX12_flowOf_70 rfl (by decide) ?_
            refine w_iload_n dX12_flowOf_71 rfl ?_
            refine w_if_eq 81 dX12_flowOf_72 (by decide) (by omega) (fun c72 => ?_) (fun c72 => ?_)
            · (exfalso; omega)
            · refine w_iload_n dX12_flowOf_75 rfl ?_
              refine w_iconst dX12_flowOf_76 ?_
              refine w_isub dX12_flowOf_77 ?_
              refine w_goto 84 dX12_flowOf_78 (by decide) ?_
              refine w_istore_n [some (aR 12 0), some (aI x), some (aI (v - 1)), some (aI 1)] dX12_flowOf_84 rfl (by decide) ?_
              refine w_goto 2 dX12_flowOf_85 (by decide) ?_
              refine w_drop [3] [some (aR 12 0), some (aI x), some (aI (v - 1)), none] rfl ?_
              have hq := slI_l g2 hx (by omega) hc2 iv2 ⟨c32.1, by omega⟩ (Or.inr ⟨c43.1, by omega⟩)
              exact ih2 hq.1 _ hq.2
    · refine w_aload_n dX12_flowOf_13 rfl ?_
      refine w_iload_n dX12_flowOf_14 rfl ?_
      refine w_iconst dX12_flowOf_15 ?_
      refine w_iadd dX12_flowOf_16 ?_
      refine w_iload_n dX12_flowOf_17 rfl ?_
      refine w_callV (d := d + 2) (S := []) [aI (v + 1), aI v] dX12_flowOf_18 ml_X12_320 ok_X12_isLower vi_X12_isLower rfl rfl (by decide) rfl (Nat.le_of_ble_eq_true rfl) ?_
      refine c_X12_isLower (d := d) (v + 1) v H J R hH hb (show 0 ≤ v ∧ v < gg 4 0 1 by omega) (by omega) ?_
      show fwWP mX12_flowOf (d + 3) 21 [some (aR 12 0), some (aI x), some (aI v), none] [aI (fwB ((0 ≤ (v + 1) ∧ (v + 1) ≤ gg 4 0 1 - 1) ∧ H (v + 1).toNat < H v.toNat))] h Q
      refine w_ifB_eq 88 dX12_flowOf_21 (by decide) (fun c21 => ?_) (fun c21 => ?_)
      · have hds := slI_e hc2 iv2 (fun z => c10 ⟨z.1, by have := z.2; omega⟩) (fun z => c21 ⟨z.1, by have := z.2; omega⟩)
        refine w_iload_n dX12_flowOf_88 rfl ?_
        exact w_iretE dX12_flowOf_89 rfl hds.symm k
      · refine w_aload_n dX12_flowOf_24 rfl ?_
        refine w_iload_n dX12_flowOf_25 rfl ?_
        refine w_iconst dX12_flowOf_26 ?_
        refine w_isub dX12_flowOf_27 ?_
        refine w_iload_n dX12_flowOf_28 rfl ?_
        refine w_callV (d := d + 2) (S := []) [aI (v - 1), aI v] dX12_flowOf_29 ml_X12_320 ok_X12_isLower vi_X12_isLower rfl rfl (by decide) rfl (Nat.le_of_ble_eq_true rfl) ?_
        refine c_X12_isLower (d := d) (v - 1) v H J R hH hb (show 0 ≤ v ∧ v < gg 4 0 1 by omega) (by omega) ?_
        show fwWP mX12_flowOf (d + 3) 32 [some (aR 12 0), some (aI x), some (aI v), none] [aI (fwB ((0 ≤ (v - 1) ∧ (v - 1) ≤ gg 4 0 1 - 1) ∧ H (v - 1).toNat < H v.toNat))] h Q
        refine w_ifB_eq 69 dX12_flowOf_32 (by decide) (fun c32 => ?_) (fun c32 => ?_)
        · refine w_iconst dX12_flowOf_69 ?_
          refine w_istore_n [some (aR 12 0), some (aI x), some (aI v), some (aI 0)] dX12_flowOf_70 rfl (by decide) ?_
          refine w_iload_n dX12_flowOf_71 rfl ?_
          refine w_if_eq 81 dX12_flowOf_72 (by decide) (by omega) (fun c72 => ?_) (fun c72 => ?_)
          · refine w_iload_n dX12_flowOf_81 rfl ?_
            refine w_iconst dX12_flowOf_82 ?_
            refine w_iadd dX12_flowOf_83 ?_
            refine w_istore_n [some (aR 12 0), some (aI x), some (aI (v + 1)), some (aI 0)] dX12_flowOf_84 rfl (by decide) ?_
            refine w_goto 2 dX12_flowOf_85 (by decide) ?_
            refine w_drop [3] [some (aR 12 0), some (aI x), some (aI (v + 1)), none] rfl ?_
            have hq := slI_r g2 hx (by omega) hc2 iv2 ⟨c21.1, by omega⟩ (Or.inl (fun z => c10 ⟨z.1, by have := z.2; omega⟩))
            exact ih2 hq.1 _ hq.2
          · (exfalso; omega)
        · exact absurd c32 c10
  exact lp2 0 (Nat.zero_le _) _ ⟨hx, rfl, Or.inl ⟨by omega, Or.inl rfl⟩⟩
set_option maxRecDepth 100000 in
set_option maxHeartbeats 4000000 in
theorem c_X12_flows {d : Nat} {h gg : fwH} {Q : Option fwV → fwH → Prop} (x : Int) (J : cOk gg) (R : jF gg h) (K : jA gg h) (hsh : sc h) (hx : -2147483648 ≤ x ∧ x < 2147483648) (k : ∀ g, scr h g → Q (some (aI (an_flows gg x))) g) : fwCt mX12_flows (d + 6) [aR 12 0, aI x] h Q := by
  refine fwCt_of [some (aR 12 0), some (aI x)] rfl rfl rfl ?_
  obtain ⟨hl, hP, hG, hM0, htd, hut, hlw, hhc, ha, hs, hT, hsc⟩ := id J
  have hb17 : hB (gg 17 0) := fun c hc => by have := hM0 c hc; omega
  obtain ⟨⟨g1, g2⟩, ⟨g3, g4⟩, ⟨g5, g6⟩, g7, -⟩ := id hG
  have h17_99 : ∀ c : Nat, (c : Int) < gg 4 0 1 → gg 17 0 c ≤ 99 := fun c hc => (hM0 c (by omega)).2
  have hpz := hP.1
  have hrs1 := R.2.2.2.2.2.2.2.2.2.2.2
  refine w_aload_n dX12_flows_0 rfl ?_
  refine w_iload_n dX12_flows_1 rfl ?_
  refine w_i2l dX12_flows_2 (by omega) ?_
  refine w_callV (d := d + 5) (S := []) [aJ x] dX12_flows_3 ml_X12_203 ok_X12_isCell vi_X12_isCell rfl rfl (by decide) rfl (Nat.le_of_ble_eq_true rfl) ?_
  refine c_X12_isCell (d := (d + 4)) x J R (by omega) ?_
  show fwWP mX12_flows (d + 6) 6 [some (aR 12 0), some (aI x)] [aI (fwB (0 ≤ x ∧ x ≤ gg 4 0 1 - 1))] h Q
  refine w_ifB_ne 12 dX12_flows_6 (by decide) (fun c6 => ?_) (fun c6 => ?_)
  · refine w_aload_n dX12_flows_12 rfl ?_
    refine w_callV (d := d + 5) (S := []) [] dX12_flows_13 ml_X12_240 ok_X12_asItIs vi_X12_asItIs rfl rfl (by decide) rfl (Nat.le_of_ble_eq_true rfl) ?_
    refine c_X12_asItIs (d := d) J R K (show 1 ≤ gg 4 0 1 by omega) (show 1 ≤ gg 4 0 3 by omega) ?_
    intro A13_2 hA13_2
    show fwWP mX12_flows (d + 6) 16 [some (aR 12 0), some (aI x)] [] (fwUc h 42 0 A13_2) Q
    refine w_aload_n dX12_flows_16 rfl ?_
    refine w_iload_n dX12_flows_17 rfl ?_
    refine w_callV (d := d + 5) (S := []) [aI x] dX12_flows_18 ml_X12_323 ok_X12_flowOf vi_X12_flowOf rfl rfl (by decide) rfl (Nat.le_of_ble_eq_true rfl) ?_
    refine c_X12_flowOf (d := (d + 2)) x (gg 17 0) J R hA13_2 hb17 (show 0 ≤ x ∧ x < gg 4 0 1 by omega) ?_
    show fwWP mX12_flows (d + 6) 21 [some (aR 12 0), some (aI x)] [aI (mDesc (gg 4 0 1) (gg 17 0) 0 10 x)] (fwUc h 42 0 A13_2) Q
    have hdr3 := mDesc_rng (gg 17 0) (sl := 0) (n := gg 4 0 1) (by omega) 10 x (by omega)
    exact w_iretE dX12_flows_21 rfl (by unfold an_flows; first | (rw [if_pos (by omega)]; done) | (rw [if_neg (by omega)]; done) | (rw [if_pos (by omega)]; rfl) | (rw [if_neg (by omega)]; rfl)) (k _ (scr_uc (scr_rf hsh) rfl (by decide) (by decide) (by decide)))
  · refine w_bipush dX12_flows_9 rfl ?_
    exact w_iretE dX12_flows_11 rfl (by unfold an_flows; first | (rw [if_pos (by omega)]; done) | (rw [if_neg (by omega)]; done) | (rw [if_pos (by omega)]; rfl) | (rw [if_neg (by omega)]; rfl)) (k _ (scr_rf hsh))
set_option maxRecDepth 100000 in
set_option maxHeartbeats 4000000 in
theorem c_X12_basin {d : Nat} {h gg : fwH} {Q : Option fwV → fwH → Prop} (x : Int) (J : cOk gg) (R : jF gg h) (K : jA gg h) (hsh : sc h) (hx : -2147483648 ≤ x ∧ x < 2147483648) (k : ∀ g, scr h g → Q (some (aI (an_basin gg x))) g) : fwCt mX12_basin (d + 6) [aR 12 0, aI x] h Q := by
  refine fwCt_of [some (aR 12 0), some (aI x), none, none] rfl rfl rfl ?_
  obtain ⟨hl, hP, hG, hM0, htd, hut, hlw, hhc, ha, hs, hT, hsc⟩ := id J
  have hb17 : hB (gg 17 0) := fun c hc => by have := hM0 c hc; omega
  obtain ⟨⟨g1, g2⟩, ⟨g3, g4⟩, ⟨g5, g6⟩, g7, -⟩ := id hG
  have h17_99 : ∀ c : Nat, (c : Int) < gg 4 0 1 → gg 17 0 c ≤ 99 := fun c hc => (hM0 c (by omega)).2
  have hpz := hP.1
  have hrs1 := R.2.2.2.2.2.2.2.2.2.2.2
  refine w_aload_n dX12_basin_0 rfl ?_
  refine w_iload_n dX12_basin_1 rfl ?_
  refine w_i2l dX12_basin_2 (by omega) ?_
  refine w_callV (d := d + 5) (S := []) [aJ x] dX12_basin_3 ml_X12_203 ok_X12_isCell vi_X12_isCell rfl rfl (by decide) rfl (Nat.le_of_ble_eq_true rfl) ?_
  refine c_X12_isCell (d := (d + 4)) x J R (by omega) ?_
  show fwWP mX12_basin (d + 6) 6 [some (aR 12 0), some (aI x), none, none] [aI (fwB (0 ≤ x ∧ x ≤ gg 4 0 1 - 1))] h Q
  refine w_ifB_ne 12 dX12_basin_6 (by decide) (fun c6 => ?_) (fun c6 => ?_)
  · refine w_aload_n dX12_basin_12 rfl ?_
    refine w_callV (d := d + 5) (S := []) [] dX12_basin_13 ml_X12_240 ok_X12_asItIs vi_X12_asItIs rfl rfl (by decide) rfl (Nat.le_of_ble_eq_true rfl) ?_
    refine c_X12_asItIs (d := d) J R K (show 1 ≤ gg 4 0 1 by omega) (show 1 ≤ gg 4 0 3 by omega) ?_
    intro A13_2 hA13_2
    show fwWP mX12_basin (d + 6) 16 [some (aR 12 0), some (aI x), none, none] [] (fwUc h 42 0 A13_2) Q
    refine w_iconst dX12_basin_16 ?_
    refine w_istore_n [some (aR 12 0), some (aI x), some (aI 0), none] dX12_basin_17 rfl (by decide) ?_
    refine w_iconst dX12_basin_18 ?_
    refine w_istore_n [some (aR 12 0), some (aI x), some (aI 0), some (aI 0)] dX12_basin_19 rfl (by decide) ?_
    have lp20 : ∀ c : Nat, c ≤ (gg 4 0 1).toNat → ∀ (y20 se : Int), y20 = (c : Int) → se = mBits (fun c => decide (mDesc (gg 4 0 1) (gg 17 0) 0 10 (c : Int) = x)) c → fwWP mX12_basin (d + 6) 20 [some (aR 12 0), some (aI x), some (aI se), some (aI y20)] [] (fwUc h 42 0 A13_2) Q := by
      refine fw_up (fun c hc20 ih20 => ?_)
      intro y20 se ey20 e_se
      subst ey20
      subst e_se
      show fwWP mX12_basin (d + 6) 20 [some (aR 12 0), some (aI x), some (aI (mBits (fun c => decide (mDesc (gg 4 0 1) (gg 17 0) 0 10 (c : Int) = x)) c)), some (aI (c : Int))] [] (fwUc h 42 0 A13_2) Q
      refine w_iload_n dX12_basin_20 rfl ?_
      refine w_aload_n dX12_basin_21 rfl ?_
      refine w_getr 36 0 dX12_basin_22 fl_X12_9 rfl (by decide) ?_
      refine w_iconst dX12_basin_25 ?_
      refine w_ialdE (v := gg 4 0 1) dX12_basin_26 rfl (by decide) (by omega) (by omega) R.1 ?_
      refine w_icmp_ge 55 dX12_basin_27 (by decide) (by omega) (by omega) (fun c27 => ?_) (fun c27 => ?_)
      · have ec20 : (gg 4 0 1).toNat = c := by omega
        subst ec20
        refine w_iload_n dX12_basin_55 rfl ?_
        exact w_iretE dX12_basin_56 rfl (by unfold an_basin; first | (rw [if_pos (by omega)]; done) | (rw [if_neg (by omega)]; done) | (rw [if_pos (by omega)]; rfl) | (rw [if_neg (by omega)]; rfl)) (k _ (scr_uc (scr_rf hsh) rfl (by decide) (by decide) (by decide)))
      · refine w_iload_n dX12_basin_30 rfl ?_
        refine w_aload_n dX12_basin_31 rfl ?_
        refine w_iload_n dX12_basin_32 rfl ?_
        refine w_callV (d := d + 5) (S := [aI (mBits (fun c => decide (mDesc (gg 4 0 1) (gg 17 0) 0 10 (c : Int) = x)) c)]) [aI (c : Int)] dX12_basin_33 ml_X12_323 ok_X12_flowOf vi_X12_flowOf rfl rfl (by decide) rfl (Nat.le_of_ble_eq_true rfl) ?_
        refine c_X12_flowOf (d := (d + 2)) (c : Int) (gg 17 0) J R hA13_2 hb17 (show 0 ≤ (c : Int) ∧ (c : Int) < gg 4 0 1 by omega) ?_
        show fwWP mX12_basin (d + 6) 36 [some (aR 12 0), some (aI x), some (aI (mBits (fun c => decide (mDesc (gg 4 0 1) (gg 17 0) 0 10 (c : Int) = x)) c)), some (aI (c : Int))] [aI (mDesc (gg 4 0 1) (gg 17 0) 0 10 (c : Int)), aI (mBits (fun c => decide (mDesc (gg 4 0 1) (gg 17 0) 0 10 (c : Int) = x)) c)] (fwUc h 42 0 A13_2) Q
        have hdr4 := mDesc_rng (gg 17 0) (sl := 0) (n := gg 4 0 1) (by omega) 10 (c : Int) (by omega)
        refine w_iload_n dX12_basin_36 rfl ?_
        refine w_icmp_ne 46 dX12_basin_37 (by decide) (by omega) (by omega) (fun c37 => ?_) (fun c37 => ?_)
        · refine w_iconst dX12_basin_46 ?_
          refine w_ior dX12_basin_47 ?_
          refine w_istore_n [some (aR 12 0), some (aI x), some (aI (fwOr (mBits (fun c => decide (mDesc (gg 4 0 1) (gg 17 0) 0 10 (c : Int) = x)) c) 0)), some (aI (c : Int))] dX12_basin_48 rfl (by decide) ?_
          refine w_iinc [some (aR 12 0), some (aI x), some (aI (fwOr (mBits (fun c => decide (mDesc (gg 4 0 1) (gg 17 0) 0 10 (c : Int) = x)) c) 0)), some (aI ((c : Int) + 1))] dX12_basin_49 rfl rfl (by decide) ?_
          refine w_goto 20 dX12_basin_52 (by decide) ?_
          refine ih20 (by omega) _ _ ?_ ?_
          · exact (by omega)
          · exact (by rw [mBits, if_neg (by rw [decide_eq_true_eq]; omega), fwOr_0 (mBits_rng _ _)])
        · refine w_iconst dX12_basin_40 ?_
          refine w_iload_n dX12_basin_41 rfl ?_
          refine w_ishl dX12_basin_42 ?_
          refine w_goto 47 dX12_basin_43 (by decide) ?_
          refine w_ior dX12_basin_47 ?_
          refine w_istore_n [some (aR 12 0), some (aI x), some (aI (fwOr (mBits (fun c => decide (mDesc (gg 4 0 1) (gg 17 0) 0 10 (c : Int) = x)) c) (fwShl 1 (c : Int)))), some (aI (c : Int))] dX12_basin_48 rfl (by decide) ?_
          refine w_iinc [some (aR 12 0), some (aI x), some (aI (fwOr (mBits (fun c => decide (mDesc (gg 4 0 1) (gg 17 0) 0 10 (c : Int) = x)) c) (fwShl 1 (c : Int)))), some (aI ((c : Int) + 1))] dX12_basin_49 rfl rfl (by decide) ?_
          refine w_goto 20 dX12_basin_52 (by decide) ?_
          refine ih20 (by omega) _ _ ?_ ?_
          · exact (by omega)
          · exact (by rw [mBits, if_pos (decide_eq_true (by omega))])
    refine lp20 0 (Nat.zero_le _) _ _ ?_ ?_
    · exact (by omega)
    · exact rfl
  · refine w_bipush dX12_basin_9 rfl ?_
    exact w_iretE dX12_basin_11 rfl (by unfold an_basin; first | (rw [if_pos (by omega)]; done) | (rw [if_neg (by omega)]; done) | (rw [if_pos (by omega)]; rfl) | (rw [if_neg (by omega)]; rfl)) (k _ (scr_rf hsh))
set_option maxRecDepth 100000 in
set_option maxHeartbeats 4000000 in
theorem c_X12_springs {d : Nat} {h gg : fwH} {Q : Option fwV → fwH → Prop}  (J : cOk gg) (R : jF gg h) (K : jA gg h) (hsh : sc h)  (k : ∀ g, scr h g → Q (some (aI (an_springs gg ))) g) : fwCt mX12_springs (d + 6) [aR 12 0] h Q := by
  refine fwCt_of [some (aR 12 0), none, none] rfl rfl rfl ?_
  obtain ⟨hl, hP, hG, hM0, htd, hut, hlw, hhc, ha, hs, hT, hsc⟩ := id J
  have hb17 : hB (gg 17 0) := fun c hc => by have := hM0 c hc; omega
  obtain ⟨⟨g1, g2⟩, ⟨g3, g4⟩, ⟨g5, g6⟩, g7, -⟩ := id hG
  have h17_99 : ∀ c : Nat, (c : Int) < gg 4 0 1 → gg 17 0 c ≤ 99 := fun c hc => (hM0 c (by omega)).2
  have hpz := hP.1
  have hrs1 := R.2.2.2.2.2.2.2.2.2.2.2
  refine w_aload_n dX12_springs_0 rfl ?_
  refine w_callV (d := d + 5) (S := []) [] dX12_springs_1 ml_X12_73 ok_X12_isMount vi_X12_isMount rfl rfl (by decide) rfl (Nat.le_of_ble_eq_true rfl) ?_
  refine c_X12_isMount (d := (d + 5)) J R ?_
  show fwWP mX12_springs (d + 6) 4 [some (aR 12 0), none, none] [aI (fwB (0 < gg 3 0 6))] h Q
  refine w_ifB_ne 10 dX12_springs_4 (by decide) (fun c4 => ?_) (fun c4 => ?_)
  · refine w_aload_n dX12_springs_10 rfl ?_
    refine w_callV (d := d + 5) (S := []) [] dX12_springs_11 ml_X12_240 ok_X12_asItIs vi_X12_asItIs rfl rfl (by decide) rfl (Nat.le_of_ble_eq_true rfl) ?_
    refine c_X12_asItIs (d := d) J R K (show 1 ≤ gg 4 0 1 by omega) (show 1 ≤ gg 4 0 3 by omega) ?_
    intro A11_2 hA11_2
    show fwWP mX12_springs (d + 6) 14 [some (aR 12 0), none, none] [] (fwUc h 42 0 A11_2) Q
    refine w_iconst dX12_springs_14 ?_
    refine w_istore_n [some (aR 12 0), some (aI 0), none] dX12_springs_15 rfl (by decide) ?_
    refine w_iconst dX12_springs_16 ?_
    refine w_istore_n [some (aR 12 0), some (aI 0), some (aI 0)] dX12_springs_17 rfl (by decide) ?_
    have lp18 : ∀ c : Nat, c ≤ (gg 4 0 1).toNat → ∀ (y18 se : Int), y18 = (c : Int) → se = mEnds (gg 4 0 1) (gg 17 0) c → fwWP mX12_springs (d + 6) 18 [some (aR 12 0), some (aI se), some (aI y18)] [] (fwUc h 42 0 A11_2) Q := by
      refine fw_up (fun c hc18 ih18 => ?_)
      intro y18 se ey18 e_se
      subst ey18
      subst e_se
      show fwWP mX12_springs (d + 6) 18 [some (aR 12 0), some (aI (mEnds (gg 4 0 1) (gg 17 0) c)), some (aI (c : Int))] [] (fwUc h 42 0 A11_2) Q
      refine w_iload_n dX12_springs_18 rfl ?_
      refine w_aload_n dX12_springs_19 rfl ?_
      refine w_getr 36 0 dX12_springs_20 fl_X12_9 rfl (by decide) ?_
      refine w_iconst dX12_springs_23 ?_
      refine w_ialdE (v := gg 4 0 1) dX12_springs_24 rfl (by decide) (by omega) (by omega) R.1 ?_
      refine w_icmp_ge 44 dX12_springs_25 (by decide) (by omega) (by omega) (fun c25 => ?_) (fun c25 => ?_)
      · have ec18 : (gg 4 0 1).toNat = c := by omega
        subst ec18
        refine w_iload_n dX12_springs_44 rfl ?_
        exact w_iretE dX12_springs_45 rfl (by unfold an_springs; first | (rw [if_pos (by omega)]; done) | (rw [if_neg (by omega)]; done) | (rw [if_pos (by omega)]; rfl) | (rw [if_neg (by omega)]; rfl)) (k _ (scr_uc (scr_rf hsh) rfl (by decide) (by decide) (by decide)))
      · refine w_iload_n dX12_springs_28 rfl ?_
        refine w_iconst dX12_springs_29 ?_
        refine w_aload_n dX12_springs_30 rfl ?_
        refine w_iload_n dX12_springs_31 rfl ?_
        refine w_callV (d := d + 5) (S := [aI 1, aI (mEnds (gg 4 0 1) (gg 17 0) c)]) [aI (c : Int)] dX12_springs_32 ml_X12_323 ok_X12_flowOf vi_X12_flowOf rfl rfl (by decide) rfl (Nat.le_of_ble_eq_true rfl) ?_
        refine c_X12_flowOf (d := (d + 2)) (c : Int) (gg 17 0) J R hA11_2 hb17 (show 0 ≤ (c : Int) ∧ (c : Int) < gg 4 0 1 by omega) ?_
        show fwWP mX12_springs (d + 6) 35 [some (aR 12 0), some (aI (mEnds (gg 4 0 1) (gg 17 0) c)), some (aI (c : Int))] [aI (mDesc (gg 4 0 1) (gg 17 0) 0 10 (c : Int)), aI 1, aI (mEnds (gg 4 0 1) (gg 17 0) c)] (fwUc h 42 0 A11_2) Q
        have hdr4 := mDesc_rng (gg 17 0) (sl := 0) (n := gg 4 0 1) (by omega) 10 (c : Int) (by omega)
        refine w_ishl dX12_springs_35 ?_
        refine w_ior dX12_springs_36 ?_
        refine w_istore_n [some (aR 12 0), some (aI (fwOr (mEnds (gg 4 0 1) (gg 17 0) c) (fwShl 1 (mDesc (gg 4 0 1) (gg 17 0) 0 10 (c : Int))))), some (aI (c : Int))] dX12_springs_37 rfl (by decide) ?_
        refine w_iinc [some (aR 12 0), some (aI (fwOr (mEnds (gg 4 0 1) (gg 17 0) c) (fwShl 1 (mDesc (gg 4 0 1) (gg 17 0) 0 10 (c : Int))))), some (aI ((c : Int) + 1))] dX12_springs_38 rfl rfl (by decide) ?_
        refine w_goto 18 dX12_springs_41 (by decide) ?_
        refine ih18 (by omega) _ _ ?_ ?_
        · exact (by omega)
        · exact (by rw [mEnds])
    refine lp18 0 (Nat.zero_le _) _ _ ?_ ?_
    · exact (by omega)
    · exact rfl
  · refine w_bipush dX12_springs_7 rfl ?_
    exact w_iretE dX12_springs_9 rfl (by unfold an_springs; first | (rw [if_pos (by omega)]; done) | (rw [if_neg (by omega)]; done) | (rw [if_pos (by omega)]; rfl) | (rw [if_neg (by omega)]; rfl)) (k _ (scr_rf hsh))
theorem mCliff_r (H : Nat → Int) (rs : Int) : ∀ c : Nat, 0 ≤ mCliff H rs c ∧ mCliff H rs c ≤ c := by
  intro c
  induction c with
  | zero => simp [mCliff]
  | succ c ih => rw [mCliff]; split <;> omega
set_option maxRecDepth 100000 in
set_option maxHeartbeats 4000000 in
theorem c_X12_cliffs {d : Nat} {h gg : fwH} {Q : Option fwV → fwH → Prop}  (J : cOk gg) (R : jF gg h) (K : jA gg h) (hsh : sc h)  (k : ∀ g, scr h g → Q (some (aI (an_cliffs gg ))) g) : fwCt mX12_cliffs (d + 6) [aR 12 0] h Q := by
  refine fwCt_of [some (aR 12 0), none, none] rfl rfl rfl ?_
  obtain ⟨hl, hP, hG, hM0, htd, hut, hlw, hhc, ha, hs, hT, hsc⟩ := id J
  have hb17 : hB (gg 17 0) := fun c hc => by have := hM0 c hc; omega
  obtain ⟨⟨g1, g2⟩, ⟨g3, g4⟩, ⟨g5, g6⟩, g7, -⟩ := id hG
  have h17_99 : ∀ c : Nat, (c : Int) < gg 4 0 1 → gg 17 0 c ≤ 99 := fun c hc => (hM0 c (by omega)).2
  have hpz := hP.1
  have hrs1 := R.2.2.2.2.2.2.2.2.2.2.2
  refine w_aload_n dX12_cliffs_0 rfl ?_
  refine w_callV (d := d + 5) (S := []) [] dX12_cliffs_1 ml_X12_73 ok_X12_isMount vi_X12_isMount rfl rfl (by decide) rfl (Nat.le_of_ble_eq_true rfl) ?_
  refine c_X12_isMount (d := (d + 5)) J R ?_
  show fwWP mX12_cliffs (d + 6) 4 [some (aR 12 0), none, none] [aI (fwB (0 < gg 3 0 6))] h Q
  refine w_ifB_ne 10 dX12_cliffs_4 (by decide) (fun c4 => ?_) (fun c4 => ?_)
  · refine w_aload_n dX12_cliffs_10 rfl ?_
    refine w_callV (d := d + 5) (S := []) [] dX12_cliffs_11 ml_X12_240 ok_X12_asItIs vi_X12_asItIs rfl rfl (by decide) rfl (Nat.le_of_ble_eq_true rfl) ?_
    refine c_X12_asItIs (d := d) J R K (show 1 ≤ gg 4 0 1 by omega) (show 1 ≤ gg 4 0 3 by omega) ?_
    intro A11_2 hA11_2
    show fwWP mX12_cliffs (d + 6) 14 [some (aR 12 0), none, none] [] (fwUc h 42 0 A11_2) Q
    refine w_iconst dX12_cliffs_14 ?_
    refine w_istore_n [some (aR 12 0), some (aI 0), none] dX12_cliffs_15 rfl (by decide) ?_
    refine w_iconst dX12_cliffs_16 ?_
    refine w_istore_n [some (aR 12 0), some (aI 0), some (aI 1)] dX12_cliffs_17 rfl (by decide) ?_
    have lp18 : ∀ c : Nat, c ≤ (gg 4 0 1).toNat - 1 → ∀ (y18 nv : Int), y18 = (c : Int) + 1 → nv = mCliff (gg 17 0) (gg 4 0 3) c → fwWP mX12_cliffs (d + 6) 18 [some (aR 12 0), some (aI nv), some (aI y18)] [] (fwUc h 42 0 A11_2) Q := by
      refine fw_up (fun c hc18 ih18 => ?_)
      intro y18 nv ey18 e_nv
      subst ey18
      subst e_nv
      show fwWP mX12_cliffs (d + 6) 18 [some (aR 12 0), some (aI (mCliff (gg 17 0) (gg 4 0 3) c)), some (aI ((c : Int) + 1))] [] (fwUc h 42 0 A11_2) Q
      refine w_iload_n dX12_cliffs_18 rfl ?_
      refine w_aload_n dX12_cliffs_19 rfl ?_
      refine w_getr 36 0 dX12_cliffs_20 fl_X12_9 rfl (by decide) ?_
      refine w_iconst dX12_cliffs_23 ?_
      refine w_ialdE (v := gg 4 0 1) dX12_cliffs_24 rfl (by decide) (by omega) (by omega) R.1 ?_
      refine w_icmp_ge 69 dX12_cliffs_25 (by decide) (by omega) (by omega) (fun c25 => ?_) (fun c25 => ?_)
      · have ec18 : (gg 4 0 1).toNat - 1 = c := by omega
        subst ec18
        refine w_iload_n dX12_cliffs_69 rfl ?_
        exact w_iretE dX12_cliffs_70 rfl (by unfold an_cliffs; first | (rw [if_pos (by omega)]; done) | (rw [if_neg (by omega)]; done) | (rw [if_pos (by omega)]; rfl) | (rw [if_neg (by omega)]; rfl)) (k _ (scr_uc (scr_rf hsh) rfl (by decide) (by decide) (by decide)))
      · have hb1 := hM0 (c + 1) (by omega)
        have hb2 := hM0 c (by omega)
        have hcr := mCliff_r (gg 17 0) (gg 4 0 3) c
        refine w_iload_n dX12_cliffs_28 rfl ?_
        refine w_aload_n dX12_cliffs_29 rfl ?_
        refine w_getr 42 0 dX12_cliffs_30 fl_X12_34 rfl (by decide) ?_
        refine w_iload_n dX12_cliffs_33 rfl ?_
        refine w_ialdE (v := (gg 17 0) (c + 1)) dX12_cliffs_34 rfl (by decide) (by omega) (by omega) (hA11_2 _ (by omega)) ?_
        refine w_aload_n dX12_cliffs_35 rfl ?_
        refine w_getr 42 0 dX12_cliffs_36 fl_X12_34 rfl (by decide) ?_
        refine w_iload_n dX12_cliffs_39 rfl ?_
        refine w_iconst dX12_cliffs_40 ?_
        refine w_isub dX12_cliffs_41 ?_
        refine w_ialdE (v := gg 17 0 c) dX12_cliffs_42 rfl (by decide) (by omega) (by omega) (by rw [show (((c : Int) + 1) - 1).toNat = c by omega]; exact hA11_2 c (by omega)) ?_
        refine w_isub dX12_cliffs_43 ?_
        refine w_abs (d := d + 5) (S := [aI (mCliff (gg 17 0) (gg 4 0 3) c)]) dX12_cliffs_44 ml_X12_214 (by omega) (Nat.le_of_ble_eq_true rfl) ?_
        refine w_aload_n dX12_cliffs_47 rfl ?_
        refine w_getr 36 0 dX12_cliffs_48 fl_X12_9 rfl (by decide) ?_
        refine w_iconst dX12_cliffs_51 ?_
        refine w_ialdE (v := gg 4 0 3) dX12_cliffs_52 rfl (by decide) (by omega) (by omega) R.2.2.1 ?_
        refine w_icmp_le 60 dX12_cliffs_53 (by decide) (by split <;> omega) (by omega) (fun c53 => ?_) (fun c53 => ?_)
        · refine w_iconst dX12_cliffs_60 ?_
          refine w_iadd dX12_cliffs_61 ?_
          refine w_istore_n [some (aR 12 0), some (aI ((mCliff (gg 17 0) (gg 4 0 3) c) + 0)), some (aI ((c : Int) + 1))] dX12_cliffs_62 rfl (by decide) ?_
          refine w_iinc [some (aR 12 0), some (aI ((mCliff (gg 17 0) (gg 4 0 3) c) + 0)), some (aI (((c : Int) + 1) + 1))] dX12_cliffs_63 rfl rfl (by decide) ?_
          refine w_goto 18 dX12_cliffs_66 (by decide) ?_
          refine ih18 (by omega) _ _ ?_ ?_
          · exact (by omega)
          · exact (by rw [mCliff, if_neg (by split at c53 <;> omega)]; omega)
        · refine w_iconst dX12_cliffs_56 ?_
          refine w_goto 61 dX12_cliffs_57 (by decide) ?_
          refine w_iadd dX12_cliffs_61 ?_
          refine w_istore_n [some (aR 12 0), some (aI ((mCliff (gg 17 0) (gg 4 0 3) c) + 1)), some (aI ((c : Int) + 1))] dX12_cliffs_62 rfl (by decide) ?_
          refine w_iinc [some (aR 12 0), some (aI ((mCliff (gg 17 0) (gg 4 0 3) c) + 1)), some (aI (((c : Int) + 1) + 1))] dX12_cliffs_63 rfl rfl (by decide) ?_
          refine w_goto 18 dX12_cliffs_66 (by decide) ?_
          refine ih18 (by omega) _ _ ?_ ?_
          · exact (by omega)
          · exact (by rw [mCliff, if_pos (by split at c53 <;> omega)])
    refine lp18 0 (Nat.zero_le _) _ _ ?_ ?_
    · exact (by omega)
    · exact rfl
  · refine w_bipush dX12_cliffs_7 rfl ?_
    exact w_iretE dX12_cliffs_9 rfl (by unfold an_cliffs; first | (rw [if_pos (by omega)]; done) | (rw [if_neg (by omega)]; done) | (rw [if_pos (by omega)]; rfl) | (rw [if_neg (by omega)]; rfl)) (k _ (scr_rf hsh))
end
section
/-- what stands between, seen from either side -/
def seP (H : Nat → Int) (x o k : Int) : Prop := (H (if x < o then x + k else x - k).toNat - H x.toNat) * (if x < o then o - x else x - o) ≤ (H o.toNat - H x.toNat) * k
theorem see_eq {H : Nat → Int} {x o : Nat} : mSeenB H x o = true ↔ ∀ k : Nat, 1 ≤ k → (k : Int) < (if (x : Int) < o then (o : Int) - x else (x : Int) - o) → seP H x o k := by
  unfold mSeenB
  by_cases h1 : x < o
  · rw [if_pos h1, if_pos (by omega), decide_eq_true_eq]
    unfold mSee
    rw [mAll_iff]
    constructor
    · intro q k hk1 hk2
      have := of_decide_eq_true (q (k - 1) (by omega))
      unfold seP
      rw [if_pos (by omega), if_pos (by omega)]
      rw [show x + 1 + (k - 1) = x + k by omega, show (x : Int) + 1 + ((k - 1 : Nat) : Int) - (x : Int) = (k : Int) by omega] at this
      rw [show ((x : Int) + (k : Int)).toNat = x + k by omega]
      exact this
    · intro q j hj
      have := q (j + 1) (by omega) (by omega)
      unfold seP at this
      rw [if_pos (by omega), if_pos (by omega)] at this
      apply decide_eq_true
      rw [show ((x : Int) + ((j + 1 : Nat) : Int)).toNat = x + 1 + j by omega] at this
      rw [show (x : Int) + 1 + (j : Int) - (x : Int) = ((j + 1 : Nat) : Int) by omega]
      exact this
  · rw [if_neg h1, if_neg (by omega), decide_eq_true_eq]
    unfold mSee
    rw [mAll_iff]
    have key : ∀ (a b c f k : Int), (a - b) * f ≤ (c - b) * (f - k) ↔ (a - c) * f ≤ (b - c) * k := by
      intro a b c f k
      simp only [Int.sub_mul, Int.mul_sub]
      constructor <;> intro z <;> omega
    constructor
    · intro q k hk1 hk2
      have := of_decide_eq_true (q (x - o - 1 - k) (by omega))
      unfold seP
      rw [if_neg (by omega), if_neg (by omega)]
      rw [show o + 1 + (x - o - 1 - k) = x - k by omega, show (o : Int) + 1 + ((x - o - 1 - k : Nat) : Int) - (o : Int) = ((x : Int) - (o : Int)) - (k : Int) by omega] at this
      rw [show ((x : Int) - (k : Int)).toNat = x - k by omega]
      exact (key _ _ _ _ _).mp this
    · intro q j hj
      have := q (x - o - 1 - j) (by omega) (by omega)
      unfold seP at this
      rw [if_neg (by omega), if_neg (by omega)] at this
      apply decide_eq_true
      rw [show ((x : Int) - ((x - o - 1 - j : Nat) : Int)).toNat = o + 1 + j by omega] at this
      rw [show (o : Int) + 1 + (j : Int) - (o : Int) = ((x : Int) - (o : Int)) - ((x - o - 1 - j : Nat) : Int) by omega]
      exact (key _ _ _ _ _).mpr this
theorem mul_r3 {a b : Int} (h1 : -1000 ≤ a ∧ a ≤ 1000) (h2 : 0 ≤ b ∧ b ≤ 20) : -20000 ≤ a * b ∧ a * b ≤ 20000 := by
  constructor
  · have := Int.mul_le_mul_of_nonneg_right h1.1 h2.1
    have := Int.mul_le_mul_of_nonneg_left h2.2 (show (0 : Int) ≤ 1000 by omega)
    omega
  · have := Int.mul_le_mul_of_nonneg_right h1.2 h2.1
    have := Int.mul_le_mul_of_nonneg_left h2.2 (show (0 : Int) ≤ 1000 by omega)
    omega
set_option maxRecDepth 100000 in
set_option maxHeartbeats 4000000 in
theorem c_X12_isSeen {d : Nat} {h gg : fwH} {Q : Option fwV → fwH → Prop} (x o : Nat) (H : Nat → Int) (J : cOk gg) (R : jF gg h) (hH : hiR (gg 4 0 1) (h 42 0) H) (hb : hB H) (hx : (x : Int) < gg 4 0 1) (ho : (o : Int) < gg 4 0 1) (k : Q (some (aI (fwB (mSeenB H x o = true)))) h) : fwCt mX12_isSeen (d + 1) [aR 12 0, aI (x : Int), aI (o : Int)] h Q := by
  refine fwCt_of [some (aR 12 0), some (aI (x : Int)), some (aI (o : Int)), none, none] rfl rfl rfl ?_
  have g2 : gg 4 0 1 ≤ 10 := J.2.2.1.1.2
  obtain ⟨fr, efr⟩ : ∃ fr : Int, fr = (if (x : Int) < (o : Int) then (o : Int) - (x : Int) else (x : Int) - (o : Int)) := ⟨_, rfl⟩
  have hfr : 0 ≤ fr ∧ fr ≤ 10 := by rw [efr]; split <;> omega
  refine w_iload_n dX12_isSeen_0 rfl ?_
  refine w_iload_n dX12_isSeen_1 rfl ?_
  refine w_isub dX12_isSeen_2 ?_
  refine w_abs (d := d + 0) (S := []) dX12_isSeen_3 ml_X12_214 (by omega) (Nat.le_of_ble_eq_true rfl) ?_
  rw [show (if 0 ≤ (o : Int) - (x : Int) then (o : Int) - (x : Int) else -((o : Int) - (x : Int))) = fr from by rw [efr]; split <;> split <;> omega]
  refine w_istore_n [some (aR 12 0), some (aI (x : Int)), some (aI (o : Int)), some (aI fr), none] dX12_isSeen_6 rfl (by decide) ?_
  refine w_iconst dX12_isSeen_7 ?_
  refine w_istore [some (aR 12 0), some (aI (x : Int)), some (aI (o : Int)), some (aI fr), some (aI 1)] dX12_isSeen_8 rfl (by decide) ?_
  have lp10 : ∀ c : Nat, c ≤ (fr - 1).toNat → ∀ (y10  : Int), y10 = (c : Int) + 1 → (∀ k : Nat, 1 ≤ k → k ≤ c → seP H x o k) → fwWP mX12_isSeen (d + 1) 10 [some (aR 12 0), some (aI (x : Int)), some (aI (o : Int)), some (aI fr), some (aI y10)] [] h Q := by
    refine fw_up (fun c hc10 ih10 => ?_)
    intro y10  ey10 iv10_0
    subst ey10
    show fwWP mX12_isSeen (d + 1) 10 [some (aR 12 0), some (aI (x : Int)), some (aI (o : Int)), some (aI fr), some (aI ((c : Int) + 1))] [] h Q
    refine w_iload dX12_isSeen_10 rfl ?_
    refine w_iload_n dX12_isSeen_12 rfl ?_
    refine w_icmp_ge 73 dX12_isSeen_13 (by decide) (by omega) (by omega) (fun c13 => ?_) (fun c13 => ?_)
    · refine w_iconst dX12_isSeen_73 ?_
      exact w_zretE (P := mSeenB H x o = true) dX12_isSeen_74 rfl (by rw [fwB_t (see_eq.mpr (fun k h1 h2 => iv10_0 k h1 (by rw [← efr] at h2; omega)))]) k
    · have hbx := hb x (by omega)
      have hbo := hb o (by omega)
      refine w_aload_n dX12_isSeen_16 rfl ?_
      refine w_getr 42 0 dX12_isSeen_17 fl_X12_34 rfl (by decide) ?_
      refine w_iload_n dX12_isSeen_20 rfl ?_
      refine w_iload_n dX12_isSeen_21 rfl ?_
      refine w_icmp_le 32 dX12_isSeen_22 (by decide) (by omega) (by omega) (fun c22 => ?_) (fun c22 => ?_)
      · have ef2 : fr = (x : Int) - (o : Int) := by rw [efr, if_neg (by omega)]
        refine w_iload_n dX12_isSeen_32 rfl ?_
        refine w_iload dX12_isSeen_33 rfl ?_
        refine w_isub dX12_isSeen_35 ?_
        have hbm := hb ((x : Int) - ((c : Int) + 1)).toNat (by omega)
        have hm1 := mul_r3 (a := H ((x : Int) - ((c : Int) + 1)).toNat - H x) (b := fr) (by omega) (by omega)
        have hm2 := mul_r3 (a := H o - H x) (b := (c : Int) + 1) (by omega) (by omega)
        refine w_ialdE (v := H ((x : Int) - ((c : Int) + 1)).toNat) dX12_isSeen_36 rfl (by decide) (by omega) (by omega) (hH _ (by omega)) ?_
        refine w_aload_n dX12_isSeen_37 rfl ?_
        refine w_getr 42 0 dX12_isSeen_38 fl_X12_34 rfl (by decide) ?_
        refine w_iload_n dX12_isSeen_41 rfl ?_
        refine w_ialdE (v := H x) dX12_isSeen_42 rfl (by decide) (by omega) (by omega) (hH _ (by omega)) ?_
        refine w_isub dX12_isSeen_43 ?_
        refine w_iload_n dX12_isSeen_44 rfl ?_
        refine w_imul dX12_isSeen_45 ?_
        refine w_aload_n dX12_isSeen_46 rfl ?_
        refine w_getr 42 0 dX12_isSeen_47 fl_X12_34 rfl (by decide) ?_
        refine w_iload_n dX12_isSeen_50 rfl ?_
        refine w_ialdE (v := H o) dX12_isSeen_51 rfl (by decide) (by omega) (by omega) (hH _ (by omega)) ?_
        refine w_aload_n dX12_isSeen_52 rfl ?_
        refine w_getr 42 0 dX12_isSeen_53 fl_X12_34 rfl (by decide) ?_
        refine w_iload_n dX12_isSeen_56 rfl ?_
        refine w_ialdE (v := H x) dX12_isSeen_57 rfl (by decide) (by omega) (by omega) (hH _ (by omega)) ?_
        refine w_isub dX12_isSeen_58 ?_
        refine w_iload dX12_isSeen_59 rfl ?_
        refine w_imul dX12_isSeen_61 ?_
        refine w_icmp_le 67 dX12_isSeen_62 (by decide) (by omega) (by omega) (fun c62 => ?_) (fun c62 => ?_)
        · refine w_iinc [some (aR 12 0), some (aI (x : Int)), some (aI (o : Int)), some (aI fr), some (aI (((c : Int) + 1) + 1))] dX12_isSeen_67 rfl rfl (by decide) ?_
          refine w_goto 10 dX12_isSeen_70 (by decide) ?_
          refine ih10 (by omega) _ ?_ ?_
          · exact (by omega)
          · exact (fun k h1 h2 => by rcases Nat.lt_or_ge c k with e0 | e0; (rw [show k = c + 1 by omega]; unfold seP; rw [if_neg (by omega), if_neg (by omega), ← ef2]; exact c62); exact iv10_0 k h1 e0)
        · refine w_iconst dX12_isSeen_65 ?_
          exact w_zretE (P := mSeenB H x o = true) dX12_isSeen_66 rfl (by rw [fwB_f]; intro q0; have q1 := see_eq.mp q0 (c + 1) (by omega) (by rw [← efr]; omega); unfold seP at q1; rw [if_neg (by omega), if_neg (by omega), ← ef2] at q1; have q2 : ((c + 1 : Nat) : Int) = (c : Int) + 1 := (by omega); rw [q2] at q1; exact absurd c62 (Int.not_lt.mpr q1)) k
      · have ef2 : fr = (o : Int) - (x : Int) := by rw [efr, if_pos (by omega)]
        refine w_iload_n dX12_isSeen_25 rfl ?_
        refine w_iload dX12_isSeen_26 rfl ?_
        refine w_iadd dX12_isSeen_28 ?_
        refine w_goto 36 dX12_isSeen_29 (by decide) ?_
        have hbm := hb ((x : Int) + ((c : Int) + 1)).toNat (by omega)
        have hm1 := mul_r3 (a := H ((x : Int) + ((c : Int) + 1)).toNat - H x) (b := fr) (by omega) (by omega)
        have hm2 := mul_r3 (a := H o - H x) (b := (c : Int) + 1) (by omega) (by omega)
        refine w_ialdE (v := H ((x : Int) + ((c : Int) + 1)).toNat) dX12_isSeen_36 rfl (by decide) (by omega) (by omega) (hH _ (by omega)) ?_
        refine w_aload_n dX12_isSeen_37 rfl ?_
        refine w_getr 42 0 dX12_isSeen_38 fl_X12_34 rfl (by decide) ?_
        refine w_iload_n dX12_isSeen_41 rfl ?_
        refine w_ialdE (v := H x) dX12_isSeen_42 rfl (by decide) (by omega) (by omega) (hH _ (by omega)) ?_
        refine w_isub dX12_isSeen_43 ?_
        refine w_iload_n dX12_isSeen_44 rfl ?_
        refine w_imul dX12_isSeen_45 ?_
        refine w_aload_n dX12_isSeen_46 rfl ?_
        refine w_getr 42 0 dX12_isSeen_47 fl_X12_34 rfl (by decide) ?_
        refine w_iload_n dX12_isSeen_50 rfl ?_
        refine w_ialdE (v := H o) dX12_isSeen_51 rfl (by decide) (by omega) (by omega) (hH _ (by omega)) ?_
        refine w_aload_n dX12_isSeen_52 rfl ?_
        refine w_getr 42 0 dX12_isSeen_53 fl_X12_34 rfl (by decide) ?_
        refine w_iload_n dX12_isSeen_56 rfl ?_
        refine w_ialdE (v := H x) dX12_isSeen_57 rfl (by decide) (by omega) (by omega) (hH _ (by omega)) ?_
        refine w_isub dX12_isSeen_58 ?_
        refine w_iload dX12_isSeen_59 rfl ?_
        refine w_imul dX12_isSeen_61 ?_
        refine w_icmp_le 67 dX12_isSeen_62 (by decide) (by omega) (by omega) (fun c62 => ?_) (fun c62 => ?_)
        · refine w_iinc [some (aR 12 0), some (aI (x : Int)), some (aI (o : Int)), some (aI fr), some (aI (((c : Int) + 1) + 1))] dX12_isSeen_67 rfl rfl (by decide) ?_
          refine w_goto 10 dX12_isSeen_70 (by decide) ?_
          refine ih10 (by omega) _ ?_ ?_
          · exact (by omega)
          · exact (fun k h1 h2 => by rcases Nat.lt_or_ge c k with e0 | e0; (rw [show k = c + 1 by omega]; unfold seP; rw [if_pos c22, if_pos c22, ← ef2]; exact c62); exact iv10_0 k h1 e0)
        · refine w_iconst dX12_isSeen_65 ?_
          exact w_zretE (P := mSeenB H x o = true) dX12_isSeen_66 rfl (by rw [fwB_f]; intro q0; have q1 := see_eq.mp q0 (c + 1) (by omega) (by rw [← efr]; omega); unfold seP at q1; rw [if_pos c22, if_pos c22, ← ef2] at q1; have q2 : ((c + 1 : Nat) : Int) = (c : Int) + 1 := (by omega); rw [q2] at q1; exact absurd c62 (Int.not_lt.mpr q1)) k
  refine lp10 0 (Nat.zero_le _) _ ?_ ?_
  · exact (by omega)
  · exact (fun k h1 h2 => by omega)
set_option maxRecDepth 100000 in
set_option maxHeartbeats 4000000 in
theorem c_X12_seenFrom {d : Nat} {h gg : fwH} {Q : Option fwV → fwH → Prop} (x : Nat) (H : Nat → Int) (J : cOk gg) (R : jF gg h) (hH : hiR (gg 4 0 1) (h 42 0) H) (hb : hB H) (hx : (x : Int) < gg 4 0 1) (k : Q (some (aI (mBits (mSeenB H x) (gg 4 0 1).toNat))) h) : fwCt mX12_seenFrom (d + 2) [aR 12 0, aI (x : Int)] h Q := by
  refine fwCt_of [some (aR 12 0), some (aI (x : Int)), none, none] rfl rfl rfl ?_
  obtain ⟨hl, hP, hG, -, -, -, hlw, -, ha, hs, -, hsc⟩ := id J
  obtain ⟨⟨g1, g2⟩, ⟨g3, g4⟩, ⟨g5, g6⟩, g7, -⟩ := id hG
  have hpz := hP.1
  refine w_iconst dX12_seenFrom_0 ?_
  refine w_istore_n [some (aR 12 0), some (aI (x : Int)), some (aI 0), none] dX12_seenFrom_1 rfl (by decide) ?_
  refine w_iconst dX12_seenFrom_2 ?_
  refine w_istore_n [some (aR 12 0), some (aI (x : Int)), some (aI 0), some (aI 0)] dX12_seenFrom_3 rfl (by decide) ?_
  have lp4 : ∀ c : Nat, c ≤ (gg 4 0 1).toNat → ∀ (y4 se : Int), y4 = (c : Int) → se = mBits (mSeenB H x) c → fwWP mX12_seenFrom (d + 2) 4 [some (aR 12 0), some (aI (x : Int)), some (aI se), some (aI y4)] [] h Q := by
    refine fw_up (fun c hc4 ih4 => ?_)
    intro y4 se ey4 e_se
    subst ey4
    subst e_se
    show fwWP mX12_seenFrom (d + 2) 4 [some (aR 12 0), some (aI (x : Int)), some (aI (mBits (mSeenB H x) c)), some (aI (c : Int))] [] h Q
    refine w_iload_n dX12_seenFrom_4 rfl ?_
    refine w_aload_n dX12_seenFrom_5 rfl ?_
    refine w_getr 36 0 dX12_seenFrom_6 fl_X12_9 rfl (by decide) ?_
    refine w_iconst dX12_seenFrom_9 ?_
    refine w_ialdE (v := gg 4 0 1) dX12_seenFrom_10 rfl (by decide) (by omega) (by omega) R.1 ?_
    refine w_icmp_ge 39 dX12_seenFrom_11 (by decide) (by omega) (by omega) (fun c11 => ?_) (fun c11 => ?_)
    · have ec4 : (gg 4 0 1).toNat = c := by omega
      subst ec4
      refine w_iload_n dX12_seenFrom_39 rfl ?_
      exact w_iretE dX12_seenFrom_40 rfl (by rfl) k
    · refine w_iload_n dX12_seenFrom_14 rfl ?_
      refine w_aload_n dX12_seenFrom_15 rfl ?_
      refine w_iload_n dX12_seenFrom_16 rfl ?_
      refine w_iload_n dX12_seenFrom_17 rfl ?_
      refine w_callV (d := d + 1) (S := [aI (mBits (mSeenB H x) c)]) [aI (x : Int), aI (c : Int)] dX12_seenFrom_18 ml_X12_326 ok_X12_isSeen vi_X12_isSeen rfl rfl (by decide) rfl (Nat.le_of_ble_eq_true rfl) ?_
      refine c_X12_isSeen (d := d) x c H J R hH hb (show (x : Int) < gg 4 0 1 by omega) (show (c : Int) < gg 4 0 1 by omega) ?_
      show fwWP mX12_seenFrom (d + 2) 21 [some (aR 12 0), some (aI (x : Int)), some (aI (mBits (mSeenB H x) c)), some (aI (c : Int))] [aI (fwB (mSeenB H x c = true)), aI (mBits (mSeenB H x) c)] h Q
      refine w_ifB_eq 30 dX12_seenFrom_21 (by decide) (fun c21 => ?_) (fun c21 => ?_)
      · refine w_iconst dX12_seenFrom_30 ?_
        refine w_ior dX12_seenFrom_31 ?_
        refine w_istore_n [some (aR 12 0), some (aI (x : Int)), some (aI (fwOr (mBits (mSeenB H x) c) 0)), some (aI (c : Int))] dX12_seenFrom_32 rfl (by decide) ?_
        refine w_iinc [some (aR 12 0), some (aI (x : Int)), some (aI (fwOr (mBits (mSeenB H x) c) 0)), some (aI ((c : Int) + 1))] dX12_seenFrom_33 rfl rfl (by decide) ?_
        refine w_goto 4 dX12_seenFrom_36 (by decide) ?_
        refine ih4 (by omega) _ _ ?_ ?_
        · exact (by omega)
        · exact (by rw [mBits, if_neg c21, fwOr_0 (mBits_rng _ _)])
      · refine w_iconst dX12_seenFrom_24 ?_
        refine w_iload_n dX12_seenFrom_25 rfl ?_
        refine w_ishl dX12_seenFrom_26 ?_
        refine w_goto 31 dX12_seenFrom_27 (by decide) ?_
        refine w_ior dX12_seenFrom_31 ?_
        refine w_istore_n [some (aR 12 0), some (aI (x : Int)), some (aI (fwOr (mBits (mSeenB H x) c) (fwShl 1 (c : Int)))), some (aI (c : Int))] dX12_seenFrom_32 rfl (by decide) ?_
        refine w_iinc [some (aR 12 0), some (aI (x : Int)), some (aI (fwOr (mBits (mSeenB H x) c) (fwShl 1 (c : Int)))), some (aI ((c : Int) + 1))] dX12_seenFrom_33 rfl rfl (by decide) ?_
        refine w_goto 4 dX12_seenFrom_36 (by decide) ?_
        refine ih4 (by omega) _ _ ?_ ?_
        · exact (by omega)
        · exact (by rw [mBits, if_pos c21])
  refine lp4 0 (Nat.zero_le _) _ _ ?_ ?_
  · exact (by omega)
  · exact rfl
theorem c_sfE {d : Nat} {h gg : fwH} {Q : Option fwV → fwH → Prop} (x : Nat) (y : Int) (H : Nat → Int) (J : cOk gg) (R : jF gg h) (hH : hiR (gg 4 0 1) (h 42 0) H) (hb : hB H) (ey : y = (x : Int)) (hx : (x : Int) < gg 4 0 1) (k : Q (some (aI (mBits (mSeenB H x) (gg 4 0 1).toNat))) h) : fwCt mX12_seenFrom (d + 2) [aR 12 0, aI y] h Q := by
  subst ey
  exact c_X12_seenFrom x H J R hH hb hx k
theorem mLook_2 (H : Nat → Int) (n : Nat) : ∀ c : Nat, ((mLook H n c).1 = -1 ∧ (mLook H n c).2 = 0) ∨ ((0 ≤ (mLook H n c).1 ∧ (mLook H n c).1 < c) ∧ (mLook H n c).2 = fwPop (mBits (mSeenB H (mLook H n c).1.toNat) n)) := by
  intro c
  induction c with
  | zero => exact Or.inl ⟨rfl, rfl⟩
  | succ c ih =>
    rw [mLook]
    split
    · exact Or.inr ⟨by dsimp only; omega, rfl⟩
    · rcases ih with e | e
      · exact Or.inl e
      · exact Or.inr ⟨by omega, e.2⟩
theorem pop_pos : ∀ a : Nat, a < 1024 → a ≠ 0 → 1 ≤ fwPop (a : Int) := by decide +kernel
theorem mBits_self {p : Nat → Bool} {c : Nat} (hc : p c = true) : ∀ n : Nat, c < n → n ≤ 10 → 1 ≤ mBits p n := by
  intro n
  induction n with
  | zero => intro h; omega
  | succ n ih =>
    intro h1 h2
    obtain ⟨a, e, ha⟩ := mBits_n (p := p) n (by omega)
    have hp : 2 ^ n ≤ 2 ^ 10 := Nat.pow_le_pow_right (by omega) (by omega)
    have key : ∀ z : Nat, z < 2 ^ n → 1 ≤ fwOr (z : Int) (fwShl 1 (n : Int)) ∧ (z : Int) ≤ fwOr (z : Int) (fwShl 1 (n : Int)) := by
      intro z hz
      rw [fwShl1_nat (by omega), fwOr_nat (by omega) (by omega)]
      have := Nat.left_le_or (n := z) (m := 2 ^ n)
      have := Nat.right_le_or (n := z) (m := 2 ^ n)
      have := Nat.two_pow_pos n
      omega
    rw [mBits]
    split
    · rw [e]; exact (key a ha).1
    · rename_i q
      rcases Nat.lt_or_ge c n with z | z
      · exact ih z (by omega)
      · rw [show n = c by omega] at q
        exact absurd hc q
theorem mLook_1 {H : Nat → Int} {n : Nat} (hn : n ≤ 10) : ∀ c : Nat, 1 ≤ c → c ≤ n → 0 ≤ (mLook H n c).1 := by
  intro c
  induction c with
  | zero => intro h; omega
  | succ c ih =>
    intro _ h2
    rw [mLook]
    split
    · dsimp only; omega
    · rename_i q
      rcases Nat.eq_zero_or_pos c with e | e
      · exfalso
        subst e
        have h3 : mSeenB H 0 0 = true := by unfold mSeenB; rw [if_neg (by omega)]; exact decide_eq_true rfl
        have h4 := mBits_self h3 n (by omega) hn
        have h5 := mBits_10 (p := mSeenB H 0) (n := n) hn
        obtain ⟨a, ea⟩ : ∃ a : Nat, mBits (mSeenB H 0) n = a := ⟨(mBits (mSeenB H 0) n).toNat, by omega⟩
        have h6 := pop_pos a (by omega) (by omega)
        apply q
        rw [ea, show (mLook H n 0).2 = 0 from rfl]
        omega
      · exact ih e (by omega)
set_option maxRecDepth 100000 in
set_option maxHeartbeats 4000000 in
theorem c_X12_sees {d : Nat} {h gg : fwH} {Q : Option fwV → fwH → Prop} (x : Int) (J : cOk gg) (R : jF gg h) (K : jA gg h) (hsh : sc h) (hx : -2147483648 ≤ x ∧ x < 2147483648) (k : ∀ g, scr h g → Q (some (aI (an_sees gg x))) g) : fwCt mX12_sees (d + 6) [aR 12 0, aI x] h Q := by
  refine fwCt_of [some (aR 12 0), some (aI x)] rfl rfl rfl ?_
  obtain ⟨hl, hP, hG, hM0, htd, hut, hlw, hhc, ha, hs, hT, hsc⟩ := id J
  have hb17 : hB (gg 17 0) := fun c hc => by have := hM0 c hc; omega
  obtain ⟨⟨g1, g2⟩, ⟨g3, g4⟩, ⟨g5, g6⟩, g7, -⟩ := id hG
  have h17_99 : ∀ c : Nat, (c : Int) < gg 4 0 1 → gg 17 0 c ≤ 99 := fun c hc => (hM0 c (by omega)).2
  have hpz := hP.1
  have hrs1 := R.2.2.2.2.2.2.2.2.2.2.2
  refine w_aload_n dX12_sees_0 rfl ?_
  refine w_iload_n dX12_sees_1 rfl ?_
  refine w_i2l dX12_sees_2 (by omega) ?_
  refine w_callV (d := d + 5) (S := []) [aJ x] dX12_sees_3 ml_X12_203 ok_X12_isCell vi_X12_isCell rfl rfl (by decide) rfl (Nat.le_of_ble_eq_true rfl) ?_
  refine c_X12_isCell (d := (d + 4)) x J R (by omega) ?_
  show fwWP mX12_sees (d + 6) 6 [some (aR 12 0), some (aI x)] [aI (fwB (0 ≤ x ∧ x ≤ gg 4 0 1 - 1))] h Q
  refine w_ifB_ne 12 dX12_sees_6 (by decide) (fun c6 => ?_) (fun c6 => ?_)
  · refine w_aload_n dX12_sees_12 rfl ?_
    refine w_callV (d := d + 5) (S := []) [] dX12_sees_13 ml_X12_240 ok_X12_asItIs vi_X12_asItIs rfl rfl (by decide) rfl (Nat.le_of_ble_eq_true rfl) ?_
    refine c_X12_asItIs (d := d) J R K (show 1 ≤ gg 4 0 1 by omega) (show 1 ≤ gg 4 0 3 by omega) ?_
    intro A13_2 hA13_2
    show fwWP mX12_sees (d + 6) 16 [some (aR 12 0), some (aI x)] [] (fwUc h 42 0 A13_2) Q
    refine w_aload_n dX12_sees_16 rfl ?_
    refine w_iload_n dX12_sees_17 rfl ?_
    obtain ⟨f, rfl⟩ : ∃ f : Nat, x = (f : Int) := ⟨x.toNat, by omega⟩
    refine w_callV (d := d + 5) (S := []) [aI (f : Int)] dX12_sees_18 ml_X12_329 ok_X12_seenFrom vi_X12_seenFrom rfl rfl (by decide) rfl (Nat.le_of_ble_eq_true rfl) ?_
    refine c_sfE (d := (d + 3)) f (f : Int) (gg 17 0) J R hA13_2 hb17 (by omega) (show ((f : Nat) : Int) < gg 4 0 1 by omega) ?_
    show fwWP mX12_sees (d + 6) 21 [some (aR 12 0), some (aI (f : Int))] [aI (mBits (mSeenB (gg 17 0) f) (gg 4 0 1).toNat)] (fwUc h 42 0 A13_2) Q
    have hmb3 := mBits_10 (p := mSeenB (gg 17 0) f) (n := (gg 4 0 1).toNat) (by omega)
    exact w_iretE dX12_sees_21 rfl (by unfold an_sees; first | (rw [if_pos (by omega)]; done) | (rw [if_neg (by omega)]; done) | (rw [if_pos (by omega)]; rfl) | (rw [if_neg (by omega)]; rfl)) (k _ (scr_uc (scr_rf hsh) rfl (by decide) (by decide) (by decide)))
  · refine w_bipush dX12_sees_9 rfl ?_
    exact w_iretE dX12_sees_11 rfl (by unfold an_sees; first | (rw [if_pos (by omega)]; done) | (rw [if_neg (by omega)]; done) | (rw [if_pos (by omega)]; rfl) | (rw [if_neg (by omega)]; rfl)) (k _ (scr_rf hsh))
set_option maxRecDepth 100000 in
set_option maxHeartbeats 4000000 in
theorem c_X12_lookout {d : Nat} {h gg : fwH} {Q : Option fwV → fwH → Prop}  (J : cOk gg) (R : jF gg h) (K : jA gg h) (hsh : sc h)  (k : ∀ g, scr h g → Q (some (aI (an_lookout gg ))) g) : fwCt mX12_lookout (d + 6) [aR 12 0] h Q := by
  refine fwCt_of [some (aR 12 0), none, none] rfl rfl rfl ?_
  obtain ⟨hl, hP, hG, hM0, htd, hut, hlw, hhc, ha, hs, hT, hsc⟩ := id J
  have hb17 : hB (gg 17 0) := fun c hc => by have := hM0 c hc; omega
  obtain ⟨⟨g1, g2⟩, ⟨g3, g4⟩, ⟨g5, g6⟩, g7, -⟩ := id hG
  have h17_99 : ∀ c : Nat, (c : Int) < gg 4 0 1 → gg 17 0 c ≤ 99 := fun c hc => (hM0 c (by omega)).2
  have hpz := hP.1
  have hrs1 := R.2.2.2.2.2.2.2.2.2.2.2
  refine w_aload_n dX12_lookout_0 rfl ?_
  refine w_callV (d := d + 5) (S := []) [] dX12_lookout_1 ml_X12_73 ok_X12_isMount vi_X12_isMount rfl rfl (by decide) rfl (Nat.le_of_ble_eq_true rfl) ?_
  refine c_X12_isMount (d := (d + 5)) J R ?_
  show fwWP mX12_lookout (d + 6) 4 [some (aR 12 0), none, none] [aI (fwB (0 < gg 3 0 6))] h Q
  refine w_ifB_ne 10 dX12_lookout_4 (by decide) (fun c4 => ?_) (fun c4 => ?_)
  · refine w_aload_n dX12_lookout_10 rfl ?_
    refine w_callV (d := d + 5) (S := []) [] dX12_lookout_11 ml_X12_240 ok_X12_asItIs vi_X12_asItIs rfl rfl (by decide) rfl (Nat.le_of_ble_eq_true rfl) ?_
    refine c_X12_asItIs (d := d) J R K (show 1 ≤ gg 4 0 1 by omega) (show 1 ≤ gg 4 0 3 by omega) ?_
    intro A11_2 hA11_2
    show fwWP mX12_lookout (d + 6) 14 [some (aR 12 0), none, none] [] (fwUc h 42 0 A11_2) Q
    refine w_iconst dX12_lookout_14 ?_
    refine w_istore_n [some (aR 12 0), some (aI 0), none] dX12_lookout_15 rfl (by decide) ?_
    refine w_iconst dX12_lookout_16 ?_
    refine w_istore_n [some (aR 12 0), some (aI 0), some (aI 1)] dX12_lookout_17 rfl (by decide) ?_
    have lp18 : ∀ c : Nat, c ≤ (gg 4 0 1).toNat - 1 → ∀ (y18 be : Int), y18 = (c : Int) + 1 → be = (mLook (gg 17 0) (gg 4 0 1).toNat (c + 1)).1 → fwWP mX12_lookout (d + 6) 18 [some (aR 12 0), some (aI be), some (aI y18)] [] (fwUc h 42 0 A11_2) Q := by
      refine fw_up (fun c hc18 ih18 => ?_)
      intro y18 be ey18 e_be
      subst ey18
      subst e_be
      have hl1 := mLook_1 (H := gg 17 0) (n := (gg 4 0 1).toNat) (by omega) (c + 1) (by omega) (by omega)
      have hl2 := (mLook_2 (gg 17 0) (gg 4 0 1).toNat (c + 1)).resolve_left (fun z => by omega)
      show fwWP mX12_lookout (d + 6) 18 [some (aR 12 0), some (aI ((mLook (gg 17 0) (gg 4 0 1).toNat (c + 1)).1)), some (aI ((c : Int) + 1))] [] (fwUc h 42 0 A11_2) Q
      refine w_iload_n dX12_lookout_18 rfl ?_
      refine w_aload_n dX12_lookout_19 rfl ?_
      refine w_getr 36 0 dX12_lookout_20 fl_X12_9 rfl (by decide) ?_
      refine w_iconst dX12_lookout_23 ?_
      refine w_ialdE (v := gg 4 0 1) dX12_lookout_24 rfl (by decide) (by omega) (by omega) R.1 ?_
      refine w_icmp_ge 59 dX12_lookout_25 (by decide) (by omega) (by omega) (fun c25 => ?_) (fun c25 => ?_)
      · refine w_iload_n dX12_lookout_59 rfl ?_
        exact w_iretE dX12_lookout_60 rfl (by unfold an_lookout; rw [if_pos (by omega)]; exact congrArg (fun z => (mLook (gg 17 0) (gg 4 0 1).toNat z).1) (show c + 1 = (gg 4 0 1).toNat by omega)) (k _ (scr_uc (scr_rf hsh) rfl (by decide) (by decide) (by decide)))
      · refine w_aload_n dX12_lookout_28 rfl ?_
        refine w_iload_n dX12_lookout_29 rfl ?_
        refine w_callV (d := d + 5) (S := []) [aI ((c : Int) + 1)] dX12_lookout_30 ml_X12_329 ok_X12_seenFrom vi_X12_seenFrom rfl rfl (by decide) rfl (Nat.le_of_ble_eq_true rfl) ?_
        refine c_sfE (d := (d + 3)) (c + 1) ((c : Int) + 1) (gg 17 0) J R hA11_2 hb17 (by omega) (show (((c + 1) : Nat) : Int) < gg 4 0 1 by omega) ?_
        show fwWP mX12_lookout (d + 6) 33 [some (aR 12 0), some (aI ((mLook (gg 17 0) (gg 4 0 1).toNat (c + 1)).1)), some (aI ((c : Int) + 1))] [aI (mBits (mSeenB (gg 17 0) (c + 1)) (gg 4 0 1).toNat)] (fwUc h 42 0 A11_2) Q
        have hmb4 := mBits_10 (p := mSeenB (gg 17 0) (c + 1)) (n := (gg 4 0 1).toNat) (by omega)
        refine w_callS (d := d + 5) (S := []) [aI (mBits (mSeenB (gg 17 0) (c + 1)) (gg 4 0 1).toNat)] dX12_lookout_33 ml_X12_229 ok_X12_bits st_X12_bits rfl (Nat.le_of_ble_eq_true rfl) ?_
        refine c_bitsP (d := (d + 5)) (mBits (mSeenB (gg 17 0) (c + 1)) (gg 4 0 1).toNat) (by first | assumption | omega | decide) ?_
        show fwWP mX12_lookout (d + 6) 36 [some (aR 12 0), some (aI ((mLook (gg 17 0) (gg 4 0 1).toNat (c + 1)).1)), some (aI ((c : Int) + 1))] [aI (fwPop (mBits (mSeenB (gg 17 0) (c + 1)) (gg 4 0 1).toNat))] (fwUc h 42 0 A11_2) Q
        have hpp5 := fwPop_rng (mBits (mSeenB (gg 17 0) (c + 1)) (gg 4 0 1).toNat)
        refine w_aload_n dX12_lookout_36 rfl ?_
        refine w_iload_n dX12_lookout_37 rfl ?_
        refine w_callV (d := d + 5) (S := [aI (fwPop (mBits (mSeenB (gg 17 0) (c + 1)) (gg 4 0 1).toNat))]) [aI ((mLook (gg 17 0) (gg 4 0 1).toNat (c + 1)).1)] dX12_lookout_38 ml_X12_329 ok_X12_seenFrom vi_X12_seenFrom rfl rfl (by decide) rfl (Nat.le_of_ble_eq_true rfl) ?_
        refine c_sfE (d := (d + 3)) ((mLook (gg 17 0) (gg 4 0 1).toNat (c + 1)).1).toNat ((mLook (gg 17 0) (gg 4 0 1).toNat (c + 1)).1) (gg 17 0) J R hA11_2 hb17 (by omega) (show ((((mLook (gg 17 0) (gg 4 0 1).toNat (c + 1)).1).toNat : Nat) : Int) < gg 4 0 1 by omega) ?_
        show fwWP mX12_lookout (d + 6) 41 [some (aR 12 0), some (aI ((mLook (gg 17 0) (gg 4 0 1).toNat (c + 1)).1)), some (aI ((c : Int) + 1))] [aI (mBits (mSeenB (gg 17 0) ((mLook (gg 17 0) (gg 4 0 1).toNat (c + 1)).1).toNat) (gg 4 0 1).toNat), aI (fwPop (mBits (mSeenB (gg 17 0) (c + 1)) (gg 4 0 1).toNat))] (fwUc h 42 0 A11_2) Q
        have hmb6 := mBits_10 (p := mSeenB (gg 17 0) ((mLook (gg 17 0) (gg 4 0 1).toNat (c + 1)).1).toNat) (n := (gg 4 0 1).toNat) (by omega)
        refine w_callS (d := d + 5) (S := [aI (fwPop (mBits (mSeenB (gg 17 0) (c + 1)) (gg 4 0 1).toNat))]) [aI (mBits (mSeenB (gg 17 0) ((mLook (gg 17 0) (gg 4 0 1).toNat (c + 1)).1).toNat) (gg 4 0 1).toNat)] dX12_lookout_41 ml_X12_229 ok_X12_bits st_X12_bits rfl (Nat.le_of_ble_eq_true rfl) ?_
        refine c_bitsP (d := (d + 5)) (mBits (mSeenB (gg 17 0) ((mLook (gg 17 0) (gg 4 0 1).toNat (c + 1)).1).toNat) (gg 4 0 1).toNat) (by first | assumption | omega | decide) ?_
        show fwWP mX12_lookout (d + 6) 44 [some (aR 12 0), some (aI ((mLook (gg 17 0) (gg 4 0 1).toNat (c + 1)).1)), some (aI ((c : Int) + 1))] [aI (fwPop (mBits (mSeenB (gg 17 0) ((mLook (gg 17 0) (gg 4 0 1).toNat (c + 1)).1).toNat) (gg 4 0 1).toNat)), aI (fwPop (mBits (mSeenB (gg 17 0) (c + 1)) (gg 4 0 1).toNat))] (fwUc h 42 0 A11_2) Q
        have hpp7 := fwPop_rng (mBits (mSeenB (gg 17 0) ((mLook (gg 17 0) (gg 4 0 1).toNat (c + 1)).1).toNat) (gg 4 0 1).toNat)
        refine w_icmp_le 51 dX12_lookout_44 (by decide) (by omega) (by omega) (fun c44 => ?_) (fun c44 => ?_)
        · refine w_iload_n dX12_lookout_51 rfl ?_
          refine w_istore_n [some (aR 12 0), some (aI ((mLook (gg 17 0) (gg 4 0 1).toNat (c + 1)).1)), some (aI ((c : Int) + 1))] dX12_lookout_52 rfl (by decide) ?_
          refine w_iinc [some (aR 12 0), some (aI ((mLook (gg 17 0) (gg 4 0 1).toNat (c + 1)).1)), some (aI (((c : Int) + 1) + 1))] dX12_lookout_53 rfl rfl (by decide) ?_
          refine w_goto 18 dX12_lookout_56 (by decide) ?_
          refine ih18 (by omega) _ _ ?_ ?_
          · exact (by omega)
          · exact (by rw [mLook.eq_2 (gg 17 0) (gg 4 0 1).toNat (c + 1), if_neg (by omega)])
        · refine w_iload_n dX12_lookout_47 rfl ?_
          refine w_goto 52 dX12_lookout_48 (by decide) ?_
          refine w_istore_n [some (aR 12 0), some (aI ((c : Int) + 1)), some (aI ((c : Int) + 1))] dX12_lookout_52 rfl (by decide) ?_
          refine w_iinc [some (aR 12 0), some (aI ((c : Int) + 1)), some (aI (((c : Int) + 1) + 1))] dX12_lookout_53 rfl rfl (by decide) ?_
          refine w_goto 18 dX12_lookout_56 (by decide) ?_
          refine ih18 (by omega) _ _ ?_ ?_
          · exact (by omega)
          · exact (by rw [mLook.eq_2 (gg 17 0) (gg 4 0 1).toNat (c + 1), if_pos (by omega)]; omega)
    refine lp18 0 (Nat.zero_le _) _ _ ?_ ?_
    · exact (by omega)
    · exact (by have z1 := mLook_1 (H := gg 17 0) (n := (gg 4 0 1).toNat) (by omega) 1 (by omega) (by omega); have z2 := (mLook_2 (gg 17 0) (gg 4 0 1).toNat 1).resolve_left (fun z => by omega); show (0 : Int) = (mLook (gg 17 0) (gg 4 0 1).toNat 1).1; omega)
  · refine w_bipush dX12_lookout_7 rfl ?_
    exact w_iretE dX12_lookout_9 rfl (by unfold an_lookout; rw [if_neg (by omega)]) (k _ (scr_rf hsh))
end
section
set_option maxRecDepth 100000 in
set_option maxHeartbeats 4000000 in
theorem c_X12_votesFor {d : Nat} {h gg : fwH} {Q : Option fwV → fwH → Prop} (x y : Nat) (J : cOk gg) (R : jF gg h) (hH : hiR (gg 4 0 1) (h 42 0) (gg 17 0)) (hx : (x : Int) < gg 4 0 1) (hy : (y : Int) < gg 4 0 1) (hx2 : 0 < gg 17 0 x) (hy2 : 0 < gg 17 0 y) (k : ∀ A, hiR (gg 4 0 1) A (gg 17 0) → Q (some (aI (mVo gg x y))) (fwUc h 42 0 A)) : fwCt mX12_votesFor (d + 5) [aR 12 0, aI (x : Int), aI (y : Int)] h Q := by
  refine fwCt_of [some (aR 12 0), some (aI (x : Int)), some (aI (y : Int)), none, none, none] rfl rfl rfl ?_
  obtain ⟨hl, hP, hG, -, -, -, hlw, -, ha, hs, -, hsc⟩ := id J
  obtain ⟨⟨g1, g2⟩, ⟨g3, g4⟩, ⟨g5, g6⟩, g7, -⟩ := id hG
  have hpz := hP.1
  have hb17 : hB (gg 17 0) := fun c hc => by have := J.2.2.2.1 c hc; omega
  have hbx := J.2.2.2.1 x (by omega)
  have hby := J.2.2.2.1 y (by omega)
  refine w_iconst dX12_votesFor_0 ?_
  refine w_istore_n [some (aR 12 0), some (aI (x : Int)), some (aI (y : Int)), some (aI 0), none, none] dX12_votesFor_1 rfl (by decide) ?_
  refine w_iconst dX12_votesFor_2 ?_
  refine w_istore [some (aR 12 0), some (aI (x : Int)), some (aI (y : Int)), some (aI 0), some (aI 0), none] dX12_votesFor_3 rfl (by decide) ?_
  have lp5 : ∀ c : Nat, c ≤ (gg 5 0 3).toNat → ∀ (y5 se : Int) (A5 : Nat → Int), y5 = (c : Int) → se = mBits (mVoB gg x y) c → hiR (gg 4 0 1) A5 (gg 17 0) → fwWP mX12_votesFor (d + 5) 5 [some (aR 12 0), some (aI (x : Int)), some (aI (y : Int)), some (aI se), some (aI y5), none] [] (fwUc h 42 0 A5) Q := by
    refine fw_up (fun c hc5 ih5 => ?_)
    intro y5 se A5 ey5 e_se hA5
    subst ey5
    subst e_se
    show fwWP mX12_votesFor (d + 5) 5 [some (aR 12 0), some (aI (x : Int)), some (aI (y : Int)), some (aI (mBits (mVoB gg x y) c)), some (aI (c : Int)), none] [] (fwUc h 42 0 A5) Q
    refine w_iload dX12_votesFor_5 rfl ?_
    refine w_aload_n dX12_votesFor_7 rfl ?_
    refine w_getr 36 0 dX12_votesFor_8 fl_X12_9 rfl (by decide) ?_
    refine w_bipush dX12_votesFor_11 rfl ?_
    refine w_ialdE (v := gg 5 0 3) dX12_votesFor_13 rfl (by decide) (by omega) (by omega) R.2.2.2.2.2.2.1 ?_
    refine w_icmp_ge 93 dX12_votesFor_14 (by decide) (by omega) (by omega) (fun c14 => ?_) (fun c14 => ?_)
    · have ec5 : (gg 5 0 3).toNat = c := by omega
      subst ec5
      refine w_iload_n dX12_votesFor_93 rfl ?_
      exact w_iret dX12_votesFor_94 rfl (k _ hA5)
    · refine w_aload_n dX12_votesFor_17 rfl ?_
      refine w_getr 42 0 dX12_votesFor_18 fl_X12_34 rfl (by decide) ?_
      refine w_iload_n dX12_votesFor_21 rfl ?_
      refine w_dup2 dX12_votesFor_22 rfl rfl ?_
      refine w_ialdE (v := (gg 17 0) x) dX12_votesFor_23 rfl (by decide) (by omega) (by omega) (hA5 _ (by omega)) ?_
      refine w_iconst dX12_votesFor_24 ?_
      refine w_isub dX12_votesFor_25 ?_
      refine w_iast dX12_votesFor_26 rfl (by decide) (by omega) (by omega) ?_
      rw [show (fwUp (fwUc h 42 0 A5) 42 0 ((x : Int)).toNat (((gg 17 0) x) - 1)) = (fwUc h 42 0 (fwFu A5 x (((gg 17 0) x) - 1))) from by rw [fwUp_fu]; rw [fwUc_uc]; rfl]
      have hA26 := hiR_fu hA5 x (((gg 17 0) x) - 1)
      have hb26 : hB (fwFu (gg 17 0) x (((gg 17 0) x) - 1)) := hB_fu hb17 (by omega)
      refine w_aload_n dX12_votesFor_27 rfl ?_
      refine w_iload dX12_votesFor_28 rfl ?_
      refine w_callV (d := d + 4) (S := []) [aI (c : Int)] dX12_votesFor_30 ml_X12_232 ok_X12_gainOf vi_X12_gainOf rfl rfl (by decide) rfl (Nat.le_of_ble_eq_true rfl) ?_
      refine c_X12_gainOf (d := d) c (fwFu (gg 17 0) x (((gg 17 0) x) - 1)) J R hA26 hb26 (show 1 ≤ gg 4 0 1 by omega) (show (c : Int) < gg 5 0 3 by omega) ?_
      show fwWP mX12_votesFor (d + 5) 33 [some (aR 12 0), some (aI (x : Int)), some (aI (y : Int)), some (aI (mBits (mVoB gg x y) c)), some (aI (c : Int)), none] [aI (mGain (gg 4 0 1) (fwFu (gg 17 0) x (((gg 17 0) x) - 1)) (gg 4 0 2) (gg 18 0) c)] (fwUc h 42 0 (fwFu A5 x (((gg 17 0) x) - 1))) Q
      have hgr2 := mGain_r2 J hb26 c (by omega)
      refine w_istore [some (aR 12 0), some (aI (x : Int)), some (aI (y : Int)), some (aI (mBits (mVoB gg x y) c)), some (aI (c : Int)), some (aI (mGain (gg 4 0 1) (fwFu (gg 17 0) x (((gg 17 0) x) - 1)) (gg 4 0 2) (gg 18 0) c))] dX12_votesFor_33 rfl (by decide) ?_
      refine w_aload_n dX12_votesFor_35 rfl ?_
      refine w_getr 42 0 dX12_votesFor_36 fl_X12_34 rfl (by decide) ?_
      refine w_iload_n dX12_votesFor_39 rfl ?_
      refine w_dup2 dX12_votesFor_40 rfl rfl ?_
      refine w_ialdE (v := (fwFu (gg 17 0) x (((gg 17 0) x) - 1)) x) dX12_votesFor_41 rfl (by decide) (by omega) (by omega) (hA26 _ (by omega)) ?_
      refine w_iconst dX12_votesFor_42 ?_
      refine w_iadd dX12_votesFor_43 ?_
      refine w_iast dX12_votesFor_44 rfl (by decide) (by omega) (by omega) ?_
      rw [show (fwUp (fwUc h 42 0 (fwFu A5 x (((gg 17 0) x) - 1))) 42 0 ((x : Int)).toNat (((fwFu (gg 17 0) x (((gg 17 0) x) - 1)) x) + 1)) = (fwUc h 42 0 (fwFu (fwFu A5 x (((gg 17 0) x) - 1)) x (((fwFu (gg 17 0) x (((gg 17 0) x) - 1)) x) + 1))) from by rw [fwUp_fu]; rw [fwUc_uc]; rfl]
      have hA44 := hiR_fu hA26 x (((fwFu (gg 17 0) x (((gg 17 0) x) - 1)) x) + 1)
      rw [fwFu_mp] at hA44
      refine w_aload_n dX12_votesFor_45 rfl ?_
      refine w_getr 42 0 dX12_votesFor_46 fl_X12_34 rfl (by decide) ?_
      refine w_iload_n dX12_votesFor_49 rfl ?_
      refine w_dup2 dX12_votesFor_50 rfl rfl ?_
      refine w_ialdE (v := (gg 17 0) y) dX12_votesFor_51 rfl (by decide) (by omega) (by omega) (hA44 _ (by omega)) ?_
      refine w_iconst dX12_votesFor_52 ?_
      refine w_isub dX12_votesFor_53 ?_
      refine w_iast dX12_votesFor_54 rfl (by decide) (by omega) (by omega) ?_
      rw [show (fwUp (fwUc h 42 0 (fwFu (fwFu A5 x (((gg 17 0) x) - 1)) x (((fwFu (gg 17 0) x (((gg 17 0) x) - 1)) x) + 1))) 42 0 ((y : Int)).toNat (((gg 17 0) y) - 1)) = (fwUc h 42 0 (fwFu (fwFu (fwFu A5 x (((gg 17 0) x) - 1)) x (((fwFu (gg 17 0) x (((gg 17 0) x) - 1)) x) + 1)) y (((gg 17 0) y) - 1))) from by rw [fwUp_fu]; rw [fwUc_uc]; rfl]
      have hA54 := hiR_fu hA44 y (((gg 17 0) y) - 1)
      have hb54 : hB (fwFu (gg 17 0) y (((gg 17 0) y) - 1)) := hB_fu hb17 (by omega)
      refine w_iload_n dX12_votesFor_55 rfl ?_
      refine w_iload dX12_votesFor_56 rfl ?_
      refine w_aload_n dX12_votesFor_58 rfl ?_
      refine w_iload dX12_votesFor_59 rfl ?_
      refine w_callV (d := d + 4) (S := [aI (mGain (gg 4 0 1) (fwFu (gg 17 0) x (((gg 17 0) x) - 1)) (gg 4 0 2) (gg 18 0) c), aI (mBits (mVoB gg x y) c)]) [aI (c : Int)] dX12_votesFor_61 ml_X12_232 ok_X12_gainOf vi_X12_gainOf rfl rfl (by decide) rfl (Nat.le_of_ble_eq_true rfl) ?_
      refine c_X12_gainOf (d := d) c (fwFu (gg 17 0) y (((gg 17 0) y) - 1)) J R hA54 hb54 (show 1 ≤ gg 4 0 1 by omega) (show (c : Int) < gg 5 0 3 by omega) ?_
      show fwWP mX12_votesFor (d + 5) 64 [some (aR 12 0), some (aI (x : Int)), some (aI (y : Int)), some (aI (mBits (mVoB gg x y) c)), some (aI (c : Int)), some (aI (mGain (gg 4 0 1) (fwFu (gg 17 0) x (((gg 17 0) x) - 1)) (gg 4 0 2) (gg 18 0) c))] [aI (mGain (gg 4 0 1) (fwFu (gg 17 0) y (((gg 17 0) y) - 1)) (gg 4 0 2) (gg 18 0) c), aI (mGain (gg 4 0 1) (fwFu (gg 17 0) x (((gg 17 0) x) - 1)) (gg 4 0 2) (gg 18 0) c), aI (mBits (mVoB gg x y) c)] (fwUc h 42 0 (fwFu (fwFu (fwFu A5 x (((gg 17 0) x) - 1)) x (((fwFu (gg 17 0) x (((gg 17 0) x) - 1)) x) + 1)) y (((gg 17 0) y) - 1))) Q
      have hgr3 := mGain_r2 J hb54 c (by omega)
      refine w_icmp_le 74 dX12_votesFor_64 (by decide) (by omega) (by omega) (fun c64 => ?_) (fun c64 => ?_)
      · refine w_iconst dX12_votesFor_74 ?_
        refine w_ior dX12_votesFor_75 ?_
        refine w_istore_n [some (aR 12 0), some (aI (x : Int)), some (aI (y : Int)), some (aI (fwOr (mBits (mVoB gg x y) c) 0)), some (aI (c : Int)), some (aI (mGain (gg 4 0 1) (fwFu (gg 17 0) x (((gg 17 0) x) - 1)) (gg 4 0 2) (gg 18 0) c))] dX12_votesFor_76 rfl (by decide) ?_
        refine w_aload_n dX12_votesFor_77 rfl ?_
        refine w_getr 42 0 dX12_votesFor_78 fl_X12_34 rfl (by decide) ?_
        refine w_iload_n dX12_votesFor_81 rfl ?_
        refine w_dup2 dX12_votesFor_82 rfl rfl ?_
        refine w_ialdE (v := (fwFu (gg 17 0) y (((gg 17 0) y) - 1)) y) dX12_votesFor_83 rfl (by decide) (by omega) (by omega) (hA54 _ (by omega)) ?_
        refine w_iconst dX12_votesFor_84 ?_
        refine w_iadd dX12_votesFor_85 ?_
        refine w_iast dX12_votesFor_86 rfl (by decide) (by omega) (by omega) ?_
        rw [show (fwUp (fwUc h 42 0 (fwFu (fwFu (fwFu A5 x (((gg 17 0) x) - 1)) x (((fwFu (gg 17 0) x (((gg 17 0) x) - 1)) x) + 1)) y (((gg 17 0) y) - 1))) 42 0 ((y : Int)).toNat (((fwFu (gg 17 0) y (((gg 17 0) y) - 1)) y) + 1)) = (fwUc h 42 0 (fwFu (fwFu (fwFu (fwFu A5 x (((gg 17 0) x) - 1)) x (((fwFu (gg 17 0) x (((gg 17 0) x) - 1)) x) + 1)) y (((gg 17 0) y) - 1)) y (((fwFu (gg 17 0) y (((gg 17 0) y) - 1)) y) + 1))) from by rw [fwUp_fu]; rw [fwUc_uc]; rfl]
        have hA86 := hiR_fu hA54 y (((fwFu (gg 17 0) y (((gg 17 0) y) - 1)) y) + 1)
        rw [fwFu_mp] at hA86
        refine w_iinc [some (aR 12 0), some (aI (x : Int)), some (aI (y : Int)), some (aI (fwOr (mBits (mVoB gg x y) c) 0)), some (aI ((c : Int) + 1)), some (aI (mGain (gg 4 0 1) (fwFu (gg 17 0) x (((gg 17 0) x) - 1)) (gg 4 0 2) (gg 18 0) c))] dX12_votesFor_87 rfl rfl (by decide) ?_
        refine w_goto 5 dX12_votesFor_90 (by decide) ?_
        refine w_drop [5] [some (aR 12 0), some (aI (x : Int)), some (aI (y : Int)), some (aI (fwOr (mBits (mVoB gg x y) c) 0)), some (aI ((c : Int) + 1)), none] rfl ?_
        refine ih5 (by omega) _ _ _ ?_ ?_ ?_
        · exact (by omega)
        · exact (by rw [mBits, if_neg (by unfold mVoB mGn; rw [decide_eq_true_eq, ← Int.sub_eq_add_neg, ← Int.sub_eq_add_neg]; omega), fwOr_0 (mBits_rng _ _)])
        · exact hA86
      · refine w_iconst dX12_votesFor_67 ?_
        refine w_iload dX12_votesFor_68 rfl ?_
        refine w_ishl dX12_votesFor_70 ?_
        refine w_goto 75 dX12_votesFor_71 (by decide) ?_
        refine w_ior dX12_votesFor_75 ?_
        refine w_istore_n [some (aR 12 0), some (aI (x : Int)), some (aI (y : Int)), some (aI (fwOr (mBits (mVoB gg x y) c) (fwShl 1 (c : Int)))), some (aI (c : Int)), some (aI (mGain (gg 4 0 1) (fwFu (gg 17 0) x (((gg 17 0) x) - 1)) (gg 4 0 2) (gg 18 0) c))] dX12_votesFor_76 rfl (by decide) ?_
        refine w_aload_n dX12_votesFor_77 rfl ?_
        refine w_getr 42 0 dX12_votesFor_78 fl_X12_34 rfl (by decide) ?_
        refine w_iload_n dX12_votesFor_81 rfl ?_
        refine w_dup2 dX12_votesFor_82 rfl rfl ?_
        refine w_ialdE (v := (fwFu (gg 17 0) y (((gg 17 0) y) - 1)) y) dX12_votesFor_83 rfl (by decide) (by omega) (by omega) (hA54 _ (by omega)) ?_
        refine w_iconst dX12_votesFor_84 ?_
        refine w_iadd dX12_votesFor_85 ?_
        refine w_iast dX12_votesFor_86 rfl (by decide) (by omega) (by omega) ?_
        rw [show (fwUp (fwUc h 42 0 (fwFu (fwFu (fwFu A5 x (((gg 17 0) x) - 1)) x (((fwFu (gg 17 0) x (((gg 17 0) x) - 1)) x) + 1)) y (((gg 17 0) y) - 1))) 42 0 ((y : Int)).toNat (((fwFu (gg 17 0) y (((gg 17 0) y) - 1)) y) + 1)) = (fwUc h 42 0 (fwFu (fwFu (fwFu (fwFu A5 x (((gg 17 0) x) - 1)) x (((fwFu (gg 17 0) x (((gg 17 0) x) - 1)) x) + 1)) y (((gg 17 0) y) - 1)) y (((fwFu (gg 17 0) y (((gg 17 0) y) - 1)) y) + 1))) from by rw [fwUp_fu]; rw [fwUc_uc]; rfl]
        have hA86 := hiR_fu hA54 y (((fwFu (gg 17 0) y (((gg 17 0) y) - 1)) y) + 1)
        rw [fwFu_mp] at hA86
        refine w_iinc [some (aR 12 0), some (aI (x : Int)), some (aI (y : Int)), some (aI (fwOr (mBits (mVoB gg x y) c) (fwShl 1 (c : Int)))), some (aI ((c : Int) + 1)), some (aI (mGain (gg 4 0 1) (fwFu (gg 17 0) x (((gg 17 0) x) - 1)) (gg 4 0 2) (gg 18 0) c))] dX12_votesFor_87 rfl rfl (by decide) ?_
        refine w_goto 5 dX12_votesFor_90 (by decide) ?_
        refine w_drop [5] [some (aR 12 0), some (aI (x : Int)), some (aI (y : Int)), some (aI (fwOr (mBits (mVoB gg x y) c) (fwShl 1 (c : Int)))), some (aI ((c : Int) + 1)), none] rfl ?_
        refine ih5 (by omega) _ _ _ ?_ ?_ ?_
        · exact (by omega)
        · exact (by rw [mBits, if_pos (show mVoB gg x y c = true from decide_eq_true (by unfold mGn; rw [← Int.sub_eq_add_neg, ← Int.sub_eq_add_neg]; omega))])
        · exact hA86
  have z5 := lp5 0 (Nat.zero_le _) _ _ (h 42 0) (by exact (show 0 = ((0 : Nat) : Int) by omega)) (by exact (show 0 = mBits (mVoB gg x y) 0 from rfl)) hH
  rw [fwUc_self] at z5
  exact z5
set_option maxRecDepth 100000 in
set_option maxHeartbeats 4000000 in
theorem c_X12_votes {d : Nat} {h gg : fwH} {Q : Option fwV → fwH → Prop} (x : Int) (y : Int) (J : cOk gg) (R : jF gg h) (K : jA gg h) (hsh : sc h) (hx : -2147483648 ≤ x ∧ x < 2147483648) (hy : -2147483648 ≤ y ∧ y < 2147483648) (k : ∀ g, scr h g → Q (some (aI (an_votes gg x y))) g) : fwCt mX12_votes (d + 6) [aR 12 0, aI x, aI y] h Q := by
  refine fwCt_of [some (aR 12 0), some (aI x), some (aI y)] rfl rfl rfl ?_
  obtain ⟨hl, hP, hG, hM0, htd, hut, hlw, hhc, ha, hs, hT, hsc⟩ := id J
  have hb17 : hB (gg 17 0) := fun c hc => by have := hM0 c hc; omega
  obtain ⟨⟨g1, g2⟩, ⟨g3, g4⟩, ⟨g5, g6⟩, g7, -⟩ := id hG
  have h17_99 : ∀ c : Nat, (c : Int) < gg 4 0 1 → gg 17 0 c ≤ 99 := fun c hc => (hM0 c (by omega)).2
  have hpz := hP.1
  have hrs1 := R.2.2.2.2.2.2.2.2.2.2.2
  refine w_aload_n dX12_votes_0 rfl ?_
  refine w_iload_n dX12_votes_1 rfl ?_
  refine w_i2l dX12_votes_2 (by omega) ?_
  refine w_callV (d := d + 5) (S := []) [aJ x] dX12_votes_3 ml_X12_203 ok_X12_isCell vi_X12_isCell rfl rfl (by decide) rfl (Nat.le_of_ble_eq_true rfl) ?_
  refine c_X12_isCell (d := (d + 4)) x J R (by omega) ?_
  show fwWP mX12_votes (d + 6) 6 [some (aR 12 0), some (aI x), some (aI y)] [aI (fwB (0 ≤ x ∧ x ≤ gg 4 0 1 - 1))] h Q
  refine w_ifB_eq 18 dX12_votes_6 (by decide) (fun c6 => ?_) (fun c6 => ?_)
  · refine w_bipush dX12_votes_18 rfl ?_
    exact w_iretE dX12_votes_20 rfl (by unfold an_votes; rw [if_pos (by by_cases q0 : 0 ≤ x ∧ x < gg 4 0 1; (right; unfold hOf; rw [if_neg (by omega)]); (left; unfold hOf; rw [if_neg q0]))]) (k _ (scr_rf hsh))
  · refine w_aload_n dX12_votes_9 rfl ?_
    refine w_iload_n dX12_votes_10 rfl ?_
    refine w_i2l dX12_votes_11 (by omega) ?_
    refine w_callV (d := d + 5) (S := []) [aJ y] dX12_votes_12 ml_X12_203 ok_X12_isCell vi_X12_isCell rfl rfl (by decide) rfl (Nat.le_of_ble_eq_true rfl) ?_
    refine c_X12_isCell (d := (d + 4)) y J R (by omega) ?_
    show fwWP mX12_votes (d + 6) 15 [some (aR 12 0), some (aI x), some (aI y)] [aI (fwB (0 ≤ y ∧ y ≤ gg 4 0 1 - 1))] h Q
    refine w_ifB_ne 21 dX12_votes_15 (by decide) (fun c15 => ?_) (fun c15 => ?_)
    · obtain ⟨f, rfl⟩ : ∃ f : Nat, x = (f : Int) := ⟨x.toNat, by omega⟩
      obtain ⟨u, rfl⟩ : ∃ u : Nat, y = (u : Int) := ⟨y.toNat, by omega⟩
      have hbf := hM0 f (by omega)
      have hbu := hM0 u (by omega)
      have ho1 : hOf (gg 4 0 1) (gg 17 0) (f : Int) = gg 17 0 f := hOf_p (by omega)
      have ho2 : hOf (gg 4 0 1) (gg 17 0) (u : Int) = gg 17 0 u := hOf_p (by omega)
      refine w_aload_n dX12_votes_21 rfl ?_
      refine w_callV (d := d + 5) (S := []) [] dX12_votes_22 ml_X12_240 ok_X12_asItIs vi_X12_asItIs rfl rfl (by decide) rfl (Nat.le_of_ble_eq_true rfl) ?_
      refine c_X12_asItIs (d := d) J R K (show 1 ≤ gg 4 0 1 by omega) (show 1 ≤ gg 4 0 3 by omega) ?_
      intro A22_3 hA22_3
      show fwWP mX12_votes (d + 6) 25 [some (aR 12 0), some (aI (f : Int)), some (aI (u : Int))] [] (fwUc h 42 0 A22_3) Q
      refine w_aload_n dX12_votes_25 rfl ?_
      refine w_getr 42 0 dX12_votes_26 fl_X12_34 rfl (by decide) ?_
      refine w_iload_n dX12_votes_29 rfl ?_
      refine w_ialdE (v := (gg 17 0) f) dX12_votes_30 rfl (by decide) (by omega) (by omega) (hA22_3 _ (by omega)) ?_
      refine w_if_eq 43 dX12_votes_31 (by decide) (by omega) (fun c31 => ?_) (fun c31 => ?_)
      · refine w_bipush dX12_votes_43 rfl ?_
        refine w_goto 54 dX12_votes_45 (by decide) ?_
        exact w_iretE dX12_votes_54 rfl (by unfold an_votes; first | (rw [if_pos (by omega)]; done) | (rw [if_neg (by omega)]; rfl)) (k _ (scr_uc (scr_rf hsh) rfl (by decide) (by decide) (by decide)))
      · refine w_aload_n dX12_votes_34 rfl ?_
        refine w_getr 42 0 dX12_votes_35 fl_X12_34 rfl (by decide) ?_
        refine w_iload_n dX12_votes_38 rfl ?_
        refine w_ialdE (v := (gg 17 0) u) dX12_votes_39 rfl (by decide) (by omega) (by omega) (hA22_3 _ (by omega)) ?_
        refine w_if_ne 48 dX12_votes_40 (by decide) (by omega) (fun c40 => ?_) (fun c40 => ?_)
        · refine w_aload_n dX12_votes_48 rfl ?_
          refine w_iload_n dX12_votes_49 rfl ?_
          refine w_iload_n dX12_votes_50 rfl ?_
          refine w_callV (d := d + 5) (S := []) [aI (f : Int), aI (u : Int)] dX12_votes_51 ml_X12_332 ok_X12_votesFor vi_X12_votesFor rfl rfl (by decide) rfl (Nat.le_of_ble_eq_true rfl) ?_
          refine c_X12_votesFor (d := d) f u J R hA22_3 (show (f : Int) < gg 4 0 1 by omega) (show (u : Int) < gg 4 0 1 by omega) (show 0 < gg 17 0 f by omega) (show 0 < gg 17 0 u by omega) ?_
          intro A51_6 hA51_6
          show fwWP mX12_votes (d + 6) 54 [some (aR 12 0), some (aI (f : Int)), some (aI (u : Int))] [aI (mVo gg f u)] (fwUc (fwUc h 42 0 A22_3) 42 0 A51_6) Q
          rw [show (fwUc (fwUc h 42 0 A22_3) 42 0 A51_6) = (fwUc h 42 0 A51_6) from by funext a b; simp only [fwUc]; (repeat' split); all_goals first | rfl | (exfalso; omega)]
          exact w_iretE dX12_votes_54 rfl (by unfold an_votes; first | (rw [if_pos (by omega)]; done) | (rw [if_neg (by omega)]; rfl)) (k _ (scr_uc (scr_rf hsh) rfl (by decide) (by decide) (by decide)))
        · refine w_bipush dX12_votes_43 rfl ?_
          refine w_goto 54 dX12_votes_45 (by decide) ?_
          exact w_iretE dX12_votes_54 rfl (by unfold an_votes; first | (rw [if_pos (by omega)]; done) | (rw [if_neg (by omega)]; rfl)) (k _ (scr_uc (scr_rf hsh) rfl (by decide) (by decide) (by decide)))
    · refine w_bipush dX12_votes_18 rfl ?_
      exact w_iretE dX12_votes_20 rfl (by unfold an_votes; rw [if_pos (by by_cases q0 : 0 ≤ x ∧ x < gg 4 0 1; (right; unfold hOf; rw [if_neg (by omega)]); (left; unfold hOf; rw [if_neg q0]))]) (k _ (scr_rf hsh))
end

theorem c_goM {d : Nat} {h gg : fwH} {Q : Option fwV → fwH → Prop} (x : Int) (m : Nat) (J : cOk gg) (R : jF gg h) (K : jA gg h) (ht : 0 < gg 3 0 6) (hm : m ≤ 100) (hx : 0 ≤ x ∧ x < 2147483648) (k : ∀ A, hiR (gg 4 0 1) A (mDrawn gg x m).2 → Q (some (aI (mDrawn gg x m).1)) (fwUc h 42 0 A)) : fwCt mX12_goMonths (d + 6) [aR 12 0, aJ x, aI (m : Int)] h Q := by
  have hz := J.2.1.1
  unfold mDrawn at k
  by_cases e : gg 5 0 3 < 1
  · rw [if_pos e] at k
    exact c_goM0 x m J R K ht (by omega) hm k
  · rw [if_neg e] at k
    exact c_goM1 x m J R K ht (by omega) hm hx k
theorem mDrawn_99 {h : fwH} (J : cOk h) (ht : 0 < h 3 0 6) (x0 : Int) (m : Nat) : hB (mDrawn h x0 m).2 := by
  unfold mDrawn
  split
  · exact fun c hc => by have := J.2.2.2.1 c hc; exact ⟨this.1, by show h 17 0 c ≤ 1000; omega⟩
  · exact fun c hc => by have := mDr_99 J ht x0 m c hc; omega
set_option maxRecDepth 100000 in
set_option maxHeartbeats 4000000 in
theorem c_X12_drawn {d : Nat} {h gg : fwH} {Q : Option fwV → fwH → Prop} (x : Int) (y : Int) (z : Int) (J : cOk gg) (R : jF gg h) (K : jA gg h) (hsh : sc h) (hx : -2147483648 ≤ x ∧ x < 2147483648) (hy : -2147483648 ≤ y ∧ y < 2147483648) (hz : -2147483648 ≤ z ∧ z < 2147483648) (k : ∀ g, scr h g → Q (some (aI (an_drawn gg x y z))) g) : fwCt mX12_drawn (d + 7) [aR 12 0, aI x, aI y, aI z] h Q := by
  refine fwCt_of [some (aR 12 0), some (aI x), some (aI y), some (aI z), none] rfl rfl rfl ?_
  obtain ⟨hl, hP, hG, hM0, htd, hut, hlw, hhc, ha, hs, hT, hsc⟩ := id J
  have hb17 : hB (gg 17 0) := fun c hc => by have := hM0 c hc; omega
  obtain ⟨⟨g1, g2⟩, ⟨g3, g4⟩, ⟨g5, g6⟩, g7, -⟩ := id hG
  have h17_99 : ∀ c : Nat, (c : Int) < gg 4 0 1 → gg 17 0 c ≤ 99 := fun c hc => (hM0 c (by omega)).2
  have hpz := hP.1
  have hrs1 := R.2.2.2.2.2.2.2.2.2.2.2
  refine w_aload_n dX12_drawn_0 rfl ?_
  refine w_iload_n dX12_drawn_1 rfl ?_
  refine w_iload_n dX12_drawn_2 rfl ?_
  refine w_callV (d := d + 6) (S := []) [aI x, aI y] dX12_drawn_3 ml_X12_400 ok_X12_areMonths vi_X12_areMonths rfl rfl (by decide) rfl (Nat.le_of_ble_eq_true rfl) ?_
  refine c_X12_areMonths (d := (d + 5)) x y J R (by omega) (by omega) ?_
  show fwWP mX12_drawn (d + 7) 6 [some (aR 12 0), some (aI x), some (aI y), some (aI z), none] [aI (fwB (0 < gg 3 0 6 ∧ (0 ≤ x ∧ x ≤ 2000000000) ∧ 0 ≤ y ∧ y ≤ 40))] h Q
  refine w_ifB_eq 21 dX12_drawn_6 (by decide) (fun c6 => ?_) (fun c6 => ?_)
  · refine w_bipush dX12_drawn_21 rfl ?_
    exact w_iretE dX12_drawn_23 rfl (by unfold an_drawn; first | (rw [if_neg (by omega)]; done) | (rw [if_pos (by omega), if_pos (by omega)]; rfl) | (rw [if_pos (by omega), if_neg (by omega), if_pos (by omega)]; show _ = mMax (mDrawn gg x u).2 _; rw [mMax_top (ls := gg 4 0 4) (gg 4 0 1).toNat (by omega) (fun c hc => (mDrawn_99 J (by omega) x u c (by omega)).1)]; done) | (rw [if_pos (by omega), if_neg (by omega), if_neg (by omega)]; rfl)) (k _ (scr_rf hsh))
  · refine w_iload_n dX12_drawn_9 rfl ?_
    refine w_i2l dX12_drawn_10 (by omega) ?_
    refine w_lconst (z := 0) dX12_drawn_11 rfl ?_
    refine w_ldc2 (n := 2) dX12_drawn_12 cs_X12_63 ?_
    refine w_callS (d := d + 6) (S := []) [aJ z, aJ 0, aJ 2] dX12_drawn_15 ml_X12_65 ok_X12_in st_X12_in rfl (Nat.le_of_ble_eq_true rfl) ?_
    refine c_X12_in (d := (d + 6)) z 0 2 (by omega) (by omega) (by omega) ?_
    show fwWP mX12_drawn (d + 7) 18 [some (aR 12 0), some (aI x), some (aI y), some (aI z), none] [aI (fwB (0 ≤ z ∧ z ≤ 2))] h Q
    refine w_ifB_ne 24 dX12_drawn_18 (by decide) (fun c18 => ?_) (fun c18 => ?_)
    · obtain ⟨u, rfl⟩ : ∃ u : Nat, y = (u : Int) := ⟨y.toNat, by omega⟩
      refine w_aload_n dX12_drawn_24 rfl ?_
      refine w_iload_n dX12_drawn_25 rfl ?_
      refine w_i2l dX12_drawn_26 (by omega) ?_
      refine w_iload_n dX12_drawn_27 rfl ?_
      refine w_callV (d := d + 6) (S := []) [aJ x, aI (u : Int)] dX12_drawn_28 ml_X12_403 ok_X12_goMonths vi_X12_goMonths rfl rfl (by decide) rfl (Nat.le_of_ble_eq_true rfl) ?_
      refine c_goM (d := d) x u J R K (show 0 < gg 3 0 6 by omega) (by omega) (by omega) ?_
      intro A28_3 hA28_3
      show fwWP mX12_drawn (d + 7) 31 [some (aR 12 0), some (aI x), some (aI (u : Int)), some (aI z), none] [aI ((mDrawn gg x u).1)] (fwUc h 42 0 A28_3) Q
      have hdr3 := mDrawn_rng gg x u
      refine w_istore [some (aR 12 0), some (aI x), some (aI (u : Int)), some (aI z), some (aI ((mDrawn gg x u).1))] dX12_drawn_31 rfl (by decide) ?_
      refine w_iload_n dX12_drawn_33 rfl ?_
      refine w_if_ne 42 dX12_drawn_34 (by decide) (by omega) (fun c34 => ?_) (fun c34 => ?_)
      · refine w_iload_n dX12_drawn_42 rfl ?_
        refine w_iconst dX12_drawn_43 ?_
        refine w_icmp_ne 59 dX12_drawn_44 (by decide) (by omega) (by omega) (fun c44 => ?_) (fun c44 => ?_)
        · refine w_aload_n dX12_drawn_59 rfl ?_
          refine w_callV (d := d + 6) (S := []) [] dX12_drawn_60 ml_X12_251 ok_X12_gainOfAll vi_X12_gainOfAll rfl rfl (by decide) rfl (Nat.le_of_ble_eq_true rfl) ?_
          refine c_X12_gainOfAll (d := (d + 1)) (mDrawn gg x u).2 J R hA28_3 (mDrawn_99 J (by omega) x u) (show 1 ≤ gg 4 0 1 by omega) ?_
          show fwWP mX12_drawn (d + 7) 63 [some (aR 12 0), some (aI x), some (aI (u : Int)), some (aI z), some (aI ((mDrawn gg x u).1))] [aI (mSum (mGain (gg 4 0 1) (mDrawn gg x u).2 (gg 4 0 2) (gg 18 0)) (gg 5 0 3).toNat)] (fwUc h 42 0 A28_3) Q
          have hga6 := mSum_r2 J (mDrawn_99 J (by omega) x u) (gg 5 0 3).toNat (by omega)
          exact w_iretE dX12_drawn_63 rfl (by unfold an_drawn; first | (rw [if_neg (by omega)]; done) | (rw [if_pos (by omega), if_pos (by omega)]; rfl) | (rw [if_pos (by omega), if_neg (by omega), if_pos (by omega)]; show _ = mMax (mDrawn gg x u).2 _; rw [mMax_top (ls := gg 4 0 4) (gg 4 0 1).toNat (by omega) (fun c hc => (mDrawn_99 J (by omega) x u c (by omega)).1)]; done) | (rw [if_pos (by omega), if_neg (by omega), if_neg (by omega)]; rfl)) (k _ (scr_uc (scr_rf hsh) rfl (by decide) (by decide) (by decide)))
        · refine w_aload_n dX12_drawn_47 rfl ?_
          refine w_getr 42 0 dX12_drawn_48 fl_X12_34 rfl (by decide) ?_
          refine w_aload_n dX12_drawn_51 rfl ?_
          refine w_callV (d := d + 6) (S := [aR 42 0]) [] dX12_drawn_52 ml_X12_200 ok_X12_topCell vi_X12_topCell rfl rfl (by decide) rfl (Nat.le_of_ble_eq_true rfl) ?_
          refine c_X12_topCell (d := (d + 6)) (mDrawn gg x u).2 J R hA28_3 (mDrawn_99 J (by omega) x u) (show 1 ≤ gg 4 0 1 by omega) ?_
          show fwWP mX12_drawn (d + 7) 55 [some (aR 12 0), some (aI x), some (aI (u : Int)), some (aI z), some (aI ((mDrawn gg x u).1))] [aI (mTop (mDrawn gg x u).2 (gg 4 0 4) (gg 4 0 1).toNat), aR 42 0] (fwUc h 42 0 A28_3) Q
          have htp7 := mTop_r2 (mDrawn gg x u).2 (gg 4 0 4) (gg 4 0 1).toNat (by omega)
          refine w_ialdE (v := (mDrawn gg x u).2 (mTop (mDrawn gg x u).2 (gg 4 0 4) (gg 4 0 1).toNat).toNat) dX12_drawn_55 rfl (by decide) (by omega) (by omega) (hA28_3 _ (by omega)) ?_
          refine w_goto 63 dX12_drawn_56 (by decide) ?_
          exact w_iretE dX12_drawn_63 rfl (by unfold an_drawn; first | (rw [if_neg (by omega)]; done) | (rw [if_pos (by omega), if_pos (by omega)]; rfl) | (rw [if_pos (by omega), if_neg (by omega), if_pos (by omega)]; show _ = mMax (mDrawn gg x u).2 _; rw [mMax_top (ls := gg 4 0 4) (gg 4 0 1).toNat (by omega) (fun c hc => (mDrawn_99 J (by omega) x u c (by omega)).1)]; done) | (rw [if_pos (by omega), if_neg (by omega), if_neg (by omega)]; rfl)) (k _ (scr_uc (scr_rf hsh) rfl (by decide) (by decide) (by decide)))
      · refine w_iload dX12_drawn_37 rfl ?_
        refine w_goto 63 dX12_drawn_39 (by decide) ?_
        exact w_iretE dX12_drawn_63 rfl (by unfold an_drawn; first | (rw [if_neg (by omega)]; done) | (rw [if_pos (by omega), if_pos (by omega)]; rfl) | (rw [if_pos (by omega), if_neg (by omega), if_pos (by omega)]; show _ = mMax (mDrawn gg x u).2 _; rw [mMax_top (ls := gg 4 0 4) (gg 4 0 1).toNat (by omega) (fun c hc => (mDrawn_99 J (by omega) x u c (by omega)).1)]; done) | (rw [if_pos (by omega), if_neg (by omega), if_neg (by omega)]; rfl)) (k _ (scr_uc (scr_rf hsh) rfl (by decide) (by decide) (by decide)))
    · refine w_bipush dX12_drawn_21 rfl ?_
      exact w_iretE dX12_drawn_23 rfl (by unfold an_drawn; first | (rw [if_neg (by omega)]; done) | (rw [if_pos (by omega), if_pos (by omega)]; rfl) | (rw [if_pos (by omega), if_neg (by omega), if_pos (by omega)]; show _ = mMax (mDrawn gg x u).2 _; rw [mMax_top (ls := gg 4 0 4) (gg 4 0 1).toNat (by omega) (fun c hc => (mDrawn_99 J (by omega) x u c (by omega)).1)]; done) | (rw [if_pos (by omega), if_neg (by omega), if_neg (by omega)]; rfl)) (k _ (scr_rf hsh))
set_option maxRecDepth 100000 in
set_option maxHeartbeats 4000000 in
theorem c_X12_luck {d : Nat} {h gg : fwH} {Q : Option fwV → fwH → Prop} (x : Int) (y : Int) (z : Int) (J : cOk gg) (R : jF gg h) (K : jA gg h) (hsh : sc h) (hx : -2147483648 ≤ x ∧ x < 2147483648) (hy : -2147483648 ≤ y ∧ y < 2147483648) (hz : -2147483648 ≤ z ∧ z < 2147483648) (k : ∀ g, scr h g → Q (some (aI (an_luck gg x y z))) g) : fwCt mX12_luck (d + 7) [aR 12 0, aI x, aI y, aI z] h Q := by
  refine fwCt_of [some (aR 12 0), some (aI x), some (aI y), some (aI z), none, none] rfl rfl rfl ?_
  obtain ⟨hl, hP, hG, hM0, htd, hut, hlw, hhc, ha, hs, hT, hsc⟩ := id J
  have hb17 : hB (gg 17 0) := fun c hc => by have := hM0 c hc; omega
  obtain ⟨⟨g1, g2⟩, ⟨g3, g4⟩, ⟨g5, g6⟩, g7, -⟩ := id hG
  have h17_99 : ∀ c : Nat, (c : Int) < gg 4 0 1 → gg 17 0 c ≤ 99 := fun c hc => (hM0 c (by omega)).2
  have hpz := hP.1
  have hrs1 := R.2.2.2.2.2.2.2.2.2.2.2
  refine w_aload_n dX12_luck_0 rfl ?_
  refine w_iload_n dX12_luck_1 rfl ?_
  refine w_iload_n dX12_luck_2 rfl ?_
  refine w_callV (d := d + 6) (S := []) [aI x, aI z] dX12_luck_3 ml_X12_400 ok_X12_areMonths vi_X12_areMonths rfl rfl (by decide) rfl (Nat.le_of_ble_eq_true rfl) ?_
  refine c_X12_areMonths (d := (d + 5)) x z J R (by omega) (by omega) ?_
  show fwWP mX12_luck (d + 7) 6 [some (aR 12 0), some (aI x), some (aI y), some (aI z), none, none] [aI (fwB (0 < gg 3 0 6 ∧ (0 ≤ x ∧ x ≤ 2000000000) ∧ 0 ≤ z ∧ z ≤ 40))] h Q
  refine w_ifB_eq 21 dX12_luck_6 (by decide) (fun c6 => ?_) (fun c6 => ?_)
  · refine w_bipush dX12_luck_21 rfl ?_
    exact w_iretE dX12_luck_23 rfl (by unfold an_luck; first | (rw [if_neg (by omega)]; done) | (rw [if_pos (by omega)]; rfl)) (k _ (scr_rf hsh))
  · refine w_iload_n dX12_luck_9 rfl ?_
    refine w_i2l dX12_luck_10 (by omega) ?_
    refine w_lconst (z := 1) dX12_luck_11 rfl ?_
    refine w_ldc2 (n := 20) dX12_luck_12 cs_X12_246 ?_
    refine w_callS (d := d + 6) (S := []) [aJ y, aJ 1, aJ 20] dX12_luck_15 ml_X12_65 ok_X12_in st_X12_in rfl (Nat.le_of_ble_eq_true rfl) ?_
    refine c_X12_in (d := (d + 6)) y 1 20 (by omega) (by omega) (by omega) ?_
    show fwWP mX12_luck (d + 7) 18 [some (aR 12 0), some (aI x), some (aI y), some (aI z), none, none] [aI (fwB (1 ≤ y ∧ y ≤ 20))] h Q
    refine w_ifB_ne 24 dX12_luck_18 (by decide) (fun c18 => ?_) (fun c18 => ?_)
    · obtain ⟨m, rfl⟩ : ∃ m : Nat, y = (m : Int) := ⟨y.toNat, by omega⟩
      obtain ⟨u, rfl⟩ : ∃ u : Nat, z = (u : Int) := ⟨z.toNat, by omega⟩
      refine w_iconst dX12_luck_24 ?_
      refine w_istore [some (aR 12 0), some (aI x), some (aI (m : Int)), some (aI (u : Int)), some (aI 0), none] dX12_luck_25 rfl (by decide) ?_
      refine w_iconst dX12_luck_27 ?_
      refine w_istore [some (aR 12 0), some (aI x), some (aI (m : Int)), some (aI (u : Int)), some (aI 0), some (aI 0)] dX12_luck_28 rfl (by decide) ?_
      have lp30 : ∀ c : Nat, c ≤ m → ∀ (y30 lv : Int) (A30 : Nat → Int), y30 = (c : Int) → lv = mLuck gg x u c → fwWP mX12_luck (d + 7) 30 [some (aR 12 0), some (aI x), some (aI (m : Int)), some (aI (u : Int)), some (aI lv), some (aI y30)] [] (fwUc h 42 0 A30) Q := by
        refine fw_up (fun c hc30 ih30 => ?_)
        intro y30 lv A30 ey30 e_lv
        subst ey30
        subst e_lv
        show fwWP mX12_luck (d + 7) 30 [some (aR 12 0), some (aI x), some (aI (m : Int)), some (aI (u : Int)), some (aI (mLuck gg x u c)), some (aI (c : Int))] [] (fwUc h 42 0 A30) Q
        refine w_iload dX12_luck_30 rfl ?_
        refine w_iload_n dX12_luck_32 rfl ?_
        refine w_icmp_ge 66 dX12_luck_33 (by decide) (by omega) (by omega) (fun c33 => ?_) (fun c33 => ?_)
        · have ec30 : m = c := by omega
          subst ec30
          refine w_iload dX12_luck_66 rfl ?_
          exact w_iretE dX12_luck_68 rfl (by unfold an_luck; first | (rw [if_neg (by omega)]; done) | (rw [if_pos (by omega)]; rfl)) (k _ (scr_uc (scr_rf hsh) rfl (by decide) (by decide) (by decide)))
        · have hlk := mLuck_rng gg x u c
          refine w_iload dX12_luck_36 rfl ?_
          refine w_aload_n dX12_luck_38 rfl ?_
          refine w_iload_n dX12_luck_39 rfl ?_
          refine w_i2l dX12_luck_40 (by omega) ?_
          refine w_iload dX12_luck_41 rfl ?_
          refine w_i2l dX12_luck_43 (by omega) ?_
          refine w_ladd dX12_luck_44 ?_
          refine w_iload_n dX12_luck_45 rfl ?_
          refine w_callV (d := d + 6) (S := [aI (mLuck gg x u c)]) [aJ (x + (c : Int)), aI (u : Int)] dX12_luck_46 ml_X12_403 ok_X12_goMonths vi_X12_goMonths rfl rfl (by decide) rfl (Nat.le_of_ble_eq_true rfl) ?_
          refine c_goM (d := d) (x + (c : Int)) u J R K (show 0 < gg 3 0 6 by omega) (by omega) (by omega) ?_
          intro A46_4 hA46_4
          show fwWP mX12_luck (d + 7) 49 [some (aR 12 0), some (aI x), some (aI (m : Int)), some (aI (u : Int)), some (aI (mLuck gg x u c)), some (aI (c : Int))] [aI ((mDrawn gg (x + (c : Int)) u).1), aI (mLuck gg x u c)] (fwUc (fwUc h 42 0 A30) 42 0 A46_4) Q
          rw [show (fwUc (fwUc h 42 0 A30) 42 0 A46_4) = (fwUc h 42 0 A46_4) from by funext a b; simp only [fwUc]; (repeat' split); all_goals first | rfl | (exfalso; omega)]
          have hdr4 := mDrawn_rng gg (x + (c : Int)) u
          refine w_if_le 56 dX12_luck_49 (by decide) (by omega) (fun c49 => ?_) (fun c49 => ?_)
          · refine w_iconst dX12_luck_56 ?_
            refine w_iadd dX12_luck_57 ?_
            refine w_istore [some (aR 12 0), some (aI x), some (aI (m : Int)), some (aI (u : Int)), some (aI ((mLuck gg x u c) + 0)), some (aI (c : Int))] dX12_luck_58 rfl (by decide) ?_
            refine w_iinc [some (aR 12 0), some (aI x), some (aI (m : Int)), some (aI (u : Int)), some (aI ((mLuck gg x u c) + 0)), some (aI ((c : Int) + 1))] dX12_luck_60 rfl rfl (by decide) ?_
            refine w_goto 30 dX12_luck_63 (by decide) ?_
            refine ih30 (by omega) _ _ _ ?_ ?_
            · exact (by omega)
            · exact (by rw [mLuck, if_neg (by omega)]; omega)
          · refine w_iconst dX12_luck_52 ?_
            refine w_goto 57 dX12_luck_53 (by decide) ?_
            refine w_iadd dX12_luck_57 ?_
            refine w_istore [some (aR 12 0), some (aI x), some (aI (m : Int)), some (aI (u : Int)), some (aI ((mLuck gg x u c) + 1)), some (aI (c : Int))] dX12_luck_58 rfl (by decide) ?_
            refine w_iinc [some (aR 12 0), some (aI x), some (aI (m : Int)), some (aI (u : Int)), some (aI ((mLuck gg x u c) + 1)), some (aI ((c : Int) + 1))] dX12_luck_60 rfl rfl (by decide) ?_
            refine w_goto 30 dX12_luck_63 (by decide) ?_
            refine ih30 (by omega) _ _ _ ?_ ?_
            · exact (by omega)
            · exact (by rw [mLuck, if_pos (by omega)])
      have z30 := lp30 0 (Nat.zero_le _) _ _ (h 42 0) (by exact (show 0 = ((0 : Nat) : Int) by omega)) (by exact (show 0 = mLuck gg x u 0 from rfl))
      rw [fwUc_self] at z30
      exact z30
    · refine w_bipush dX12_luck_21 rfl ?_
      exact w_iretE dX12_luck_23 rfl (by unfold an_luck; first | (rw [if_neg (by omega)]; done) | (rw [if_pos (by omega)]; rfl)) (k _ (scr_rf hsh))

/-! the world's acts, done again -/
def stp (n ls rs : Int) (H : Nat → Int) (a : Int) : Nat → Int := if a = 0 then mLow n.toNat H ls else mRs H (mStay n H rs (a - 1))
def rep (W : Nat → Int) : Nat → (Nat → Int)
  | 0 => fun c => W (9 + c)
  | i + 1 => stp (W 0) (W 4) (W 2) (rep W i) (W (75 + i))
def jA (gg h : fwH) : Prop := (∀ i : Nat, (i : Int) ≤ gg 3 0 3 → ∀ c : Nat, c < 10 → 0 ≤ rep (h 36 0) i c ∧ rep (h 36 0) i c ≤ 99) ∧ (∀ i : Nat, (i : Int) < gg 3 0 3 → 0 ≤ h 36 0 (75 + i) ∧ h 36 0 (75 + i) ≤ gg 4 0 1) ∧ hiR (gg 4 0 1) (rep (h 36 0) (gg 3 0 3).toNat) (gg 17 0)
theorem hiR.tr {n : Int} {A B C : Nat → Int} (a : hiR n A B) (b : hiR n B C) : hiR n A C := fun c hc => (a c hc).trans (b c hc)
theorem jA_hb {h gg : fwH} (K : jA gg h) (i : Nat) (hi : (i : Int) ≤ gg 3 0 3) : hB (rep (h 36 0) i) := fun c hc => by have := K.1 i hi c hc; omega
theorem rep_t {h gg : fwH} (R : jF gg h) (i : Nat) (h0 : h 36 0 (75 + i) = 0) : rep (h 36 0) (i + 1) = mLow (gg 4 0 1).toNat (rep (h 36 0) i) (gg 4 0 4) := by
  rw [rep, R.1, R.2.2.2.2.1, R.2.2.1]
  unfold stp
  rw [if_pos h0]
theorem rep_h {h gg : fwH} (R : jF gg h) (i : Nat) (h0 : h 36 0 (75 + i) ≠ 0) : rep (h 36 0) (i + 1) = mRs (rep (h 36 0) i) (mStay (gg 4 0 1) (rep (h 36 0) i) (gg 4 0 3) (h 36 0 (75 + i) - 1)) := by
  rw [rep, R.1, R.2.2.2.2.1, R.2.2.1]
  unfold stp
  rw [if_neg h0]
set_option maxRecDepth 100000 in
set_option maxHeartbeats 4000000 in
theorem c_X12_asItIs {d : Nat} {h gg : fwH} {Q : Option fwV → fwH → Prop}  (J : cOk gg) (R : jF gg h) (K : jA gg h) (hn : 1 ≤ gg 4 0 1) (hrs : 1 ≤ gg 4 0 3) (k : ∀ A, hiR (gg 4 0 1) A (gg 17 0) → Q none (fwUc h 42 0 A)) : fwCt mX12_asItIs (d + 5) [aR 12 0] h Q := by
  refine fwCt_of [some (aR 12 0), none] rfl rfl rfl ?_
  obtain ⟨hl, hP, hG, -, -, -, hlw, -, ha, hs, -, hsc⟩ := id J
  obtain ⟨⟨g1, g2⟩, ⟨g3, g4⟩, ⟨g5, g6⟩, g7, -⟩ := id hG
  have hpz := hP.1
  refine w_iconst dX12_asItIs_0 ?_
  refine w_istore_n [some (aR 12 0), some (aI 0)] dX12_asItIs_1 rfl (by decide) ?_
  have lp2 : ∀ c : Nat, c ≤ 10 → ∀ (y2  : Int) (hh2 : fwH), y2 = (c : Int) → hh2 = (fwUc h 42 0 (fwFl (fun s => if (s : Int) < gg 4 0 1 then h 36 0 (9 + s) else 0) (h 42 0) c)) → fwWP mX12_asItIs (d + 5) 2 [some (aR 12 0), some (aI y2)] [] hh2 Q := by
    refine fw_up (fun c hc2 ih2 => ?_)
    intro y2  hh2 ey2 eh2
    subst ey2
    subst eh2
    show fwWP mX12_asItIs (d + 5) 2 [some (aR 12 0), some (aI (c : Int))] [] (fwUc h 42 0 (fwFl (fun s => if (s : Int) < gg 4 0 1 then h 36 0 (9 + s) else 0) (h 42 0) c)) Q
    refine w_iload_n dX12_asItIs_2 rfl ?_
    refine w_bipush dX12_asItIs_3 rfl ?_
    refine w_icmp_ge 43 dX12_asItIs_5 (by decide) (by omega) (by omega) (fun c5 => ?_) (fun c5 => ?_)
    · have ec2 : 10 = c := by omega
      subst ec2
      refine w_iconst dX12_asItIs_43 ?_
      refine w_istore_n [some (aR 12 0), some (aI 0)] dX12_asItIs_44 rfl (by decide) ?_
      have lp45 : ∀ c : Nat, c ≤ (gg 3 0 3).toNat → ∀ (y45 : Int) (A45 : Nat → Int), y45 = (c : Int) → hiR (gg 4 0 1) A45 (rep (h 36 0) c) → fwWP mX12_asItIs (d + 5) 45 [some (aR 12 0), some (aI y45)] [] (fwUc h 42 0 A45) Q := by
        refine fw_up (fun c hc45 ih45 => ?_)
        intro y45 A45 ey hA45
        subst ey
        show fwWP mX12_asItIs (d + 5) 45 [some (aR 12 0), some (aI (c : Int))] [] (fwUc h 42 0 A45) Q
        refine w_iload_n dX12_asItIs_45 rfl ?_
        refine w_aload_n dX12_asItIs_46 rfl ?_
        refine w_getr 36 0 dX12_asItIs_47 fl_X12_9 rfl (by decide) ?_
        refine w_bipush dX12_asItIs_50 rfl ?_
        refine w_ialdE (v := gg 3 0 3) dX12_asItIs_52 rfl (by decide) (by omega) (by omega) R.2.2.2.2.2.2.2.2.1 ?_
        refine w_icmp_ge 98 dX12_asItIs_53 (by decide) (by omega) (by omega) (fun c53 => ?_) (fun c53 => ?_)
        · have ec9 : c = (gg 3 0 3).toNat := by omega
          subst ec9
          exact w_vret dX12_asItIs_98 rfl (k _ (hA45.tr K.2.2))
        · have hac := K.2.1 c (by omega)
          have hbc := jA_hb K c (by omega)
          have h99 : ∀ c2 : Nat, (c2 : Int) < gg 4 0 1 → rep (h 36 0) c c2 ≤ 99 := fun c2 hc2 => (K.1 c (by omega) c2 (by omega)).2
          refine w_aload_n dX12_asItIs_56 rfl ?_
          refine w_getr 36 0 dX12_asItIs_57 fl_X12_9 rfl (by decide) ?_
          refine w_bipush dX12_asItIs_60 rfl ?_
          refine w_iload_n dX12_asItIs_62 rfl ?_
          refine w_iadd dX12_asItIs_63 ?_
          refine w_ialdE (v := h 36 0 (75 + c)) dX12_asItIs_64 rfl (by decide) (by omega) (by omega) (by rw [show ((75 + (c : Int)).toNat) = 75 + c by omega]; rfl) ?_
          refine w_if_ne 76 dX12_asItIs_65 (by decide) (by omega) (fun c65 => ?_) (fun c65 => ?_)
          · refine w_aload_n dX12_asItIs_76 rfl ?_
            refine w_aload_n dX12_asItIs_77 rfl ?_
            refine w_getr 36 0 dX12_asItIs_78 fl_X12_9 rfl (by decide) ?_
            refine w_bipush dX12_asItIs_81 rfl ?_
            refine w_iload_n dX12_asItIs_83 rfl ?_
            refine w_iadd dX12_asItIs_84 ?_
            refine w_ialdE (v := h 36 0 (75 + c)) dX12_asItIs_85 rfl (by decide) (by omega) (by omega) (by rw [show ((75 + (c : Int)).toNat) = 75 + c by omega]; rfl) ?_
            refine w_iconst dX12_asItIs_86 ?_
            refine w_isub dX12_asItIs_87 ?_
            refine w_callV (d := d + 4) (S := []) [aI ((h 36 0 (75 + c)) - 1)] dX12_asItIs_88 ml_X12_197 ok_X12_heap0 vi_X12_heap0 rfl rfl (by decide) rfl (Nat.le_of_ble_eq_true rfl) ?_
            refine c_X12_heap0 (d := d) ((h 36 0 (75 + c)) - 1) (rep (h 36 0) c) J R hA45 hbc h99 (show 1 ≤ gg 4 0 3 by omega) (show 0 ≤ ((h 36 0 (75 + c)) - 1) ∧ ((h 36 0 (75 + c)) - 1) < gg 4 0 1 by omega) ?_
            intro A88_4 hA88_4
            show fwWP mX12_asItIs (d + 5) 91 [some (aR 12 0), some (aI (c : Int))] [aI (mStay (gg 4 0 1) (rep (h 36 0) c) (gg 4 0 3) ((h 36 0 (75 + c)) - 1))] (fwUc (fwUc h 42 0 A45) 42 0 A88_4) Q
            rw [show (fwUc (fwUc h 42 0 A45) 42 0 A88_4) = (fwUc h 42 0 A88_4) from by funext a b; simp only [fwUc]; (repeat' split); all_goals first | rfl | (exfalso; omega)]
            refine w_pop dX12_asItIs_91 rfl ?_
            refine w_iinc [some (aR 12 0), some (aI ((c : Int) + 1))] dX12_asItIs_92 rfl rfl (by decide) ?_
            refine w_goto 45 dX12_asItIs_95 (by decide) ?_
            exact ih45 (by omega) _ _ (by omega) (by rw [rep_h R c c65]; exact hA88_4)
          · refine w_aload_n dX12_asItIs_68 rfl ?_
            refine w_callV (d := d + 4) (S := []) [] dX12_asItIs_69 ml_X12_194 ok_X12_take0 vi_X12_take0 rfl rfl (by decide) rfl (Nat.le_of_ble_eq_true rfl) ?_
            refine c_X12_take0 (d := (d + 3)) (rep (h 36 0) c) J R hA45 hbc (show 1 ≤ gg 4 0 1 by omega) ?_
            intro A69_5 hA69_5
            show fwWP mX12_asItIs (d + 5) 72 [some (aR 12 0), some (aI (c : Int))] [aI (fwB (0 < (gg 4 0 1).toNat ∧ (rep (h 36 0) c) (mTop (rep (h 36 0) c) (gg 4 0 4) (gg 4 0 1).toNat).toNat ≠ 0))] (fwUc (fwUc h 42 0 A45) 42 0 A69_5) Q
            rw [show (fwUc (fwUc h 42 0 A45) 42 0 A69_5) = (fwUc h 42 0 A69_5) from by funext a b; simp only [fwUc]; (repeat' split); all_goals first | rfl | (exfalso; omega)]
            refine w_pop dX12_asItIs_72 rfl ?_
            refine w_goto 92 dX12_asItIs_73 (by decide) ?_
            refine w_iinc [some (aR 12 0), some (aI ((c : Int) + 1))] dX12_asItIs_92 rfl rfl (by decide) ?_
            refine w_goto 45 dX12_asItIs_95 (by decide) ?_
            exact ih45 (by omega) _ _ (by omega) (by rw [rep_t R c c65]; exact hA69_5)
      exact lp45 0 (Nat.zero_le _) _ _ rfl (fun c hc => by show (if c < 10 then (if (c : Int) < gg 4 0 1 then h 36 0 (9 + c) else 0) else h 42 0 c) = h 36 0 (9 + c); rw [if_pos (by omega), if_pos hc])
    · refine w_aload_n dX12_asItIs_8 rfl ?_
      refine w_getr 42 0 dX12_asItIs_9 fl_X12_34 rfl (by decide) ?_
      refine w_iload_n dX12_asItIs_12 rfl ?_
      refine w_iload_n dX12_asItIs_13 rfl ?_
      refine w_aload_n dX12_asItIs_14 rfl ?_
      refine w_getr 36 0 dX12_asItIs_15 fl_X12_9 rfl (by decide) ?_
      refine w_iconst dX12_asItIs_18 ?_
      refine w_ialdE (v := gg 4 0 1) dX12_asItIs_19 rfl (by decide) (by omega) (by omega) R.1 ?_
      refine w_icmp_ge 35 dX12_asItIs_20 (by decide) (by omega) (by omega) (fun c20 => ?_) (fun c20 => ?_)
      · refine w_iconst dX12_asItIs_35 ?_
        refine w_iast dX12_asItIs_36 rfl (by decide) (by omega) (by omega) ?_
        refine w_iinc [some (aR 12 0), some (aI ((c : Int) + 1))] dX12_asItIs_37 rfl rfl (by decide) ?_
        refine w_goto 2 dX12_asItIs_40 (by decide) ?_
        refine ih2 (by omega) _ _ ?_ ?_
        · exact (by omega)
        · exact (by rw [fwUp_uc, Int.toNat_natCast, ← fwFl_succ]; first | (rw [if_pos (by omega)]; done) | (rw [if_neg (by omega)]; done))
      · refine w_aload_n dX12_asItIs_23 rfl ?_
        refine w_getr 36 0 dX12_asItIs_24 fl_X12_9 rfl (by decide) ?_
        refine w_bipush dX12_asItIs_27 rfl ?_
        refine w_iload_n dX12_asItIs_29 rfl ?_
        refine w_iadd dX12_asItIs_30 ?_
        refine w_ialdE (v := h 36 0 (9 + c)) dX12_asItIs_31 rfl (by decide) (by omega) (by omega) (by rw [show ((9 + (c : Int)).toNat) = 9 + c by omega]; rfl) ?_
        refine w_goto 36 dX12_asItIs_32 (by decide) ?_
        refine w_iast dX12_asItIs_36 rfl (by decide) (by omega) (by omega) ?_
        refine w_iinc [some (aR 12 0), some (aI ((c : Int) + 1))] dX12_asItIs_37 rfl rfl (by decide) ?_
        refine w_goto 2 dX12_asItIs_40 (by decide) ?_
        refine ih2 (by omega) _ _ ?_ ?_
        · exact (by omega)
        · exact (by rw [fwUp_uc, Int.toNat_natCast, ← fwFl_succ]; first | (rw [if_pos (by omega)]; done) | (rw [if_neg (by omega)]; done))
  refine lp2 0 (Nat.zero_le _) _ _ ?_ ?_
  · exact (by omega)
  · exact (by rw [fwFl_0]; exact (fwUc_self _ 42 0).symm)
set_option maxRecDepth 100000 in
set_option maxHeartbeats 4000000 in
theorem c_X12_folk {d : Nat} {h gg : fwH} {Q : Option fwV → fwH → Prop} (x : Int) (y : Int) (J : cOk gg) (R : jF gg h) (K : jA gg h) (hsh : sc h) (hx : -2147483648 ≤ x ∧ x < 2147483648) (hy : -2147483648 ≤ y ∧ y < 2147483648) (k : ∀ g, scr h g → Q (some (aI (an_folk gg x y))) g) : fwCt mX12_folk (d + 2) [aR 12 0, aI x, aI y] h Q := by
  refine fwCt_of [some (aR 12 0), some (aI x), some (aI y)] rfl rfl rfl ?_
  obtain ⟨hl, hP, hG, hM0, htd, hut, hlw, hhc, ha, hs, hT, hsc⟩ := id J
  have hb17 : hB (gg 17 0) := fun c hc => by have := hM0 c hc; omega
  obtain ⟨⟨g1, g2⟩, ⟨g3, g4⟩, ⟨g5, g6⟩, g7, -⟩ := id hG
  have h17_99 : ∀ c : Nat, (c : Int) < gg 4 0 1 → gg 17 0 c ≤ 99 := fun c hc => (hM0 c (by omega)).2
  have hpz := hP.1
  have hrs1 := R.2.2.2.2.2.2.2.2.2.2.2
  refine w_aload_n dX12_folk_0 rfl ?_
  refine w_iload_n dX12_folk_1 rfl ?_
  refine w_i2l dX12_folk_2 (by omega) ?_
  refine w_callV (d := d + 1) (S := []) [aJ x] dX12_folk_3 ml_X12_235 ok_X12_isFolk vi_X12_isFolk rfl rfl (by decide) rfl (Nat.le_of_ble_eq_true rfl) ?_
  refine c_X12_isFolk (d := d) x J R (by omega) ?_
  show fwWP mX12_folk (d + 2) 6 [some (aR 12 0), some (aI x), some (aI y)] [aI (fwB (0 ≤ x ∧ x ≤ gg 5 0 3 - 1))] h Q
  refine w_ifB_eq 30 dX12_folk_6 (by decide) (fun c6 => ?_) (fun c6 => ?_)
  · refine w_bipush dX12_folk_30 rfl ?_
    exact w_iretE dX12_folk_32 rfl (by unfold an_folk; first | (rw [if_pos (by omega)]; done) | (rw [if_neg (by omega)]; done) | (rw [if_pos (by omega)]; rfl) | (rw [if_neg (by omega)]; rfl)) (k _ (scr_rf hsh))
  · refine w_iload_n dX12_folk_9 rfl ?_
    refine w_i2l dX12_folk_10 (by omega) ?_
    refine w_lconst (z := 0) dX12_folk_11 rfl ?_
    refine w_ldc2 (n := 6) dX12_folk_12 cs_X12_238 ?_
    refine w_callS (d := d + 1) (S := []) [aJ y, aJ 0, aJ 6] dX12_folk_15 ml_X12_65 ok_X12_in st_X12_in rfl (Nat.le_of_ble_eq_true rfl) ?_
    refine c_X12_in (d := (d + 1)) y 0 6 (by omega) (by omega) (by omega) ?_
    show fwWP mX12_folk (d + 2) 18 [some (aR 12 0), some (aI x), some (aI y)] [aI (fwB (0 ≤ y ∧ y ≤ 6))] h Q
    refine w_ifB_eq 30 dX12_folk_18 (by decide) (fun c18 => ?_) (fun c18 => ?_)
    · refine w_bipush dX12_folk_30 rfl ?_
      exact w_iretE dX12_folk_32 rfl (by unfold an_folk; first | (rw [if_pos (by omega)]; done) | (rw [if_neg (by omega)]; done) | (rw [if_pos (by omega)]; rfl) | (rw [if_neg (by omega)]; rfl)) (k _ (scr_rf hsh))
    · refine w_aload_n dX12_folk_21 rfl ?_
      refine w_iload_n dX12_folk_22 rfl ?_
      refine w_iload_n dX12_folk_23 rfl ?_
      obtain ⟨f, rfl⟩ : ∃ f : Nat, x = (f : Int) := ⟨x.toNat, by omega⟩
      obtain ⟨u, rfl⟩ : ∃ u : Nat, y = (u : Int) := ⟨y.toNat, by omega⟩
      refine w_callV (d := d + 1) (S := []) [aI (f : Int), aI (u : Int)] dX12_folk_24 ml_X12_220 ok_X12_of vi_X12_of rfl rfl (by decide) rfl (Nat.le_of_ble_eq_true rfl) ?_
      refine c_X12_of (d := (d + 1)) f u J R (by omega) (by omega) ?_
      show fwWP mX12_folk (d + 2) 27 [some (aR 12 0), some (aI (f : Int)), some (aI (u : Int))] [aI (gg 18 0 (7 * f + u))] h Q
      refine w_goto 32 dX12_folk_27 (by decide) ?_
      exact w_iretE dX12_folk_32 rfl (by unfold an_folk; first | (rw [if_pos (by omega)]; done) | (rw [if_neg (by omega)]; done) | (rw [if_pos (by omega)]; rfl) | (rw [if_neg (by omega)]; rfl)) (k _ (scr_rf hsh))
set_option maxRecDepth 100000 in
set_option maxHeartbeats 4000000 in
theorem c_X12_height {d : Nat} {h gg : fwH} {Q : Option fwV → fwH → Prop} (x : Int) (J : cOk gg) (R : jF gg h) (K : jA gg h) (hsh : sc h) (hx : -2147483648 ≤ x ∧ x < 2147483648) (k : ∀ g, scr h g → Q (some (aI (an_height gg x))) g) : fwCt mX12_height (d + 6) [aR 12 0, aI x] h Q := by
  refine fwCt_of [some (aR 12 0), some (aI x)] rfl rfl rfl ?_
  obtain ⟨hl, hP, hG, hM0, htd, hut, hlw, hhc, ha, hs, hT, hsc⟩ := id J
  have hb17 : hB (gg 17 0) := fun c hc => by have := hM0 c hc; omega
  obtain ⟨⟨g1, g2⟩, ⟨g3, g4⟩, ⟨g5, g6⟩, g7, -⟩ := id hG
  have h17_99 : ∀ c : Nat, (c : Int) < gg 4 0 1 → gg 17 0 c ≤ 99 := fun c hc => (hM0 c (by omega)).2
  have hpz := hP.1
  have hrs1 := R.2.2.2.2.2.2.2.2.2.2.2
  refine w_aload_n dX12_height_0 rfl ?_
  refine w_iload_n dX12_height_1 rfl ?_
  refine w_i2l dX12_height_2 (by omega) ?_
  refine w_callV (d := d + 5) (S := []) [aJ x] dX12_height_3 ml_X12_203 ok_X12_isCell vi_X12_isCell rfl rfl (by decide) rfl (Nat.le_of_ble_eq_true rfl) ?_
  refine c_X12_isCell (d := (d + 4)) x J R (by omega) ?_
  show fwWP mX12_height (d + 6) 6 [some (aR 12 0), some (aI x)] [aI (fwB (0 ≤ x ∧ x ≤ gg 4 0 1 - 1))] h Q
  refine w_ifB_ne 12 dX12_height_6 (by decide) (fun c6 => ?_) (fun c6 => ?_)
  · refine w_aload_n dX12_height_12 rfl ?_
    refine w_callV (d := d + 5) (S := []) [] dX12_height_13 ml_X12_240 ok_X12_asItIs vi_X12_asItIs rfl rfl (by decide) rfl (Nat.le_of_ble_eq_true rfl) ?_
    refine c_X12_asItIs (d := d) J R K (show 1 ≤ gg 4 0 1 by omega) (show 1 ≤ gg 4 0 3 by omega) ?_
    intro A13_2 hA13_2
    show fwWP mX12_height (d + 6) 16 [some (aR 12 0), some (aI x)] [] (fwUc h 42 0 A13_2) Q
    refine w_aload_n dX12_height_16 rfl ?_
    refine w_getr 42 0 dX12_height_17 fl_X12_34 rfl (by decide) ?_
    refine w_iload_n dX12_height_20 rfl ?_
    refine w_ialdE (v := (gg 17 0) (x).toNat) dX12_height_21 rfl (by decide) (by omega) (by omega) (hA13_2 _ (by omega)) ?_
    exact w_iretE dX12_height_22 rfl (by unfold an_height; first | (rw [if_neg (by omega)]; done) | (rw [if_pos (by omega), hOf_p (by omega)])) (k _ (scr_uc (scr_rf hsh) rfl (by decide) (by decide) (by decide)))
  · refine w_bipush dX12_height_9 rfl ?_
    exact w_iretE dX12_height_11 rfl (by unfold an_height; first | (rw [if_neg (by omega)]; done) | (rw [if_pos (by omega), hOf_p (by omega)])) (k _ (scr_rf hsh))
set_option maxRecDepth 100000 in
set_option maxHeartbeats 4000000 in
theorem c_X12_shade {d : Nat} {h gg : fwH} {Q : Option fwV → fwH → Prop} (x : Int) (y : Int) (J : cOk gg) (R : jF gg h) (K : jA gg h) (hsh : sc h) (hx : -2147483648 ≤ x ∧ x < 2147483648) (hy : -2147483648 ≤ y ∧ y < 2147483648) (k : ∀ g, scr h g → Q (some (aI (an_shade gg x y))) g) : fwCt mX12_shade (d + 6) [aR 12 0, aI x, aI y] h Q := by
  refine fwCt_of [some (aR 12 0), some (aI x), some (aI y)] rfl rfl rfl ?_
  obtain ⟨hl, hP, hG, hM0, htd, hut, hlw, hhc, ha, hs, hT, hsc⟩ := id J
  have hb17 : hB (gg 17 0) := fun c hc => by have := hM0 c hc; omega
  obtain ⟨⟨g1, g2⟩, ⟨g3, g4⟩, ⟨g5, g6⟩, g7, -⟩ := id hG
  have h17_99 : ∀ c : Nat, (c : Int) < gg 4 0 1 → gg 17 0 c ≤ 99 := fun c hc => (hM0 c (by omega)).2
  have hpz := hP.1
  have hrs1 := R.2.2.2.2.2.2.2.2.2.2.2
  refine w_aload_n dX12_shade_0 rfl ?_
  refine w_iload_n dX12_shade_1 rfl ?_
  refine w_i2l dX12_shade_2 (by omega) ?_
  refine w_callV (d := d + 5) (S := []) [aJ x] dX12_shade_3 ml_X12_203 ok_X12_isCell vi_X12_isCell rfl rfl (by decide) rfl (Nat.le_of_ble_eq_true rfl) ?_
  refine c_X12_isCell (d := (d + 4)) x J R (by omega) ?_
  show fwWP mX12_shade (d + 6) 6 [some (aR 12 0), some (aI x), some (aI y)] [aI (fwB (0 ≤ x ∧ x ≤ gg 4 0 1 - 1))] h Q
  refine w_ifB_eq 17 dX12_shade_6 (by decide) (fun c6 => ?_) (fun c6 => ?_)
  · refine w_bipush dX12_shade_17 rfl ?_
    exact w_iretE dX12_shade_19 rfl (by unfold an_shade; first | (rw [if_pos (by omega), if_pos (by assumption)]; done) | (rw [if_pos (by omega), if_neg (by assumption)]; done) | (rw [if_neg (by omega)]; done)) (k _ (scr_rf hsh))
  · refine w_iload_n dX12_shade_9 rfl ?_
    refine w_i2l dX12_shade_10 (by omega) ?_
    refine w_callS (d := d + 5) (S := []) [aJ y] dX12_shade_11 ml_X12_243 ok_X12_isHour st_X12_isHour rfl (Nat.le_of_ble_eq_true rfl) ?_
    refine c_X12_isHour (d := (d + 4)) y (by omega) ?_
    show fwWP mX12_shade (d + 6) 14 [some (aR 12 0), some (aI x), some (aI y)] [aI (fwB (y ≠ 0 ∧ -9 ≤ y ∧ y ≤ 9))] h Q
    refine w_ifB_ne 20 dX12_shade_14 (by decide) (fun c14 => ?_) (fun c14 => ?_)
    · refine w_aload_n dX12_shade_20 rfl ?_
      refine w_callV (d := d + 5) (S := []) [] dX12_shade_21 ml_X12_240 ok_X12_asItIs vi_X12_asItIs rfl rfl (by decide) rfl (Nat.le_of_ble_eq_true rfl) ?_
      refine c_X12_asItIs (d := d) J R K (show 1 ≤ gg 4 0 1 by omega) (show 1 ≤ gg 4 0 3 by omega) ?_
      intro A21_3 hA21_3
      show fwWP mX12_shade (d + 6) 24 [some (aR 12 0), some (aI x), some (aI y)] [] (fwUc h 42 0 A21_3) Q
      refine w_aload_n dX12_shade_24 rfl ?_
      refine w_iload_n dX12_shade_25 rfl ?_
      refine w_iload_n dX12_shade_26 rfl ?_
      refine w_callV (d := d + 5) (S := []) [aI x, aI y] dX12_shade_27 ml_X12_217 ok_X12_isDark vi_X12_isDark rfl rfl (by decide) rfl (Nat.le_of_ble_eq_true rfl) ?_
      refine c_X12_isDark (d := (d + 3)) x y (gg 17 0) J R hA21_3 hb17 (show 0 ≤ x ∧ x < gg 4 0 1 by omega) (by omega) ?_
      show fwWP mX12_shade (d + 6) 30 [some (aR 12 0), some (aI x), some (aI y)] [aI (fwB (mShadeB (gg 4 0 1) (gg 17 0) x y = true))] (fwUc h 42 0 A21_3) Q
      refine w_ifB_eq 37 dX12_shade_30 (by decide) (fun c30 => ?_) (fun c30 => ?_)
      · refine w_iconst dX12_shade_37 ?_
        exact w_iretE dX12_shade_38 rfl (by unfold an_shade; first | (rw [if_pos (by omega), if_pos (by assumption)]; done) | (rw [if_pos (by omega), if_neg (by assumption)]; done) | (rw [if_neg (by omega)]; done)) (k _ (scr_uc (scr_rf hsh) rfl (by decide) (by decide) (by decide)))
      · refine w_iconst dX12_shade_33 ?_
        refine w_goto 38 dX12_shade_34 (by decide) ?_
        exact w_iretE dX12_shade_38 rfl (by unfold an_shade; first | (rw [if_pos (by omega), if_pos (by assumption)]; done) | (rw [if_pos (by omega), if_neg (by assumption)]; done) | (rw [if_neg (by omega)]; done)) (k _ (scr_uc (scr_rf hsh) rfl (by decide) (by decide) (by decide)))
    · refine w_bipush dX12_shade_17 rfl ?_
      exact w_iretE dX12_shade_19 rfl (by unfold an_shade; first | (rw [if_pos (by omega), if_pos (by assumption)]; done) | (rw [if_pos (by omega), if_neg (by assumption)]; done) | (rw [if_neg (by omega)]; done)) (k _ (scr_rf hsh))
set_option maxRecDepth 100000 in
set_option maxHeartbeats 4000000 in
theorem c_X12_light {d : Nat} {h gg : fwH} {Q : Option fwV → fwH → Prop} (x : Int) (J : cOk gg) (R : jF gg h) (K : jA gg h) (hsh : sc h) (hx : -2147483648 ≤ x ∧ x < 2147483648) (k : ∀ g, scr h g → Q (some (aI (an_light gg x))) g) : fwCt mX12_light (d + 6) [aR 12 0, aI x] h Q := by
  refine fwCt_of [some (aR 12 0), some (aI x)] rfl rfl rfl ?_
  obtain ⟨hl, hP, hG, hM0, htd, hut, hlw, hhc, ha, hs, hT, hsc⟩ := id J
  have hb17 : hB (gg 17 0) := fun c hc => by have := hM0 c hc; omega
  obtain ⟨⟨g1, g2⟩, ⟨g3, g4⟩, ⟨g5, g6⟩, g7, -⟩ := id hG
  have h17_99 : ∀ c : Nat, (c : Int) < gg 4 0 1 → gg 17 0 c ≤ 99 := fun c hc => (hM0 c (by omega)).2
  have hpz := hP.1
  have hrs1 := R.2.2.2.2.2.2.2.2.2.2.2
  refine w_aload_n dX12_light_0 rfl ?_
  refine w_iload_n dX12_light_1 rfl ?_
  refine w_i2l dX12_light_2 (by omega) ?_
  refine w_callV (d := d + 5) (S := []) [aJ x] dX12_light_3 ml_X12_203 ok_X12_isCell vi_X12_isCell rfl rfl (by decide) rfl (Nat.le_of_ble_eq_true rfl) ?_
  refine c_X12_isCell (d := (d + 4)) x J R (by omega) ?_
  show fwWP mX12_light (d + 6) 6 [some (aR 12 0), some (aI x)] [aI (fwB (0 ≤ x ∧ x ≤ gg 4 0 1 - 1))] h Q
  refine w_ifB_ne 12 dX12_light_6 (by decide) (fun c6 => ?_) (fun c6 => ?_)
  · refine w_aload_n dX12_light_12 rfl ?_
    refine w_callV (d := d + 5) (S := []) [] dX12_light_13 ml_X12_240 ok_X12_asItIs vi_X12_asItIs rfl rfl (by decide) rfl (Nat.le_of_ble_eq_true rfl) ?_
    refine c_X12_asItIs (d := d) J R K (show 1 ≤ gg 4 0 1 by omega) (show 1 ≤ gg 4 0 3 by omega) ?_
    intro A13_2 hA13_2
    show fwWP mX12_light (d + 6) 16 [some (aR 12 0), some (aI x)] [] (fwUc h 42 0 A13_2) Q
    refine w_aload_n dX12_light_16 rfl ?_
    refine w_iload_n dX12_light_17 rfl ?_
    refine w_callV (d := d + 5) (S := []) [aI x] dX12_light_18 ml_X12_223 ok_X12_lightOf vi_X12_lightOf rfl rfl (by decide) rfl (Nat.le_of_ble_eq_true rfl) ?_
    refine c_X12_lightOf (d := (d + 2)) x (gg 17 0) J R hA13_2 hb17 (show 0 ≤ x ∧ x < gg 4 0 1 by omega) ?_
    show fwWP mX12_light (d + 6) 21 [some (aR 12 0), some (aI x)] [aI (18 - mSh (gg 4 0 1) (gg 17 0) x (-1) - mSh (gg 4 0 1) (gg 17 0) x 1)] (fwUc h 42 0 A13_2) Q
    exact w_iretE dX12_light_21 rfl (by unfold an_light; first | (rw [if_pos (by omega)]; done) | (rw [if_neg (by omega)]; done) | (rw [if_pos (by omega)]; rfl) | (rw [if_neg (by omega)]; rfl)) (k _ (scr_uc (scr_rf hsh) rfl (by decide) (by decide) (by decide)))
  · refine w_bipush dX12_light_9 rfl ?_
    exact w_iretE dX12_light_11 rfl (by unfold an_light; first | (rw [if_pos (by omega)]; done) | (rw [if_neg (by omega)]; done) | (rw [if_pos (by omega)]; rfl) | (rw [if_neg (by omega)]; rfl)) (k _ (scr_rf hsh))
set_option maxRecDepth 100000 in
set_option maxHeartbeats 4000000 in
theorem c_X12_snow {d : Nat} {h gg : fwH} {Q : Option fwV → fwH → Prop}  (J : cOk gg) (R : jF gg h) (K : jA gg h) (hsh : sc h)  (k : ∀ g, scr h g → Q (some (aI (an_snow gg ))) g) : fwCt mX12_snow (d + 6) [aR 12 0] h Q := by
  refine fwCt_of [some (aR 12 0)] rfl rfl rfl ?_
  obtain ⟨hl, hP, hG, hM0, htd, hut, hlw, hhc, ha, hs, hT, hsc⟩ := id J
  have hb17 : hB (gg 17 0) := fun c hc => by have := hM0 c hc; omega
  obtain ⟨⟨g1, g2⟩, ⟨g3, g4⟩, ⟨g5, g6⟩, g7, -⟩ := id hG
  have h17_99 : ∀ c : Nat, (c : Int) < gg 4 0 1 → gg 17 0 c ≤ 99 := fun c hc => (hM0 c (by omega)).2
  have hpz := hP.1
  have hrs1 := R.2.2.2.2.2.2.2.2.2.2.2
  refine w_aload_n dX12_snow_0 rfl ?_
  refine w_callV (d := d + 5) (S := []) [] dX12_snow_1 ml_X12_73 ok_X12_isMount vi_X12_isMount rfl rfl (by decide) rfl (Nat.le_of_ble_eq_true rfl) ?_
  refine c_X12_isMount (d := (d + 5)) J R ?_
  show fwWP mX12_snow (d + 6) 4 [some (aR 12 0)] [aI (fwB (0 < gg 3 0 6))] h Q
  refine w_ifB_ne 10 dX12_snow_4 (by decide) (fun c4 => ?_) (fun c4 => ?_)
  · refine w_aload_n dX12_snow_10 rfl ?_
    refine w_callV (d := d + 5) (S := []) [] dX12_snow_11 ml_X12_240 ok_X12_asItIs vi_X12_asItIs rfl rfl (by decide) rfl (Nat.le_of_ble_eq_true rfl) ?_
    refine c_X12_asItIs (d := d) J R K (show 1 ≤ gg 4 0 1 by omega) (show 1 ≤ gg 4 0 3 by omega) ?_
    intro A11_2 hA11_2
    show fwWP mX12_snow (d + 6) 14 [some (aR 12 0)] [] (fwUc h 42 0 A11_2) Q
    refine w_aload_n dX12_snow_14 rfl ?_
    refine w_callV (d := d + 5) (S := []) [] dX12_snow_15 ml_X12_226 ok_X12_snowSet vi_X12_snowSet rfl rfl (by decide) rfl (Nat.le_of_ble_eq_true rfl) ?_
    refine c_X12_snowSet (d := (d + 5)) (gg 17 0) J R hA11_2 hb17 ?_
    show fwWP mX12_snow (d + 6) 18 [some (aR 12 0)] [aI (mBits (fun c => decide (gg 4 0 2 ≤ (gg 17 0) c)) (gg 4 0 1).toNat)] (fwUc h 42 0 A11_2) Q
    have hmb3 := mBits_10 (p := (fun c => decide (gg 4 0 2 ≤ (gg 17 0) c))) (n := (gg 4 0 1).toNat) (by omega)
    exact w_iretE dX12_snow_18 rfl (by unfold an_snow; first | (rw [if_pos (by omega)]; done) | (rw [if_neg (by omega)]; done) | (rw [if_pos (by omega)]; rfl) | (rw [if_neg (by omega)]; rfl)) (k _ (scr_uc (scr_rf hsh) rfl (by decide) (by decide) (by decide)))
  · refine w_bipush dX12_snow_7 rfl ?_
    exact w_iretE dX12_snow_9 rfl (by unfold an_snow; first | (rw [if_pos (by omega)]; done) | (rw [if_neg (by omega)]; done) | (rw [if_pos (by omega)]; rfl) | (rw [if_neg (by omega)]; rfl)) (k _ (scr_rf hsh))
set_option maxRecDepth 100000 in
set_option maxHeartbeats 4000000 in
theorem c_X12_top {d : Nat} {h gg : fwH} {Q : Option fwV → fwH → Prop}  (J : cOk gg) (R : jF gg h) (K : jA gg h) (hsh : sc h)  (k : ∀ g, scr h g → Q (some (aI (an_top gg ))) g) : fwCt mX12_top (d + 6) [aR 12 0] h Q := by
  refine fwCt_of [some (aR 12 0)] rfl rfl rfl ?_
  obtain ⟨hl, hP, hG, hM0, htd, hut, hlw, hhc, ha, hs, hT, hsc⟩ := id J
  have hb17 : hB (gg 17 0) := fun c hc => by have := hM0 c hc; omega
  obtain ⟨⟨g1, g2⟩, ⟨g3, g4⟩, ⟨g5, g6⟩, g7, -⟩ := id hG
  have h17_99 : ∀ c : Nat, (c : Int) < gg 4 0 1 → gg 17 0 c ≤ 99 := fun c hc => (hM0 c (by omega)).2
  have hpz := hP.1
  have hrs1 := R.2.2.2.2.2.2.2.2.2.2.2
  refine w_aload_n dX12_top_0 rfl ?_
  refine w_callV (d := d + 5) (S := []) [] dX12_top_1 ml_X12_73 ok_X12_isMount vi_X12_isMount rfl rfl (by decide) rfl (Nat.le_of_ble_eq_true rfl) ?_
  refine c_X12_isMount (d := (d + 5)) J R ?_
  show fwWP mX12_top (d + 6) 4 [some (aR 12 0)] [aI (fwB (0 < gg 3 0 6))] h Q
  refine w_ifB_ne 10 dX12_top_4 (by decide) (fun c4 => ?_) (fun c4 => ?_)
  · refine w_aload_n dX12_top_10 rfl ?_
    refine w_callV (d := d + 5) (S := []) [] dX12_top_11 ml_X12_240 ok_X12_asItIs vi_X12_asItIs rfl rfl (by decide) rfl (Nat.le_of_ble_eq_true rfl) ?_
    refine c_X12_asItIs (d := d) J R K (show 1 ≤ gg 4 0 1 by omega) (show 1 ≤ gg 4 0 3 by omega) ?_
    intro A11_2 hA11_2
    show fwWP mX12_top (d + 6) 14 [some (aR 12 0)] [] (fwUc h 42 0 A11_2) Q
    refine w_aload_n dX12_top_14 rfl ?_
    refine w_callV (d := d + 5) (S := []) [] dX12_top_15 ml_X12_200 ok_X12_topCell vi_X12_topCell rfl rfl (by decide) rfl (Nat.le_of_ble_eq_true rfl) ?_
    refine c_X12_topCell (d := (d + 5)) (gg 17 0) J R hA11_2 hb17 (show 1 ≤ gg 4 0 1 by omega) ?_
    show fwWP mX12_top (d + 6) 18 [some (aR 12 0)] [aI (mTop (gg 17 0) (gg 4 0 4) (gg 4 0 1).toNat)] (fwUc h 42 0 A11_2) Q
    have htp3 := mTop_r2 (gg 17 0) (gg 4 0 4) (gg 4 0 1).toNat (by omega)
    exact w_iretE dX12_top_18 rfl (by unfold an_top; first | (rw [if_pos (by omega)]; done) | (rw [if_neg (by omega)]; done) | (rw [if_pos (by omega)]; rfl) | (rw [if_neg (by omega)]; rfl)) (k _ (scr_uc (scr_rf hsh) rfl (by decide) (by decide) (by decide)))
  · refine w_bipush dX12_top_7 rfl ?_
    exact w_iretE dX12_top_9 rfl (by unfold an_top; first | (rw [if_pos (by omega)]; done) | (rw [if_neg (by omega)]; done) | (rw [if_pos (by omega)]; rfl) | (rw [if_neg (by omega)]; rfl)) (k _ (scr_rf hsh))
set_option maxRecDepth 100000 in
set_option maxHeartbeats 4000000 in
theorem c_X12_gain {d : Nat} {h gg : fwH} {Q : Option fwV → fwH → Prop} (x : Int) (J : cOk gg) (R : jF gg h) (K : jA gg h) (hsh : sc h) (hx : -2147483648 ≤ x ∧ x < 2147483648) (k : ∀ g, scr h g → Q (some (aI (an_gain gg x))) g) : fwCt mX12_gain (d + 6) [aR 12 0, aI x] h Q := by
  refine fwCt_of [some (aR 12 0), some (aI x)] rfl rfl rfl ?_
  obtain ⟨hl, hP, hG, hM0, htd, hut, hlw, hhc, ha, hs, hT, hsc⟩ := id J
  have hb17 : hB (gg 17 0) := fun c hc => by have := hM0 c hc; omega
  obtain ⟨⟨g1, g2⟩, ⟨g3, g4⟩, ⟨g5, g6⟩, g7, -⟩ := id hG
  have h17_99 : ∀ c : Nat, (c : Int) < gg 4 0 1 → gg 17 0 c ≤ 99 := fun c hc => (hM0 c (by omega)).2
  have hpz := hP.1
  have hrs1 := R.2.2.2.2.2.2.2.2.2.2.2
  refine w_aload_n dX12_gain_0 rfl ?_
  refine w_iload_n dX12_gain_1 rfl ?_
  refine w_i2l dX12_gain_2 (by omega) ?_
  refine w_callV (d := d + 5) (S := []) [aJ x] dX12_gain_3 ml_X12_235 ok_X12_isFolk vi_X12_isFolk rfl rfl (by decide) rfl (Nat.le_of_ble_eq_true rfl) ?_
  refine c_X12_isFolk (d := (d + 4)) x J R (by omega) ?_
  show fwWP mX12_gain (d + 6) 6 [some (aR 12 0), some (aI x)] [aI (fwB (0 ≤ x ∧ x ≤ gg 5 0 3 - 1))] h Q
  refine w_ifB_ne 13 dX12_gain_6 (by decide) (fun c6 => ?_) (fun c6 => ?_)
  · refine w_aload_n dX12_gain_13 rfl ?_
    refine w_callV (d := d + 5) (S := []) [] dX12_gain_14 ml_X12_240 ok_X12_asItIs vi_X12_asItIs rfl rfl (by decide) rfl (Nat.le_of_ble_eq_true rfl) ?_
    refine c_X12_asItIs (d := d) J R K (show 1 ≤ gg 4 0 1 by omega) (show 1 ≤ gg 4 0 3 by omega) ?_
    intro A14_2 hA14_2
    show fwWP mX12_gain (d + 6) 17 [some (aR 12 0), some (aI x)] [] (fwUc h 42 0 A14_2) Q
    refine w_aload_n dX12_gain_17 rfl ?_
    refine w_iload_n dX12_gain_18 rfl ?_
    obtain ⟨f, rfl⟩ : ∃ f : Nat, x = (f : Int) := ⟨x.toNat, by omega⟩
    refine w_callV (d := d + 5) (S := []) [aI (f : Int)] dX12_gain_19 ml_X12_232 ok_X12_gainOf vi_X12_gainOf rfl rfl (by decide) rfl (Nat.le_of_ble_eq_true rfl) ?_
    refine c_X12_gainOf (d := (d + 1)) f (gg 17 0) J R hA14_2 hb17 (show 1 ≤ gg 4 0 1 by omega) (show (f : Int) < gg 5 0 3 by omega) ?_
    show fwWP mX12_gain (d + 6) 22 [some (aR 12 0), some (aI (f : Int))] [aI (mGain (gg 4 0 1) (gg 17 0) (gg 4 0 2) (gg 18 0) f)] (fwUc h 42 0 A14_2) Q
    have hgr3 := mGain_r2 J hb17 f (by omega)
    exact w_iretE dX12_gain_22 rfl (by unfold an_gain; first | (rw [if_pos (by omega)]; done) | (rw [if_neg (by omega)]; done) | (rw [if_pos (by omega)]; rfl) | (rw [if_neg (by omega)]; rfl)) (k _ (scr_uc (scr_rf hsh) rfl (by decide) (by decide) (by decide)))
  · refine w_sipush dX12_gain_9 rfl ?_
    exact w_iretE dX12_gain_12 rfl (by unfold an_gain; first | (rw [if_pos (by omega)]; done) | (rw [if_neg (by omega)]; done) | (rw [if_pos (by omega)]; rfl) | (rw [if_neg (by omega)]; rfl)) (k _ (scr_rf hsh))
set_option maxRecDepth 100000 in
set_option maxHeartbeats 4000000 in
theorem c_X12_gains {d : Nat} {h gg : fwH} {Q : Option fwV → fwH → Prop}  (J : cOk gg) (R : jF gg h) (K : jA gg h) (hsh : sc h)  (k : ∀ g, scr h g → Q (some (aI (an_gains gg ))) g) : fwCt mX12_gains (d + 6) [aR 12 0] h Q := by
  refine fwCt_of [some (aR 12 0)] rfl rfl rfl ?_
  obtain ⟨hl, hP, hG, hM0, htd, hut, hlw, hhc, ha, hs, hT, hsc⟩ := id J
  have hb17 : hB (gg 17 0) := fun c hc => by have := hM0 c hc; omega
  obtain ⟨⟨g1, g2⟩, ⟨g3, g4⟩, ⟨g5, g6⟩, g7, -⟩ := id hG
  have h17_99 : ∀ c : Nat, (c : Int) < gg 4 0 1 → gg 17 0 c ≤ 99 := fun c hc => (hM0 c (by omega)).2
  have hpz := hP.1
  have hrs1 := R.2.2.2.2.2.2.2.2.2.2.2
  refine w_aload_n dX12_gains_0 rfl ?_
  refine w_callV (d := d + 5) (S := []) [] dX12_gains_1 ml_X12_73 ok_X12_isMount vi_X12_isMount rfl rfl (by decide) rfl (Nat.le_of_ble_eq_true rfl) ?_
  refine c_X12_isMount (d := (d + 5)) J R ?_
  show fwWP mX12_gains (d + 6) 4 [some (aR 12 0)] [aI (fwB (0 < gg 3 0 6))] h Q
  refine w_ifB_ne 10 dX12_gains_4 (by decide) (fun c4 => ?_) (fun c4 => ?_)
  · refine w_aload_n dX12_gains_10 rfl ?_
    refine w_callV (d := d + 5) (S := []) [] dX12_gains_11 ml_X12_240 ok_X12_asItIs vi_X12_asItIs rfl rfl (by decide) rfl (Nat.le_of_ble_eq_true rfl) ?_
    refine c_X12_asItIs (d := d) J R K (show 1 ≤ gg 4 0 1 by omega) (show 1 ≤ gg 4 0 3 by omega) ?_
    intro A11_2 hA11_2
    show fwWP mX12_gains (d + 6) 14 [some (aR 12 0)] [] (fwUc h 42 0 A11_2) Q
    refine w_aload_n dX12_gains_14 rfl ?_
    refine w_callV (d := d + 5) (S := []) [] dX12_gains_15 ml_X12_251 ok_X12_gainOfAll vi_X12_gainOfAll rfl rfl (by decide) rfl (Nat.le_of_ble_eq_true rfl) ?_
    refine c_X12_gainOfAll (d := d) (gg 17 0) J R hA11_2 hb17 (show 1 ≤ gg 4 0 1 by omega) ?_
    show fwWP mX12_gains (d + 6) 18 [some (aR 12 0)] [aI (mSum (mGain (gg 4 0 1) (gg 17 0) (gg 4 0 2) (gg 18 0)) (gg 5 0 3).toNat)] (fwUc h 42 0 A11_2) Q
    have hga3 := mSum_r2 J hb17 (gg 5 0 3).toNat (by omega)
    exact w_iretE dX12_gains_18 rfl (by unfold an_gains; first | (rw [if_pos (by omega)]; done) | (rw [if_neg (by omega)]; done) | (rw [if_pos (by omega)]; rfl) | (rw [if_neg (by omega)]; rfl)) (k _ (scr_uc (scr_rf hsh) rfl (by decide) (by decide) (by decide)))
  · refine w_bipush dX12_gains_7 rfl ?_
    exact w_iretE dX12_gains_9 rfl (by unfold an_gains; first | (rw [if_pos (by omega)]; done) | (rw [if_neg (by omega)]; done) | (rw [if_pos (by omega)]; rfl) | (rw [if_neg (by omega)]; rfl)) (k _ (scr_rf hsh))
set_option maxRecDepth 100000 in
set_option maxHeartbeats 4000000 in
theorem c_X12_slides {d : Nat} {h gg : fwH} {Q : Option fwV → fwH → Prop} (x : Int) (J : cOk gg) (R : jF gg h) (K : jA gg h) (hsh : sc h) (hx : -2147483648 ≤ x ∧ x < 2147483648) (k : ∀ g, scr h g → Q (some (aI (an_slides gg x))) g) : fwCt mX12_slides (d + 6) [aR 12 0, aI x] h Q := by
  refine fwCt_of [some (aR 12 0), some (aI x)] rfl rfl rfl ?_
  obtain ⟨hl, hP, hG, hM0, htd, hut, hlw, hhc, ha, hs, hT, hsc⟩ := id J
  have hb17 : hB (gg 17 0) := fun c hc => by have := hM0 c hc; omega
  obtain ⟨⟨g1, g2⟩, ⟨g3, g4⟩, ⟨g5, g6⟩, g7, -⟩ := id hG
  have h17_99 : ∀ c : Nat, (c : Int) < gg 4 0 1 → gg 17 0 c ≤ 99 := fun c hc => (hM0 c (by omega)).2
  have hpz := hP.1
  have hrs1 := R.2.2.2.2.2.2.2.2.2.2.2
  refine w_aload_n dX12_slides_0 rfl ?_
  refine w_iload_n dX12_slides_1 rfl ?_
  refine w_i2l dX12_slides_2 (by omega) ?_
  refine w_callV (d := d + 5) (S := []) [aJ x] dX12_slides_3 ml_X12_203 ok_X12_isCell vi_X12_isCell rfl rfl (by decide) rfl (Nat.le_of_ble_eq_true rfl) ?_
  refine c_X12_isCell (d := (d + 4)) x J R (by omega) ?_
  show fwWP mX12_slides (d + 6) 6 [some (aR 12 0), some (aI x)] [aI (fwB (0 ≤ x ∧ x ≤ gg 4 0 1 - 1))] h Q
  refine w_ifB_ne 12 dX12_slides_6 (by decide) (fun c6 => ?_) (fun c6 => ?_)
  · refine w_aload_n dX12_slides_12 rfl ?_
    refine w_callV (d := d + 5) (S := []) [] dX12_slides_13 ml_X12_240 ok_X12_asItIs vi_X12_asItIs rfl rfl (by decide) rfl (Nat.le_of_ble_eq_true rfl) ?_
    refine c_X12_asItIs (d := d) J R K (show 1 ≤ gg 4 0 1 by omega) (show 1 ≤ gg 4 0 3 by omega) ?_
    intro A13_2 hA13_2
    show fwWP mX12_slides (d + 6) 16 [some (aR 12 0), some (aI x)] [] (fwUc h 42 0 A13_2) Q
    refine w_aload_n dX12_slides_16 rfl ?_
    refine w_iload_n dX12_slides_17 rfl ?_
    refine w_callV (d := d + 5) (S := []) [aI x] dX12_slides_18 ml_X12_211 ok_X12_slideOf vi_X12_slideOf rfl rfl (by decide) rfl (Nat.le_of_ble_eq_true rfl) ?_
    refine c_X12_slideOf (d := (d + 2)) x (gg 17 0) J R hA13_2 hb17 h17_99 (show 1 ≤ gg 4 0 3 by omega) (show 0 ≤ x ∧ x < gg 4 0 1 by omega) ?_
    show fwWP mX12_slides (d + 6) 21 [some (aR 12 0), some (aI x)] [aI (mStay (gg 4 0 1) (gg 17 0) (gg 4 0 3) x)] (fwUc h 42 0 A13_2) Q
    have hsr3 := mStay_rng (gg 17 0) (rs := gg 4 0 3) (n := gg 4 0 1) (x := x) (by omega) (by omega)
    exact w_iretE dX12_slides_21 rfl (by unfold an_slides; first | (rw [if_pos (by omega)]; done) | (rw [if_neg (by omega)]; done) | (rw [if_pos (by omega)]; rfl) | (rw [if_neg (by omega)]; rfl)) (k _ (scr_uc (scr_rf hsh) rfl (by decide) (by decide) (by decide)))
  · refine w_bipush dX12_slides_9 rfl ?_
    exact w_iretE dX12_slides_11 rfl (by unfold an_slides; first | (rw [if_pos (by omega)]; done) | (rw [if_neg (by omega)]; done) | (rw [if_pos (by omega)]; rfl) | (rw [if_neg (by omega)]; rfl)) (k _ (scr_rf hsh))

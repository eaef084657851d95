section
theorem fwL_sub (x y : Int) : Int64.ofInt x - Int64.ofInt y = Int64.ofInt (x - y) := by
  apply Int64.toInt_inj.mp
  simp [Int64.toInt_sub, Int64.toInt_ofInt, Int64.size]
theorem fwLdiv_nn {x y : Int} (hx : 0 ≤ x ∧ x < 9223372036854775808) (hy : 0 < y ∧ y < 9223372036854775808) : fwLdiv x y = x / y := by
  unfold fwLdiv
  rw [Int64.toInt_div_of_ne_right, fwL_rt (by omega), fwL_rt (by omega), Int.tdiv_eq_ediv_of_nonneg hx.1]
  intro q
  have q1 := congrArg Int64.toInt q
  rw [fwL_rt (by omega), show (-1 : Int64).toInt = -1 from by decide] at q1
  omega
theorem fwLrem_nn {x y : Int} (hx : 0 ≤ x ∧ x < 9223372036854775808) (hy : 0 < y ∧ y < 9223372036854775808) : fwLrem x y = x % y := by
  have hd := fwLdiv_nn hx hy
  have e : Int64.ofInt x / Int64.ofInt y = Int64.ofInt (x / y) := by
    apply Int64.toInt_inj.mp
    have h1 : 0 ≤ x / y := Int.ediv_nonneg hx.1 (by omega)
    have h2 : x / y ≤ x := Int.ediv_le_self _ hx.1
    rw [fwL_rt (by omega)]
    exact hd
  unfold fwLrem
  have h3 := Int.emod_nonneg x (show y ≠ 0 by omega)
  have h4 := Int.emod_lt_of_pos x hy.1
  have h5 := Int.emod_def x y
  rw [e, fwL_mul, fwL_sub, Int.mul_comm (x / y) y, ← h5, fwL_rt (by omega)]
theorem fwLand_31 {x : Int} (hx : 0 ≤ x ∧ x < 9223372036854775808) : fwLand x 2147483647 = x % 2147483648 := by
  obtain ⟨a, rfl⟩ : ∃ a : Nat, x = a := ⟨x.toNat, by omega⟩
  have e : Int64.ofInt (a : Int) &&& Int64.ofInt 2147483647 = Int64.ofInt ((a % 2147483648 : Nat) : Int) := by
    apply Int64.toBitVec_inj.mp
    rw [Int64.toBitVec_and]
    apply BitVec.eq_of_toNat_eq
    rw [BitVec.toNat_and, Int64.toBitVec_ofInt, Int64.toBitVec_ofInt, Int64.toBitVec_ofInt, BitVec.toNat_ofInt, BitVec.toNat_ofInt, BitVec.toNat_ofInt]
    have h1 : ((a : Int) % ((2 ^ 64 : Nat) : Int)).toNat = a := by omega
    have h2 : ((2147483647 : Int) % ((2 ^ 64 : Nat) : Int)).toNat = 2 ^ 31 - 1 := by decide
    have h3 : (((a % 2147483648 : Nat) : Int) % ((2 ^ 64 : Nat) : Int)).toNat = a % 2 ^ 31 := by omega
    rw [h1, h2, h3, Nat.and_two_pow_sub_one_eq_mod]
  unfold fwLand
  rw [e, fwL_rt (by omega)]
  omega
theorem mNx_eq {x : Int} (hx : 0 ≤ x ∧ x < 2147483648) : fwLrem (1103515245 * x + 12345) 2147483648 = mNx x ∧ 0 ≤ mNx x ∧ mNx x < 2147483648 := by
  unfold mNx
  rw [fwLand_31 (by omega), fwLrem_nn (by omega) (by omega)]
  omega
theorem mDr_1 {h : fwH} {x0 : Int} (hx : 0 ≤ x0 ∧ x0 < 2147483648) : ∀ m : Nat, (0 ≤ (mDr h x0 m).1 ∧ (mDr h x0 m).1 < 2147483648) ∧ 0 ≤ (mDr h x0 m).2.1 ∧ (mDr h x0 m).2.1 ≤ m := by
  intro m
  induction m with
  | zero => rw [mDr]; dsimp only; omega
  | succ m ih =>
    have := (mNx_eq ih.1).2
    rw [mDr]
    split
    · dsimp only; omega
    · dsimp only; omega
theorem mDr_99 {h : fwH} (J : cOk h) (ht : 0 < h 3 0 6) (x0 : Int) : ∀ m : Nat, ∀ c : Nat, c < 10 → 0 ≤ (mDr h x0 m).2.2 c ∧ (mDr h x0 m).2.2 c ≤ 99 := by
  intro m
  induction m with
  | zero => exact J.2.2.2.1
  | succ m ih =>
    rw [mDr]
    split
    · exact mRs_rng J.2.2.1.1 (J.2.2.2.2.2.2.2.1 ht) (by omega) (mLow_rng (by have := J.2.2.1.1; omega) ih)
    · exact ih
theorem mWon_r {h : fwH} (J : cOk h) {x : Int} (hx : 0 ≤ x ∧ x < 2147483648) (hz : 0 < h 5 0 3) : (0 ≤ fwLrem (fwLdiv x 65536) (h 5 0 3) ∧ fwLrem (fwLdiv x 65536) (h 5 0 3) < 8) ∧ 0 ≤ mWon h x ∧ mWon h x < 256 := by
  have h8 := J.2.1.1
  have h1 : fwLdiv x 65536 = x / 65536 := fwLdiv_nn (by omega) (by omega)
  have h2 : fwLrem (x / 65536) (h 5 0 3) = (x / 65536) % (h 5 0 3) := fwLrem_nn (by omega) (by omega)
  have h3 := Int.emod_nonneg (x / 65536) (show h 5 0 3 ≠ 0 by omega)
  have h4 := Int.emod_lt_of_pos (x / 65536) hz
  unfold mWon
  rw [h1, h2]
  refine ⟨by omega, ?_⟩
  obtain ⟨n, en⟩ : ∃ n : Nat, (x / 65536) % (h 5 0 3) = n := ⟨((x / 65536) % (h 5 0 3)).toNat, by omega⟩
  rw [en]
  exact shl_7 (by omega)
set_option maxRecDepth 100000 in
set_option maxHeartbeats 4000000 in
theorem c_goM0 {d : Nat} {h gg : fwH} {Q : Option fwV → fwH → Prop} (x : Int) (m : Nat) (J : cOk gg) (R : jF gg h) (K : jA gg h) (ht : 0 < gg 3 0 6) (hz : gg 5 0 3 = 0) (hm : m ≤ 100) (k : ∀ A, hiR (gg 4 0 1) A (gg 17 0) → Q (some (aI 0)) (fwUc h 42 0 A)) : fwCt mX12_goMonths (d + 6) [aR 12 0, aJ x, aI (m : Int)] h Q := by
  refine fwCt_of [some (aR 12 0), some (aJ x), none, some (aI (m : Int)), none, none, none, none, none] rfl rfl rfl ?_
  obtain ⟨hl, hP, hG, hM0, htd, hut, hlw, hhc, ha, hs, hT, hsc⟩ := id J
  have hb17 : hB (gg 17 0) := fun c hc => by have := hM0 c hc; omega
  obtain ⟨⟨g1, g2⟩, ⟨g3, g4⟩, ⟨g5, g6⟩, g7, -⟩ := id hG
  have h17_99 : ∀ c : Nat, (c : Int) < gg 4 0 1 → gg 17 0 c ≤ 99 := fun c hc => (hM0 c (by omega)).2
  have hpz := hP.1
  have hrs1 := R.2.2.2.2.2.2.2.2.2.2.2
  refine w_aload_n dX12_goMonths_0 rfl ?_
  refine w_callV (d := d + 5) (S := []) [] dX12_goMonths_1 ml_X12_240 ok_X12_asItIs vi_X12_asItIs rfl rfl (by decide) rfl (Nat.le_of_ble_eq_true rfl) ?_
  refine c_X12_asItIs (d := d) J R K (show 1 ≤ gg 4 0 1 by omega) (show 1 ≤ gg 4 0 3 by omega) ?_
  intro A1_1 hA1_1
  show fwWP mX12_goMonths (d + 6) 4 [some (aR 12 0), some (aJ x), none, some (aI (m : Int)), none, none, none, none, none] [] (fwUc h 42 0 A1_1) Q
  refine w_lload_n dX12_goMonths_4 rfl ?_
  refine w_lstore [some (aR 12 0), some (aJ x), none, some (aI (m : Int)), some (aJ x), none, none, none, none] dX12_goMonths_5 rfl (by decide) ?_
  refine w_iconst dX12_goMonths_7 ?_
  refine w_istore [some (aR 12 0), some (aJ x), none, some (aI (m : Int)), some (aJ x), none, some (aI 0), none, none] dX12_goMonths_8 rfl (by decide) ?_
  refine w_iconst dX12_goMonths_10 ?_
  refine w_istore [some (aR 12 0), some (aJ x), none, some (aI (m : Int)), some (aJ x), none, some (aI 0), some (aI 0), none] dX12_goMonths_11 rfl (by decide) ?_
  have lp13 : ∀ c : Nat, c ≤ m → ∀ (y13 : Int) (A13 : Nat → Int), y13 = (c : Int) → hiR (gg 4 0 1) A13 (gg 17 0) → fwWP mX12_goMonths (d + 6) 13 [some (aR 12 0), some (aJ x), none, some (aI (m : Int)), some (aJ x), none, some (aI 0), some (aI y13), none] [] (fwUc h 42 0 A13) Q := by
    refine fw_up (fun c hc13 ih13 => ?_)
    intro y13 A13 ey13 hA13
    subst ey13
    show fwWP mX12_goMonths (d + 6) 13 [some (aR 12 0), some (aJ x), none, some (aI (m : Int)), some (aJ x), none, some (aI 0), some (aI (c : Int)), none] [] (fwUc h 42 0 A13) Q
    refine w_iload dX12_goMonths_13 rfl ?_
    refine w_iload_n dX12_goMonths_15 rfl ?_
    refine w_icmp_ge 117 dX12_goMonths_16 (by decide) (by omega) (by omega) (fun c16 => ?_) (fun c16 => ?_)
    · have ec13 : m = c := by omega
      subst ec13
      refine w_iload dX12_goMonths_117 rfl ?_
      exact w_iret dX12_goMonths_119 rfl (k _ hA13)
    · refine w_iconst dX12_goMonths_19 ?_
      refine w_istore [some (aR 12 0), some (aJ x), none, some (aI (m : Int)), some (aJ x), none, some (aI 0), some (aI (c : Int)), some (aI 0)] dX12_goMonths_20 rfl (by decide) ?_
      refine w_aload_n dX12_goMonths_22 rfl ?_
      refine w_getr 36 0 dX12_goMonths_23 fl_X12_9 rfl (by decide) ?_
      refine w_bipush dX12_goMonths_26 rfl ?_
      refine w_ialdE (v := gg 5 0 3) dX12_goMonths_28 rfl (by decide) (by omega) (by omega) R.2.2.2.2.2.2.1 ?_
      refine w_if_le 68 dX12_goMonths_29 (by decide) (by omega) (fun c29 => ?_) (fun c29 => ?_)
      · refine w_aload_n dX12_goMonths_68 rfl ?_
        refine w_aload_n dX12_goMonths_69 rfl ?_
        refine w_aload_n dX12_goMonths_70 rfl ?_
        refine w_callV (d := d + 5) (S := [aR 12 0, aR 12 0]) [] dX12_goMonths_71 ml_X12_263 ok_X12_willingSet vi_X12_willingSet rfl rfl (by decide) rfl (Nat.le_of_ble_eq_true rfl) ?_
        refine c_X12_willingSet (d := d) (gg 17 0) J R hA13 hb17 (show 1 ≤ gg 4 0 1 by omega) ?_
        intro A71_4 hA71_4
        show fwWP mX12_goMonths (d + 6) 74 [some (aR 12 0), some (aJ x), none, some (aI (m : Int)), some (aJ x), none, some (aI 0), some (aI (c : Int)), some (aI 0)] [aI (mGers (gg 4 0 1) (gg 17 0) (gg 4 0 2) (gg 4 0 4) (gg 18 0) (gg 5 0 3).toNat (-1)), aR 12 0, aR 12 0] (fwUc (fwUc h 42 0 A13) 42 0 A71_4) Q
        rw [show (fwUc (fwUc h 42 0 A13) 42 0 A71_4) = (fwUc h 42 0 A71_4) from by funext a b; simp only [fwUc]; (repeat' split); all_goals first | rfl | (exfalso; omega)]
        have hwr4 := mGers_r (gg 4 0 1) (gg 17 0) (gg 4 0 2) (gg 4 0 4) (gg 18 0) (m := (gg 5 0 3).toNat) (-1) (by omega)
        have hw8_5 := mGers_8 (gg 4 0 1) (gg 17 0) (gg 4 0 2) (gg 4 0 4) (gg 18 0) (m := (gg 5 0 3).toNat) (-1) (by omega)
        change fwWP _ _ _ _ (aI (mWil gg 0) :: _) _ _
        have hw8 : 0 ≤ mWil gg 0 ∧ mWil gg 0 < 256 := hw8_5
        refine w_iload dX12_goMonths_74 rfl ?_
        refine w_ior dX12_goMonths_76 ?_
        have ho8 := or_rg hw8 (y := 0) (by omega)
        refine w_iconst dX12_goMonths_77 ?_
        refine w_callV (d := d + 5) (S := [aR 12 0]) [aI (fwOr (mWil gg 0) 0), aI 0] dX12_goMonths_78 ml_X12_270 ok_X12_signing vi_X12_signing rfl rfl (by decide) rfl (Nat.le_of_ble_eq_true rfl) ?_
        refine c_sgE (d := (d + 4)) (fwOr (mWil gg 0) 0) 0 J R (by omega) (by omega) ?_
        show fwWP mX12_goMonths (d + 6) 81 [some (aR 12 0), some (aJ x), none, some (aI (m : Int)), some (aJ x), none, some (aI 0), some (aI (c : Int)), some (aI 0)] [aI (mSign (gg 18 0) (gg 5 0 3).toNat (fwOr (mWil gg 0) 0) 0), aR 12 0] (fwUc h 42 0 A71_4) Q
        have hno : ¬ gg 3 0 4 ≤ mNames (gg 18 0) (mSign (gg 18 0) (gg 5 0 3).toNat (fwOr (mWil gg 0) 0) 0) (gg 5 0 3).toNat := by rw [show (gg 5 0 3).toNat = 0 by omega]; show ¬ gg 3 0 4 ≤ 0; omega
        refine w_callV (d := d + 5) (S := []) [aI (mSign (gg 18 0) (gg 5 0 3).toNat (fwOr (mWil gg 0) 0) 0)] dX12_goMonths_81 ml_X12_273 ok_X12_isEnough vi_X12_isEnough rfl rfl (by decide) rfl (Nat.le_of_ble_eq_true rfl) ?_
        refine c_X12_isEnough (d := (d + 3)) (mSign (gg 18 0) (gg 5 0 3).toNat (fwOr (mWil gg 0) 0) 0) J R ?_
        show fwWP mX12_goMonths (d + 6) 84 [some (aR 12 0), some (aJ x), none, some (aI (m : Int)), some (aJ x), none, some (aI 0), some (aI (c : Int)), some (aI 0)] [aI (fwB (gg 3 0 4 ≤ mNames (gg 18 0) (mSign (gg 18 0) (gg 5 0 3).toNat (fwOr (mWil gg 0) 0) 0) (gg 5 0 3).toNat))] (fwUc h 42 0 A71_4) Q
        refine w_ifB_eq 111 dX12_goMonths_84 (by decide) (fun c84 => ?_) (fun c84 => ?_)
        · refine w_iinc [some (aR 12 0), some (aJ x), none, some (aI (m : Int)), some (aJ x), none, some (aI 0), some (aI ((c : Int) + 1)), some (aI 0)] dX12_goMonths_111 rfl rfl (by decide) ?_
          refine w_goto 13 dX12_goMonths_114 (by decide) ?_
          refine w_drop [8] [some (aR 12 0), some (aJ x), none, some (aI (m : Int)), some (aJ x), none, some (aI 0), some (aI ((c : Int) + 1)), none] rfl ?_
          refine ih13 (by omega) _ _ ?_ ?_
          · exact (by omega)
          · exact hA71_4
        · exact absurd c84 hno
      · (exfalso; omega)
  have z13 := lp13 0 (Nat.zero_le _) _ A1_1 (by exact (show 0 = ((0 : Nat) : Int) by omega))  hA1_1
  exact z13
set_option maxRecDepth 100000 in
set_option maxHeartbeats 4000000 in
theorem c_goM1 {d : Nat} {h gg : fwH} {Q : Option fwV → fwH → Prop} (x : Int) (m : Nat) (J : cOk gg) (R : jF gg h) (K : jA gg h) (ht : 0 < gg 3 0 6) (hz : 0 < gg 5 0 3) (hm : m ≤ 100) (hx : 0 ≤ x ∧ x < 2147483648) (k : ∀ A, hiR (gg 4 0 1) A (mDr gg x m).2.2 → Q (some (aI (mDr gg x m).2.1)) (fwUc h 42 0 A)) : fwCt mX12_goMonths (d + 6) [aR 12 0, aJ x, aI (m : Int)] h Q := by
  refine fwCt_of [some (aR 12 0), some (aJ x), none, some (aI (m : Int)), none, none, none, none, none] rfl rfl rfl ?_
  obtain ⟨hl, hP, hG, hM0, htd, hut, hlw, hhc, ha, hs, hT, hsc⟩ := id J
  have hb17 : hB (gg 17 0) := fun c hc => by have := hM0 c hc; omega
  obtain ⟨⟨g1, g2⟩, ⟨g3, g4⟩, ⟨g5, g6⟩, g7, -⟩ := id hG
  have h17_99 : ∀ c : Nat, (c : Int) < gg 4 0 1 → gg 17 0 c ≤ 99 := fun c hc => (hM0 c (by omega)).2
  have hpz := hP.1
  have hrs1 := R.2.2.2.2.2.2.2.2.2.2.2
  have hhc1 := hhc ht
  refine w_aload_n dX12_goMonths_0 rfl ?_
  refine w_callV (d := d + 5) (S := []) [] dX12_goMonths_1 ml_X12_240 ok_X12_asItIs vi_X12_asItIs rfl rfl (by decide) rfl (Nat.le_of_ble_eq_true rfl) ?_
  refine c_X12_asItIs (d := d) J R K (show 1 ≤ gg 4 0 1 by omega) (show 1 ≤ gg 4 0 3 by omega) ?_
  intro A1_1 hA1_1
  show fwWP mX12_goMonths (d + 6) 4 [some (aR 12 0), some (aJ x), none, some (aI (m : Int)), none, none, none, none, none] [] (fwUc h 42 0 A1_1) Q
  refine w_lload_n dX12_goMonths_4 rfl ?_
  refine w_lstore [some (aR 12 0), some (aJ x), none, some (aI (m : Int)), some (aJ x), none, none, none, none] dX12_goMonths_5 rfl (by decide) ?_
  refine w_iconst dX12_goMonths_7 ?_
  refine w_istore [some (aR 12 0), some (aJ x), none, some (aI (m : Int)), some (aJ x), none, some (aI 0), none, none] dX12_goMonths_8 rfl (by decide) ?_
  refine w_iconst dX12_goMonths_10 ?_
  refine w_istore [some (aR 12 0), some (aJ x), none, some (aI (m : Int)), some (aJ x), none, some (aI 0), some (aI 0), none] dX12_goMonths_11 rfl (by decide) ?_
  have lp13 : ∀ c : Nat, c ≤ m → ∀ (y13 xv fv : Int) (A13 : Nat → Int), y13 = (c : Int) → xv = (mDr gg x c).1 → fv = (mDr gg x c).2.1 → hiR (gg 4 0 1) A13 (mDr gg x c).2.2 → fwWP mX12_goMonths (d + 6) 13 [some (aR 12 0), some (aJ x), none, some (aI (m : Int)), some (aJ xv), none, some (aI fv), some (aI y13), none] [] (fwUc h 42 0 A13) Q := by
    refine fw_up (fun c hc13 ih13 => ?_)
    intro y13 xv fv A13 ey13 e_xv e_fv hA13
    subst ey13
    subst e_xv
    subst e_fv
    show fwWP mX12_goMonths (d + 6) 13 [some (aR 12 0), some (aJ x), none, some (aI (m : Int)), some (aJ ((mDr gg x c).1)), none, some (aI ((mDr gg x c).2.1)), some (aI (c : Int)), none] [] (fwUc h 42 0 A13) Q
    refine w_iload dX12_goMonths_13 rfl ?_
    refine w_iload_n dX12_goMonths_15 rfl ?_
    refine w_icmp_ge 117 dX12_goMonths_16 (by decide) (by omega) (by omega) (fun c16 => ?_) (fun c16 => ?_)
    · have ec13 : m = c := by omega
      subst ec13
      refine w_iload dX12_goMonths_117 rfl ?_
      exact w_iret dX12_goMonths_119 rfl (k _ hA13)
    · have hb9 := mDr_99 J ht x c
      have hbl : hB (mDr gg x c).2.2 := fun c2 hc2 => by have := hb9 c2 hc2; omega
      have hd1 := mDr_1 (h := gg) hx c
      have hnx := mNx_eq hd1.1
      have hwn := mWon_r J hnx.2 hz
      refine w_iconst dX12_goMonths_19 ?_
      refine w_istore [some (aR 12 0), some (aJ x), none, some (aI (m : Int)), some (aJ ((mDr gg x c).1)), none, some (aI ((mDr gg x c).2.1)), some (aI (c : Int)), some (aI 0)] dX12_goMonths_20 rfl (by decide) ?_
      refine w_aload_n dX12_goMonths_22 rfl ?_
      refine w_getr 36 0 dX12_goMonths_23 fl_X12_9 rfl (by decide) ?_
      refine w_bipush dX12_goMonths_26 rfl ?_
      refine w_ialdE (v := gg 5 0 3) dX12_goMonths_28 rfl (by decide) (by omega) (by omega) R.2.2.2.2.2.2.1 ?_
      refine w_if_le 68 dX12_goMonths_29 (by decide) (by omega) (fun c29 => ?_) (fun c29 => ?_)
      · (exfalso; omega)
      · refine w_ldc2 (n := 1103515245) dX12_goMonths_32 cs_X12_390 ?_
        refine w_lload dX12_goMonths_35 rfl ?_
        refine w_lmul dX12_goMonths_37 ?_
        refine w_ldc2 (n := 12345) dX12_goMonths_38 cs_X12_392 ?_
        refine w_ladd dX12_goMonths_41 ?_
        refine w_ldc2 (n := 2147483648) dX12_goMonths_42 cs_X12_394 ?_
        refine w_lrem dX12_goMonths_45 (by omega) (by omega) ?_
        rw [hnx.1]
        refine w_lstore [some (aR 12 0), some (aJ x), none, some (aI (m : Int)), some (aJ (mNx (mDr gg x c).1)), none, some (aI ((mDr gg x c).2.1)), some (aI (c : Int)), some (aI 0)] dX12_goMonths_46 rfl (by decide) ?_
        refine w_iconst dX12_goMonths_48 ?_
        refine w_lload dX12_goMonths_49 rfl ?_
        refine w_ldc2 (n := 65536) dX12_goMonths_51 cs_X12_396 ?_
        refine w_ldiv dX12_goMonths_54 (by omega) (by omega) ?_
        refine w_aload_n dX12_goMonths_55 rfl ?_
        refine w_getr 36 0 dX12_goMonths_56 fl_X12_9 rfl (by decide) ?_
        refine w_bipush dX12_goMonths_59 rfl ?_
        refine w_ialdE (v := gg 5 0 3) dX12_goMonths_61 rfl (by decide) (by omega) (by omega) R.2.2.2.2.2.2.1 ?_
        refine w_i2l dX12_goMonths_62 (by omega) ?_
        refine w_lrem dX12_goMonths_63 (by omega) (by omega) ?_
        refine w_l2i dX12_goMonths_64 ?_
        refine w_ishl dX12_goMonths_65 ?_
        change fwWP _ _ _ _ [aI (mWon gg (mNx (mDr gg x c).1))] _ _
        refine w_istore [some (aR 12 0), some (aJ x), none, some (aI (m : Int)), some (aJ (mNx (mDr gg x c).1)), none, some (aI ((mDr gg x c).2.1)), some (aI (c : Int)), some (aI (mWon gg (mNx (mDr gg x c).1)))] dX12_goMonths_66 rfl (by decide) ?_
        refine w_aload_n dX12_goMonths_68 rfl ?_
        refine w_aload_n dX12_goMonths_69 rfl ?_
        refine w_aload_n dX12_goMonths_70 rfl ?_
        refine w_callV (d := d + 5) (S := [aR 12 0, aR 12 0]) [] dX12_goMonths_71 ml_X12_263 ok_X12_willingSet vi_X12_willingSet rfl rfl (by decide) rfl (Nat.le_of_ble_eq_true rfl) ?_
        refine c_X12_willingSet (d := d) (mDr gg x c).2.2 J R hA13 hbl (show 1 ≤ gg 4 0 1 by omega) ?_
        intro A71_4 hA71_4
        show fwWP mX12_goMonths (d + 6) 74 [some (aR 12 0), some (aJ x), none, some (aI (m : Int)), some (aJ (mNx (mDr gg x c).1)), none, some (aI ((mDr gg x c).2.1)), some (aI (c : Int)), some (aI (mWon gg (mNx (mDr gg x c).1)))] [aI (mGers (gg 4 0 1) (mDr gg x c).2.2 (gg 4 0 2) (gg 4 0 4) (gg 18 0) (gg 5 0 3).toNat (-1)), aR 12 0, aR 12 0] (fwUc (fwUc h 42 0 A13) 42 0 A71_4) Q
        rw [show (fwUc (fwUc h 42 0 A13) 42 0 A71_4) = (fwUc h 42 0 A71_4) from by funext a b; simp only [fwUc]; (repeat' split); all_goals first | rfl | (exfalso; omega)]
        have hwr4 := mGers_r (gg 4 0 1) (mDr gg x c).2.2 (gg 4 0 2) (gg 4 0 4) (gg 18 0) (m := (gg 5 0 3).toNat) (-1) (by omega)
        have hw8_5 := mGers_8 (gg 4 0 1) (mDr gg x c).2.2 (gg 4 0 2) (gg 4 0 4) (gg 18 0) (m := (gg 5 0 3).toNat) (-1) (by omega)
        refine w_iload dX12_goMonths_74 rfl ?_
        have ho8 := or_rg (x := mGers (gg 4 0 1) (mDr gg x c).2.2 (gg 4 0 2) (gg 4 0 4) (gg 18 0) (gg 5 0 3).toNat (-1)) (y := mWon gg (mNx (mDr gg x c).1)) (by omega) (by omega)
        refine w_ior dX12_goMonths_76 ?_
        refine w_iconst dX12_goMonths_77 ?_
        refine w_callV (d := d + 5) (S := [aR 12 0]) [aI (fwOr (mGers (gg 4 0 1) (mDr gg x c).2.2 (gg 4 0 2) (gg 4 0 4) (gg 18 0) (gg 5 0 3).toNat (-1)) (mWon gg (mNx (mDr gg x c).1))), aI 0] dX12_goMonths_78 ml_X12_270 ok_X12_signing vi_X12_signing rfl rfl (by decide) rfl (Nat.le_of_ble_eq_true rfl) ?_
        refine c_sgE (d := (d + 4)) (fwOr (mGers (gg 4 0 1) (mDr gg x c).2.2 (gg 4 0 2) (gg 4 0 4) (gg 18 0) (gg 5 0 3).toNat (-1)) (mWon gg (mNx (mDr gg x c).1))) 0 J R (by omega) (by omega) ?_
        show fwWP mX12_goMonths (d + 6) 81 [some (aR 12 0), some (aJ x), none, some (aI (m : Int)), some (aJ (mNx (mDr gg x c).1)), none, some (aI ((mDr gg x c).2.1)), some (aI (c : Int)), some (aI (mWon gg (mNx (mDr gg x c).1)))] [aI (mSign (gg 18 0) (gg 5 0 3).toNat (fwOr (mGers (gg 4 0 1) (mDr gg x c).2.2 (gg 4 0 2) (gg 4 0 4) (gg 18 0) (gg 5 0 3).toNat (-1)) (mWon gg (mNx (mDr gg x c).1))) 0), aR 12 0] (fwUc h 42 0 A71_4) Q
        refine w_callV (d := d + 5) (S := []) [aI (mSign (gg 18 0) (gg 5 0 3).toNat (fwOr (mGers (gg 4 0 1) (mDr gg x c).2.2 (gg 4 0 2) (gg 4 0 4) (gg 18 0) (gg 5 0 3).toNat (-1)) (mWon gg (mNx (mDr gg x c).1))) 0)] dX12_goMonths_81 ml_X12_273 ok_X12_isEnough vi_X12_isEnough rfl rfl (by decide) rfl (Nat.le_of_ble_eq_true rfl) ?_
        refine c_X12_isEnough (d := (d + 3)) (mSign (gg 18 0) (gg 5 0 3).toNat (fwOr (mGers (gg 4 0 1) (mDr gg x c).2.2 (gg 4 0 2) (gg 4 0 4) (gg 18 0) (gg 5 0 3).toNat (-1)) (mWon gg (mNx (mDr gg x c).1))) 0) J R ?_
        show fwWP mX12_goMonths (d + 6) 84 [some (aR 12 0), some (aJ x), none, some (aI (m : Int)), some (aJ (mNx (mDr gg x c).1)), none, some (aI ((mDr gg x c).2.1)), some (aI (c : Int)), some (aI (mWon gg (mNx (mDr gg x c).1)))] [aI (fwB (gg 3 0 4 ≤ mNames (gg 18 0) (mSign (gg 18 0) (gg 5 0 3).toNat (fwOr (mGers (gg 4 0 1) (mDr gg x c).2.2 (gg 4 0 2) (gg 4 0 4) (gg 18 0) (gg 5 0 3).toNat (-1)) (mWon gg (mNx (mDr gg x c).1))) 0) (gg 5 0 3).toNat))] (fwUc h 42 0 A71_4) Q
        refine w_ifB_eq 111 dX12_goMonths_84 (by decide) (fun c84 => ?_) (fun c84 => ?_)
        · refine w_iinc [some (aR 12 0), some (aJ x), none, some (aI (m : Int)), some (aJ (mNx (mDr gg x c).1)), none, some (aI ((mDr gg x c).2.1)), some (aI ((c : Int) + 1)), some (aI (mWon gg (mNx (mDr gg x c).1)))] dX12_goMonths_111 rfl rfl (by decide) ?_
          refine w_goto 13 dX12_goMonths_114 (by decide) ?_
          refine w_drop [8] [some (aR 12 0), some (aJ x), none, some (aI (m : Int)), some (aJ (mNx (mDr gg x c).1)), none, some (aI ((mDr gg x c).2.1)), some (aI ((c : Int) + 1)), none] rfl ?_
          refine ih13 (by omega) _ _ _ _ ?_ ?_ ?_ ?_
          · exact (by omega)
          · exact (by rw [mDr.eq_2, if_neg (show ¬ mDrOk gg (mNx (mDr gg x c).1) (mDr gg x c).2.2 = true from fun q0 => c84 (of_decide_eq_true q0).1)])
          · exact (by rw [mDr.eq_2, if_neg (show ¬ mDrOk gg (mNx (mDr gg x c).1) (mDr gg x c).2.2 = true from fun q0 => c84 (of_decide_eq_true q0).1)])
          · exact (by rw [mDr.eq_2, if_neg (show ¬ mDrOk gg (mNx (mDr gg x c).1) (mDr gg x c).2.2 = true from fun q0 => c84 (of_decide_eq_true q0).1)]; exact hA71_4)
        · refine w_aload_n dX12_goMonths_87 rfl ?_
          refine w_callV (d := d + 5) (S := []) [] dX12_goMonths_88 ml_X12_194 ok_X12_take0 vi_X12_take0 rfl rfl (by decide) rfl (Nat.le_of_ble_eq_true rfl) ?_
          refine c_X12_take0 (d := (d + 4)) (mDr gg x c).2.2 J R hA71_4 hbl (show 1 ≤ gg 4 0 1 by omega) ?_
          intro A88_7 hA88_7
          show fwWP mX12_goMonths (d + 6) 91 [some (aR 12 0), some (aJ x), none, some (aI (m : Int)), some (aJ (mNx (mDr gg x c).1)), none, some (aI ((mDr gg x c).2.1)), some (aI (c : Int)), some (aI (mWon gg (mNx (mDr gg x c).1)))] [aI (fwB (0 < (gg 4 0 1).toNat ∧ (mDr gg x c).2.2 (mTop (mDr gg x c).2.2 (gg 4 0 4) (gg 4 0 1).toNat).toNat ≠ 0))] (fwUc (fwUc h 42 0 A71_4) 42 0 A88_7) Q
          rw [show (fwUc (fwUc h 42 0 A71_4) 42 0 A88_7) = (fwUc h 42 0 A88_7) from by funext a b; simp only [fwUc]; (repeat' split); all_goals first | rfl | (exfalso; omega)]
          refine w_ifB_ne 97 dX12_goMonths_91 (by decide) (fun c91 => ?_) (fun c91 => ?_)
          · have h99 : ∀ c2 : Nat, (c2 : Int) < gg 4 0 1 → mLow (gg 4 0 1).toNat (mDr gg x c).2.2 (gg 4 0 4) c2 ≤ 99 := fun c2 hc2 => (mLow_rng (by omega) hb9 c2 (by omega)).2
            have hbl2 : hB (mLow (gg 4 0 1).toNat (mDr gg x c).2.2 (gg 4 0 4)) := mLow_rng (by omega) hbl
            refine w_iinc [some (aR 12 0), some (aJ x), none, some (aI (m : Int)), some (aJ (mNx (mDr gg x c).1)), none, some (aI (((mDr gg x c).2.1) + 1)), some (aI (c : Int)), some (aI (mWon gg (mNx (mDr gg x c).1)))] dX12_goMonths_97 rfl rfl (by decide) ?_
            refine w_aload_n dX12_goMonths_100 rfl ?_
            refine w_aload_n dX12_goMonths_101 rfl ?_
            refine w_getr 36 0 dX12_goMonths_102 fl_X12_9 rfl (by decide) ?_
            refine w_iconst dX12_goMonths_105 ?_
            refine w_ialdE (v := gg 3 0 5) dX12_goMonths_106 rfl (by decide) (by omega) (by omega) R.2.2.2.2.2.1 ?_
            refine w_callV (d := d + 5) (S := []) [aI (gg 3 0 5)] dX12_goMonths_107 ml_X12_197 ok_X12_heap0 vi_X12_heap0 rfl rfl (by decide) rfl (Nat.le_of_ble_eq_true rfl) ?_
            refine c_X12_heap0 (d := (d + 1)) (gg 3 0 5) (mLow (gg 4 0 1).toNat (mDr gg x c).2.2 (gg 4 0 4)) J R hA88_7 hbl2 h99 (show 1 ≤ gg 4 0 3 by omega) (show 0 ≤ (gg 3 0 5) ∧ (gg 3 0 5) < gg 4 0 1 by omega) ?_
            intro A107_9 hA107_9
            show fwWP mX12_goMonths (d + 6) 110 [some (aR 12 0), some (aJ x), none, some (aI (m : Int)), some (aJ (mNx (mDr gg x c).1)), none, some (aI (((mDr gg x c).2.1) + 1)), some (aI (c : Int)), some (aI (mWon gg (mNx (mDr gg x c).1)))] [aI (mStay (gg 4 0 1) (mLow (gg 4 0 1).toNat (mDr gg x c).2.2 (gg 4 0 4)) (gg 4 0 3) (gg 3 0 5))] (fwUc (fwUc h 42 0 A88_7) 42 0 A107_9) Q
            rw [show (fwUc (fwUc h 42 0 A88_7) 42 0 A107_9) = (fwUc h 42 0 A107_9) from by funext a b; simp only [fwUc]; (repeat' split); all_goals first | rfl | (exfalso; omega)]
            refine w_pop dX12_goMonths_110 rfl ?_
            refine w_iinc [some (aR 12 0), some (aJ x), none, some (aI (m : Int)), some (aJ (mNx (mDr gg x c).1)), none, some (aI (((mDr gg x c).2.1) + 1)), some (aI ((c : Int) + 1)), some (aI (mWon gg (mNx (mDr gg x c).1)))] dX12_goMonths_111 rfl rfl (by decide) ?_
            refine w_goto 13 dX12_goMonths_114 (by decide) ?_
            refine w_drop [8] [some (aR 12 0), some (aJ x), none, some (aI (m : Int)), some (aJ (mNx (mDr gg x c).1)), none, some (aI (((mDr gg x c).2.1) + 1)), some (aI ((c : Int) + 1)), none] rfl ?_
            refine ih13 (by omega) _ _ _ _ ?_ ?_ ?_ ?_
            · exact (by omega)
            · exact (by rw [mDr.eq_2, if_pos (show mDrOk gg (mNx (mDr gg x c).1) (mDr gg x c).2.2 = true from decide_eq_true ⟨c84, c91⟩)])
            · exact (by rw [mDr.eq_2, if_pos (show mDrOk gg (mNx (mDr gg x c).1) (mDr gg x c).2.2 = true from decide_eq_true ⟨c84, c91⟩)])
            · exact (by rw [mDr.eq_2, if_pos (show mDrOk gg (mNx (mDr gg x c).1) (mDr gg x c).2.2 = true from decide_eq_true ⟨c84, c91⟩)]; exact hA107_9)
          · refine w_goto 111 dX12_goMonths_94 (by decide) ?_
            refine w_iinc [some (aR 12 0), some (aJ x), none, some (aI (m : Int)), some (aJ (mNx (mDr gg x c).1)), none, some (aI ((mDr gg x c).2.1)), some (aI ((c : Int) + 1)), some (aI (mWon gg (mNx (mDr gg x c).1)))] dX12_goMonths_111 rfl rfl (by decide) ?_
            refine w_goto 13 dX12_goMonths_114 (by decide) ?_
            refine w_drop [8] [some (aR 12 0), some (aJ x), none, some (aI (m : Int)), some (aJ (mNx (mDr gg x c).1)), none, some (aI ((mDr gg x c).2.1)), some (aI ((c : Int) + 1)), none] rfl ?_
            refine ih13 (by omega) _ _ _ _ ?_ ?_ ?_ ?_
            · exact (by omega)
            · exact (by rw [mDr.eq_2, if_neg (show ¬ mDrOk gg (mNx (mDr gg x c).1) (mDr gg x c).2.2 = true from fun q0 => c91 (of_decide_eq_true q0).2)])
            · exact (by rw [mDr.eq_2, if_neg (show ¬ mDrOk gg (mNx (mDr gg x c).1) (mDr gg x c).2.2 = true from fun q0 => c91 (of_decide_eq_true q0).2)])
            · exact (by rw [mDr.eq_2, if_neg (show ¬ mDrOk gg (mNx (mDr gg x c).1) (mDr gg x c).2.2 = true from fun q0 => c91 (of_decide_eq_true q0).2)]; have z0 : hiR (gg 4 0 1) _ (mLow (gg 4 0 1).toNat (mDr gg x c).2.2 (gg 4 0 4)) := hA88_7; rw [show mLow (gg 4 0 1).toNat (mDr gg x c).2.2 (gg 4 0 4) = (mDr gg x c).2.2 from if_neg c91] at z0; exact z0)
  have z13 := lp13 0 (Nat.zero_le _) _ _ _ A1_1 (by exact (show 0 = ((0 : Nat) : Int) by omega)) (by exact (show x = (mDr gg x 0).1 from rfl)) (by exact (show 0 = (mDr gg x 0).2.1 from rfl)) hA1_1
  exact z13
end
section
theorem c_goM {d : Nat} {h gg : fwH} {Q : Option fwV → fwH → Prop} (x : Int) (m : Nat) (J : cOk gg) (R : jF gg h) (K : jA gg h) (ht : 0 < gg 3 0 6) (hm : m ≤ 100) (hx : 0 ≤ x ∧ x < 2147483648) (k : ∀ A, hiR (gg 4 0 1) A (mDrawn gg x m).2 → Q (some (aI (mDrawn gg x m).1)) (fwUc h 42 0 A)) : fwCt mX12_goMonths (d + 6) [aR 12 0, aJ x, aI (m : Int)] h Q := by
  have hz := J.2.1.1
  unfold mDrawn at k
  by_cases e : gg 5 0 3 < 1
  · rw [if_pos e] at k
    exact c_goM0 x m J R K ht (by omega) hm k
  · rw [if_neg e] at k
    exact c_goM1 x m J R K ht (by omega) hm hx k
theorem mDrawn_99 {h : fwH} (J : cOk h) (ht : 0 < h 3 0 6) (x0 : Int) (m : Nat) : hB (mDrawn h x0 m).2 := by
  unfold mDrawn
  split
  · exact fun c hc => by have := J.2.2.2.1 c hc; exact ⟨this.1, by show h 17 0 c ≤ 1000; omega⟩
  · exact fun c hc => by have := mDr_99 J ht x0 m c hc; omega
set_option maxRecDepth 100000 in
set_option maxHeartbeats 4000000 in
theorem c_X12_drawn {d : Nat} {h gg : fwH} {Q : Option fwV → fwH → Prop} (x : Int) (y : Int) (z : Int) (J : cOk gg) (R : jF gg h) (K : jA gg h) (hsh : sc h) (hx : -2147483648 ≤ x ∧ x < 2147483648) (hy : -2147483648 ≤ y ∧ y < 2147483648) (hz : -2147483648 ≤ z ∧ z < 2147483648) (k : ∀ g, scr h g → Q (some (aI (an_drawn gg x y z))) g) : fwCt mX12_drawn (d + 7) [aR 12 0, aI x, aI y, aI z] h Q := by
  refine fwCt_of [some (aR 12 0), some (aI x), some (aI y), some (aI z), none] rfl rfl rfl ?_
  obtain ⟨hl, hP, hG, hM0, htd, hut, hlw, hhc, ha, hs, hT, hsc⟩ := id J
  have hb17 : hB (gg 17 0) := fun c hc => by have := hM0 c hc; omega
  obtain ⟨⟨g1, g2⟩, ⟨g3, g4⟩, ⟨g5, g6⟩, g7, -⟩ := id hG
  have h17_99 : ∀ c : Nat, (c : Int) < gg 4 0 1 → gg 17 0 c ≤ 99 := fun c hc => (hM0 c (by omega)).2
  have hpz := hP.1
  have hrs1 := R.2.2.2.2.2.2.2.2.2.2.2
  refine w_aload_n dX12_drawn_0 rfl ?_
  refine w_iload_n dX12_drawn_1 rfl ?_
  refine w_iload_n dX12_drawn_2 rfl ?_
  refine w_callV (d := d + 6) (S := []) [aI x, aI y] dX12_drawn_3 ml_X12_400 ok_X12_areMonths vi_X12_areMonths rfl rfl (by decide) rfl (Nat.le_of_ble_eq_true rfl) ?_
  refine c_X12_areMonths (d := (d + 5)) x y J R (by omega) (by omega) ?_
  show fwWP mX12_drawn (d + 7) 6 [some (aR 12 0), some (aI x), some (aI y), some (aI z), none] [aI (fwB (0 < gg 3 0 6 ∧ (0 ≤ x ∧ x ≤ 2000000000) ∧ 0 ≤ y ∧ y ≤ 40))] h Q
  refine w_ifB_eq 21 dX12_drawn_6 (by decide) (fun c6 => ?_) (fun c6 => ?_)
  · refine w_bipush dX12_drawn_21 rfl ?_
    exact w_iretE dX12_drawn_23 rfl (by unfold an_drawn; first | (rw [if_neg (by omega)]; done) | (rw [if_pos (by omega), if_pos (by omega)]; rfl) | (rw [if_pos (by omega), if_neg (by omega), if_pos (by omega)]; show _ = mMax (mDrawn gg x u).2 _; rw [mMax_top (ls := gg 4 0 4) (gg 4 0 1).toNat (by omega) (fun c hc => (mDrawn_99 J (by omega) x u c (by omega)).1)]; done) | (rw [if_pos (by omega), if_neg (by omega), if_neg (by omega)]; rfl)) (k _ (scr_rf hsh))
  · refine w_iload_n dX12_drawn_9 rfl ?_
    refine w_i2l dX12_drawn_10 (by omega) ?_
    refine w_lconst (z := 0) dX12_drawn_11 rfl ?_
    refine w_ldc2 (n := 2) dX12_drawn_12 cs_X12_63 ?_
    refine w_callS (d := d + 6) (S := []) [aJ z, aJ 0, aJ 2] dX12_drawn_15 ml_X12_65 ok_X12_in st_X12_in rfl (Nat.le_of_ble_eq_true rfl) ?_
    refine c_X12_in (d := (d + 6)) z 0 2 (by omega) (by omega) (by omega) ?_
    show fwWP mX12_drawn (d + 7) 18 [some (aR 12 0), some (aI x), some (aI y), some (aI z), none] [aI (fwB (0 ≤ z ∧ z ≤ 2))] h Q
    refine w_ifB_ne 24 dX12_drawn_18 (by decide) (fun c18 => ?_) (fun c18 => ?_)
    · obtain ⟨u, rfl⟩ : ∃ u : Nat, y = (u : Int) := ⟨y.toNat, by omega⟩
      refine w_aload_n dX12_drawn_24 rfl ?_
      refine w_iload_n dX12_drawn_25 rfl ?_
      refine w_i2l dX12_drawn_26 (by omega) ?_
      refine w_iload_n dX12_drawn_27 rfl ?_
      refine w_callV (d := d + 6) (S := []) [aJ x, aI (u : Int)] dX12_drawn_28 ml_X12_403 ok_X12_goMonths vi_X12_goMonths rfl rfl (by decide) rfl (Nat.le_of_ble_eq_true rfl) ?_
      refine c_goM (d := d) x u J R K (show 0 < gg 3 0 6 by omega) (by omega) (by omega) ?_
      intro A28_3 hA28_3
      show fwWP mX12_drawn (d + 7) 31 [some (aR 12 0), some (aI x), some (aI (u : Int)), some (aI z), none] [aI ((mDrawn gg x u).1)] (fwUc h 42 0 A28_3) Q
      have hdr3 := mDrawn_rng gg x u
      refine w_istore [some (aR 12 0), some (aI x), some (aI (u : Int)), some (aI z), some (aI ((mDrawn gg x u).1))] dX12_drawn_31 rfl (by decide) ?_
      refine w_iload_n dX12_drawn_33 rfl ?_
      refine w_if_ne 42 dX12_drawn_34 (by decide) (by omega) (fun c34 => ?_) (fun c34 => ?_)
      · refine w_iload_n dX12_drawn_42 rfl ?_
        refine w_iconst dX12_drawn_43 ?_
        refine w_icmp_ne 59 dX12_drawn_44 (by decide) (by omega) (by omega) (fun c44 => ?_) (fun c44 => ?_)
        · refine w_aload_n dX12_drawn_59 rfl ?_
          refine w_callV (d := d + 6) (S := []) [] dX12_drawn_60 ml_X12_251 ok_X12_gainOfAll vi_X12_gainOfAll rfl rfl (by decide) rfl (Nat.le_of_ble_eq_true rfl) ?_
          refine c_X12_gainOfAll (d := (d + 1)) (mDrawn gg x u).2 J R hA28_3 (mDrawn_99 J (by omega) x u) (show 1 ≤ gg 4 0 1 by omega) ?_
          show fwWP mX12_drawn (d + 7) 63 [some (aR 12 0), some (aI x), some (aI (u : Int)), some (aI z), some (aI ((mDrawn gg x u).1))] [aI (mSum (mGain (gg 4 0 1) (mDrawn gg x u).2 (gg 4 0 2) (gg 18 0)) (gg 5 0 3).toNat)] (fwUc h 42 0 A28_3) Q
          have hga6 := mSum_r2 J (mDrawn_99 J (by omega) x u) (gg 5 0 3).toNat (by omega)
          exact w_iretE dX12_drawn_63 rfl (by unfold an_drawn; first | (rw [if_neg (by omega)]; done) | (rw [if_pos (by omega), if_pos (by omega)]; rfl) | (rw [if_pos (by omega), if_neg (by omega), if_pos (by omega)]; show _ = mMax (mDrawn gg x u).2 _; rw [mMax_top (ls := gg 4 0 4) (gg 4 0 1).toNat (by omega) (fun c hc => (mDrawn_99 J (by omega) x u c (by omega)).1)]; done) | (rw [if_pos (by omega), if_neg (by omega), if_neg (by omega)]; rfl)) (k _ (scr_uc (scr_rf hsh) rfl (by decide) (by decide) (by decide)))
        · refine w_aload_n dX12_drawn_47 rfl ?_
          refine w_getr 42 0 dX12_drawn_48 fl_X12_34 rfl (by decide) ?_
          refine w_aload_n dX12_drawn_51 rfl ?_
          refine w_callV (d := d + 6) (S := [aR 42 0]) [] dX12_drawn_52 ml_X12_200 ok_X12_topCell vi_X12_topCell rfl rfl (by decide) rfl (Nat.le_of_ble_eq_true rfl) ?_
          refine c_X12_topCell (d := (d + 6)) (mDrawn gg x u).2 J R hA28_3 (mDrawn_99 J (by omega) x u) (show 1 ≤ gg 4 0 1 by omega) ?_
          show fwWP mX12_drawn (d + 7) 55 [some (aR 12 0), some (aI x), some (aI (u : Int)), some (aI z), some (aI ((mDrawn gg x u).1))] [aI (mTop (mDrawn gg x u).2 (gg 4 0 4) (gg 4 0 1).toNat), aR 42 0] (fwUc h 42 0 A28_3) Q
          have htp7 := mTop_r2 (mDrawn gg x u).2 (gg 4 0 4) (gg 4 0 1).toNat (by omega)
          refine w_ialdE (v := (mDrawn gg x u).2 (mTop (mDrawn gg x u).2 (gg 4 0 4) (gg 4 0 1).toNat).toNat) dX12_drawn_55 rfl (by decide) (by omega) (by omega) (hA28_3 _ (by omega)) ?_
          refine w_goto 63 dX12_drawn_56 (by decide) ?_
          exact w_iretE dX12_drawn_63 rfl (by unfold an_drawn; first | (rw [if_neg (by omega)]; done) | (rw [if_pos (by omega), if_pos (by omega)]; rfl) | (rw [if_pos (by omega), if_neg (by omega), if_pos (by omega)]; show _ = mMax (mDrawn gg x u).2 _; rw [mMax_top (ls := gg 4 0 4) (gg 4 0 1).toNat (by omega) (fun c hc => (mDrawn_99 J (by omega) x u c (by omega)).1)]; done) | (rw [if_pos (by omega), if_neg (by omega), if_neg (by omega)]; rfl)) (k _ (scr_uc (scr_rf hsh) rfl (by decide) (by decide) (by decide)))
      · refine w_iload dX12_drawn_37 rfl ?_
        refine w_goto 63 dX12_drawn_39 (by decide) ?_
        exact w_iretE dX12_drawn_63 rfl (by unfold an_drawn; first | (rw [if_neg (by omega)]; done) | (rw [if_pos (by omega), if_pos (by omega)]; rfl) | (rw [if_pos (by omega), if_neg (by omega), if_pos (by omega)]; show _ = mMax (mDrawn gg x u).2 _; rw [mMax_top (ls := gg 4 0 4) (gg 4 0 1).toNat (by omega) (fun c hc => (mDrawn_99 J (by omega) x u c (by omega)).1)]; done) | (rw [if_pos (by omega), if_neg (by omega), if_neg (by omega)]; rfl)) (k _ (scr_uc (scr_rf hsh) rfl (by decide) (by decide) (by decide)))
    · refine w_bipush dX12_drawn_21 rfl ?_
      exact w_iretE dX12_drawn_23 rfl (by unfold an_drawn; first | (rw [if_neg (by omega)]; done) | (rw [if_pos (by omega), if_pos (by omega)]; rfl) | (rw [if_pos (by omega), if_neg (by omega), if_pos (by omega)]; show _ = mMax (mDrawn gg x u).2 _; rw [mMax_top (ls := gg 4 0 4) (gg 4 0 1).toNat (by omega) (fun c hc => (mDrawn_99 J (by omega) x u c (by omega)).1)]; done) | (rw [if_pos (by omega), if_neg (by omega), if_neg (by omega)]; rfl)) (k _ (scr_rf hsh))
set_option maxRecDepth 100000 in
set_option maxHeartbeats 4000000 in
theorem c_X12_luck {d : Nat} {h gg : fwH} {Q : Option fwV → fwH → Prop} (x : Int) (y : Int) (z : Int) (J : cOk gg) (R : jF gg h) (K : jA gg h) (hsh : sc h) (hx : -2147483648 ≤ x ∧ x < 2147483648) (hy : -2147483648 ≤ y ∧ y < 2147483648) (hz : -2147483648 ≤ z ∧ z < 2147483648) (k : ∀ g, scr h g → Q (some (aI (an_luck gg x y z))) g) : fwCt mX12_luck (d + 7) [aR 12 0, aI x, aI y, aI z] h Q := by
  refine fwCt_of [some (aR 12 0), some (aI x), some (aI y), some (aI z), none, none] rfl rfl rfl ?_
  obtain ⟨hl, hP, hG, hM0, htd, hut, hlw, hhc, ha, hs, hT, hsc⟩ := id J
  have hb17 : hB (gg 17 0) := fun c hc => by have := hM0 c hc; omega
  obtain ⟨⟨g1, g2⟩, ⟨g3, g4⟩, ⟨g5, g6⟩, g7, -⟩ := id hG
  have h17_99 : ∀ c : Nat, (c : Int) < gg 4 0 1 → gg 17 0 c ≤ 99 := fun c hc => (hM0 c (by omega)).2
  have hpz := hP.1
  have hrs1 := R.2.2.2.2.2.2.2.2.2.2.2
  refine w_aload_n dX12_luck_0 rfl ?_
  refine w_iload_n dX12_luck_1 rfl ?_
  refine w_iload_n dX12_luck_2 rfl ?_
  refine w_callV (d := d + 6) (S := []) [aI x, aI z] dX12_luck_3 ml_X12_400 ok_X12_areMonths vi_X12_areMonths rfl rfl (by decide) rfl (Nat.le_of_ble_eq_true rfl) ?_
  refine c_X12_areMonths (d := (d + 5)) x z J R (by omega) (by omega) ?_
  show fwWP mX12_luck (d + 7) 6 [some (aR 12 0), some (aI x), some (aI y), some (aI z), none, none] [aI (fwB (0 < gg 3 0 6 ∧ (0 ≤ x ∧ x ≤ 2000000000) ∧ 0 ≤ z ∧ z ≤ 40))] h Q
  refine w_ifB_eq 21 dX12_luck_6 (by decide) (fun c6 => ?_) (fun c6 => ?_)
  · refine w_bipush dX12_luck_21 rfl ?_
    exact w_iretE dX12_luck_23 rfl (by unfold an_luck; first | (rw [if_neg (by omega)]; done) | (rw [if_pos (by omega)]; rfl)) (k _ (scr_rf hsh))
  · refine w_iload_n dX12_luck_9 rfl ?_
    refine w_i2l dX12_luck_10 (by omega) ?_
    refine w_lconst (z := 1) dX12_luck_11 rfl ?_
    refine w_ldc2 (n := 20) dX12_luck_12 cs_X12_246 ?_
    refine w_callS (d := d + 6) (S := []) [aJ y, aJ 1, aJ 20] dX12_luck_15 ml_X12_65 ok_X12_in st_X12_in rfl (Nat.le_of_ble_eq_true rfl) ?_
    refine c_X12_in (d := (d + 6)) y 1 20 (by omega) (by omega) (by omega) ?_
    show fwWP mX12_luck (d + 7) 18 [some (aR 12 0), some (aI x), some (aI y), some (aI z), none, none] [aI (fwB (1 ≤ y ∧ y ≤ 20))] h Q
    refine w_ifB_ne 24 dX12_luck_18 (by decide) (fun c18 => ?_) (fun c18 => ?_)
    · obtain ⟨m, rfl⟩ : ∃ m : Nat, y = (m : Int) := ⟨y.toNat, by omega⟩
      obtain ⟨u, rfl⟩ : ∃ u : Nat, z = (u : Int) := ⟨z.toNat, by omega⟩
      refine w_iconst dX12_luck_24 ?_
      refine w_istore [some (aR 12 0), some (aI x), some (aI (m : Int)), some (aI (u : Int)), some (aI 0), none] dX12_luck_25 rfl (by decide) ?_
      refine w_iconst dX12_luck_27 ?_
      refine w_istore [some (aR 12 0), some (aI x), some (aI (m : Int)), some (aI (u : Int)), some (aI 0), some (aI 0)] dX12_luck_28 rfl (by decide) ?_
      have lp30 : ∀ c : Nat, c ≤ m → ∀ (y30 lv : Int) (A30 : Nat → Int), y30 = (c : Int) → lv = mLuck gg x u c → fwWP mX12_luck (d + 7) 30 [some (aR 12 0), some (aI x), some (aI (m : Int)), some (aI (u : Int)), some (aI lv), some (aI y30)] [] (fwUc h 42 0 A30) Q := by
        refine fw_up (fun c hc30 ih30 => ?_)
        intro y30 lv A30 ey30 e_lv
        subst ey30
        subst e_lv
        show fwWP mX12_luck (d + 7) 30 [some (aR 12 0), some (aI x), some (aI (m : Int)), some (aI (u : Int)), some (aI (mLuck gg x u c)), some (aI (c : Int))] [] (fwUc h 42 0 A30) Q
        refine w_iload dX12_luck_30 rfl ?_
        refine w_iload_n dX12_luck_32 rfl ?_
        refine w_icmp_ge 66 dX12_luck_33 (by decide) (by omega) (by omega) (fun c33 => ?_) (fun c33 => ?_)
        · have ec30 : m = c := by omega
          subst ec30
          refine w_iload dX12_luck_66 rfl ?_
          exact w_iretE dX12_luck_68 rfl (by unfold an_luck; first | (rw [if_neg (by omega)]; done) | (rw [if_pos (by omega)]; rfl)) (k _ (scr_uc (scr_rf hsh) rfl (by decide) (by decide) (by decide)))
        · have hlk := mLuck_rng gg x u c
          refine w_iload dX12_luck_36 rfl ?_
          refine w_aload_n dX12_luck_38 rfl ?_
          refine w_iload_n dX12_luck_39 rfl ?_
          refine w_i2l dX12_luck_40 (by omega) ?_
          refine w_iload dX12_luck_41 rfl ?_
          refine w_i2l dX12_luck_43 (by omega) ?_
          refine w_ladd dX12_luck_44 ?_
          refine w_iload_n dX12_luck_45 rfl ?_
          refine w_callV (d := d + 6) (S := [aI (mLuck gg x u c)]) [aJ (x + (c : Int)), aI (u : Int)] dX12_luck_46 ml_X12_403 ok_X12_goMonths vi_X12_goMonths rfl rfl (by decide) rfl (Nat.le_of_ble_eq_true rfl) ?_
          refine c_goM (d := d) (x + (c : Int)) u J R K (show 0 < gg 3 0 6 by omega) (by omega) (by omega) ?_
          intro A46_4 hA46_4
          show fwWP mX12_luck (d + 7) 49 [some (aR 12 0), some (aI x), some (aI (m : Int)), some (aI (u : Int)), some (aI (mLuck gg x u c)), some (aI (c : Int))] [aI ((mDrawn gg (x + (c : Int)) u).1), aI (mLuck gg x u c)] (fwUc (fwUc h 42 0 A30) 42 0 A46_4) Q
          rw [show (fwUc (fwUc h 42 0 A30) 42 0 A46_4) = (fwUc h 42 0 A46_4) from by funext a b; simp only [fwUc]; (repeat' split); all_goals first | rfl | (exfalso; omega)]
          have hdr4 := mDrawn_rng gg (x + (c : Int)) u
          refine w_if_le 56 dX12_luck_49 (by decide) (by omega) (fun c49 => ?_) (fun c49 => ?_)
          · refine w_iconst dX12_luck_56 ?_
            refine w_iadd dX12_luck_57 ?_
            refine w_istore [some (aR 12 0), some (aI x), some (aI (m : Int)), some (aI (u : Int)), some (aI ((mLuck gg x u c) + 0)), some (aI (c : Int))] dX12_luck_58 rfl (by decide) ?_
            refine w_iinc [some (aR 12 0), some (aI x), some (aI (m : Int)), some (aI (u : Int)), some (aI ((mLuck gg x u c) + 0)), some (aI ((c : Int) + 1))] dX12_luck_60 rfl rfl (by decide) ?_
            refine w_goto 30 dX12_luck_63 (by decide) ?_
            refine ih30 (by omega) _ _ _ ?_ ?_
            · exact (by omega)
            · exact (by rw [mLuck, if_neg (by omega)]; omega)
          · refine w_iconst dX12_luck_52 ?_
            refine w_goto 57 dX12_luck_53 (by decide) ?_
            refine w_iadd dX12_luck_57 ?_
            refine w_istore [some (aR 12 0), some (aI x), some (aI (m : Int)), some (aI (u : Int)), some (aI ((mLuck gg x u c) + 1)), some (aI (c : Int))] dX12_luck_58 rfl (by decide) ?_
            refine w_iinc [some (aR 12 0), some (aI x), some (aI (m : Int)), some (aI (u : Int)), some (aI ((mLuck gg x u c) + 1)), some (aI ((c : Int) + 1))] dX12_luck_60 rfl rfl (by decide) ?_
            refine w_goto 30 dX12_luck_63 (by decide) ?_
            refine ih30 (by omega) _ _ _ ?_ ?_
            · exact (by omega)
            · exact (by rw [mLuck, if_pos (by omega)])
      have z30 := lp30 0 (Nat.zero_le _) _ _ (h 42 0) (by exact (show 0 = ((0 : Nat) : Int) by omega)) (by exact (show 0 = mLuck gg x u 0 from rfl))
      rw [fwUc_self] at z30
      exact z30
    · refine w_bipush dX12_luck_21 rfl ?_
      exact w_iretE dX12_luck_23 rfl (by unfold an_luck; first | (rw [if_neg (by omega)]; done) | (rw [if_pos (by omega)]; rfl)) (k _ (scr_rf hsh))
end
section
set_option maxRecDepth 100000 in
set_option maxHeartbeats 4000000 in
theorem c_X12_tell {d : Nat} {h gg : fwH} {Q : Option fwV → fwH → Prop} (x : Int) (J : cOk gg) (R : jF gg h) (K : jA gg h) (hx : -2147483648 ≤ x ∧ x < 2147483648) (k : (¬ (0 < gg 3 0 6 ∧ 1 ≤ x ∧ x ≤ 999) → Q (some (aI (-2))) h) ∧ ((0 < gg 3 0 6 ∧ 1 ≤ x ∧ x ≤ 999) → 0 < gg 3 0 3 → Q (some (aI (-5))) h) ∧ ((0 < gg 3 0 6 ∧ 1 ≤ x ∧ x ≤ 999) → ¬ 0 < gg 3 0 3 → Q (some (aI (gg 3 0 4))) (fwUp h 36 0 3 x))) : fwCt mX12_tell (d + 2) [aR 12 0, aI x] h Q := by
  refine fwCt_of [some (aR 12 0), some (aI x), none] rfl rfl rfl ?_
  obtain ⟨hl, hP, hG, hM0, htd, hut, hlw, hhc, ha, hs, hT, hsc⟩ := id J
  have hb17 : hB (gg 17 0) := fun c hc => by have := hM0 c hc; omega
  obtain ⟨⟨g1, g2⟩, ⟨g3, g4⟩, ⟨g5, g6⟩, g7, -⟩ := id hG
  have h17_99 : ∀ c : Nat, (c : Int) < gg 4 0 1 → gg 17 0 c ≤ 99 := fun c hc => (hM0 c (by omega)).2
  have hpz := hP.1
  have hrs1 := R.2.2.2.2.2.2.2.2.2.2.2
  refine w_aload_n dX12_tell_0 rfl ?_
  refine w_iload_n dX12_tell_1 rfl ?_
  refine w_callV (d := d + 1) (S := []) [aI x] dX12_tell_2 ml_X12_349 ok_X12_isLaw vi_X12_isLaw rfl rfl (by decide) rfl (Nat.le_of_ble_eq_true rfl) ?_
  refine c_X12_isLaw (d := d) x J R (by omega) ?_
  show fwWP mX12_tell (d + 2) 5 [some (aR 12 0), some (aI x), none] [aI (fwB (0 < gg 3 0 6 ∧ 1 ≤ x ∧ x ≤ 999))] h Q
  refine w_ifB_ne 11 dX12_tell_5 (by decide) (fun c5 => ?_) (fun c5 => ?_)
  · refine w_aload_n dX12_tell_11 rfl ?_
    refine w_getr 36 0 dX12_tell_12 fl_X12_9 rfl (by decide) ?_
    refine w_bipush dX12_tell_15 rfl ?_
    refine w_ialdE (v := gg 3 0 3) dX12_tell_17 rfl (by decide) (by omega) (by omega) R.2.2.2.2.2.2.2.2.1 ?_
    refine w_if_le 24 dX12_tell_18 (by decide) (by omega) (fun c18 => ?_) (fun c18 => ?_)
    · refine w_aload_n dX12_tell_24 rfl ?_
      refine w_getr 36 0 dX12_tell_25 fl_X12_9 rfl (by decide) ?_
      refine w_iconst dX12_tell_28 ?_
      refine w_ialdE (v := gg 3 0 4) dX12_tell_29 rfl (by decide) (by omega) (by omega) R.2.2.2.1 ?_
      refine w_istore_n [some (aR 12 0), some (aI x), some (aI (gg 3 0 4))] dX12_tell_30 rfl (by decide) ?_
      refine w_aload_n dX12_tell_31 rfl ?_
      refine w_getr 36 0 dX12_tell_32 fl_X12_9 rfl (by decide) ?_
      refine w_iconst dX12_tell_35 ?_
      refine w_iload_n dX12_tell_36 rfl ?_
      refine w_iast dX12_tell_37 rfl (by decide) (by omega) (by omega) ?_
      refine w_iload_n dX12_tell_38 rfl ?_
      exact w_iretE dX12_tell_39 rfl rfl (k.2.2 (by omega) (by omega))
    · refine w_bipush dX12_tell_21 rfl ?_
      exact w_iretE dX12_tell_23 rfl rfl (k.2.1 (by omega) (by omega))
  · refine w_bipush dX12_tell_8 rfl ?_
    exact w_iretE dX12_tell_10 rfl rfl (k.1 (by omega))
set_option maxRecDepth 100000 in
set_option maxHeartbeats 4000000 in
theorem c_X12_likes {d : Nat} {h gg : fwH} {Q : Option fwV → fwH → Prop} (x : Int) (y : Int) (z : Int) (J : cOk gg) (R : jF gg h) (K : jA gg h) (hx : -2147483648 ≤ x ∧ x < 2147483648) (hy : -2147483648 ≤ y ∧ y < 2147483648) (hz : -2147483648 ≤ z ∧ z < 2147483648) (k : (¬ ((0 ≤ x ∧ x < gg 5 0 3) ∧ (0 ≤ y ∧ y ≤ 2) ∧ 0 ≤ z ∧ z ≤ 9) → Q (some (aI (-2))) h) ∧ (((0 ≤ x ∧ x < gg 5 0 3) ∧ (0 ≤ y ∧ y ≤ 2) ∧ 0 ≤ z ∧ z ≤ 9) → 0 < gg 3 0 3 → Q (some (aI (-5))) h) ∧ (((0 ≤ x ∧ x < gg 5 0 3) ∧ (0 ≤ y ∧ y ≤ 2) ∧ 0 ≤ z ∧ z ≤ 9) → ¬ 0 < gg 3 0 3 → Q (some (aI (gg 18 0 (7 * x.toNat + (2 + y.toNat))))) (fwUp h 36 0 (19 + (7 * x.toNat + (2 + y.toNat))) z))) : fwCt mX12_likes (d + 2) [aR 12 0, aI x, aI y, aI z] h Q := by
  refine fwCt_of [some (aR 12 0), some (aI x), some (aI y), some (aI z), none, none] rfl rfl rfl ?_
  obtain ⟨hl, hP, hG, hM0, htd, hut, hlw, hhc, ha, hs, hT, hsc⟩ := id J
  have hb17 : hB (gg 17 0) := fun c hc => by have := hM0 c hc; omega
  obtain ⟨⟨g1, g2⟩, ⟨g3, g4⟩, ⟨g5, g6⟩, g7, -⟩ := id hG
  have h17_99 : ∀ c : Nat, (c : Int) < gg 4 0 1 → gg 17 0 c ≤ 99 := fun c hc => (hM0 c (by omega)).2
  have hpz := hP.1
  have hrs1 := R.2.2.2.2.2.2.2.2.2.2.2
  refine w_aload_n dX12_likes_0 rfl ?_
  refine w_iload_n dX12_likes_1 rfl ?_
  refine w_i2l dX12_likes_2 (by omega) ?_
  refine w_callV (d := d + 1) (S := []) [aJ x] dX12_likes_3 ml_X12_235 ok_X12_isFolk vi_X12_isFolk rfl rfl (by decide) rfl (Nat.le_of_ble_eq_true rfl) ?_
  refine c_X12_isFolk (d := d) x J R (by omega) ?_
  show fwWP mX12_likes (d + 2) 6 [some (aR 12 0), some (aI x), some (aI y), some (aI z), none, none] [aI (fwB (0 ≤ x ∧ x ≤ gg 5 0 3 - 1))] h Q
  refine w_ifB_eq 33 dX12_likes_6 (by decide) (fun c6 => ?_) (fun c6 => ?_)
  · refine w_bipush dX12_likes_33 rfl ?_
    exact w_iretE dX12_likes_35 rfl rfl (k.1 (by omega))
  · refine w_iload_n dX12_likes_9 rfl ?_
    refine w_i2l dX12_likes_10 (by omega) ?_
    refine w_lconst (z := 0) dX12_likes_11 rfl ?_
    refine w_ldc2 (n := 2) dX12_likes_12 cs_X12_63 ?_
    refine w_callS (d := d + 1) (S := []) [aJ y, aJ 0, aJ 2] dX12_likes_15 ml_X12_65 ok_X12_in st_X12_in rfl (Nat.le_of_ble_eq_true rfl) ?_
    refine c_X12_in (d := (d + 1)) y 0 2 (by omega) (by omega) (by omega) ?_
    show fwWP mX12_likes (d + 2) 18 [some (aR 12 0), some (aI x), some (aI y), some (aI z), none, none] [aI (fwB (0 ≤ y ∧ y ≤ 2))] h Q
    refine w_ifB_eq 33 dX12_likes_18 (by decide) (fun c18 => ?_) (fun c18 => ?_)
    · refine w_bipush dX12_likes_33 rfl ?_
      exact w_iretE dX12_likes_35 rfl rfl (k.1 (by omega))
    · refine w_iload_n dX12_likes_21 rfl ?_
      refine w_i2l dX12_likes_22 (by omega) ?_
      refine w_lconst (z := 0) dX12_likes_23 rfl ?_
      refine w_ldc2 (n := 9) dX12_likes_24 cs_X12_71 ?_
      refine w_callS (d := d + 1) (S := []) [aJ z, aJ 0, aJ 9] dX12_likes_27 ml_X12_65 ok_X12_in st_X12_in rfl (Nat.le_of_ble_eq_true rfl) ?_
      refine c_X12_in (d := (d + 1)) z 0 9 (by omega) (by omega) (by omega) ?_
      show fwWP mX12_likes (d + 2) 30 [some (aR 12 0), some (aI x), some (aI y), some (aI z), none, none] [aI (fwB (0 ≤ z ∧ z ≤ 9))] h Q
      refine w_ifB_ne 36 dX12_likes_30 (by decide) (fun c30 => ?_) (fun c30 => ?_)
      · refine w_aload_n dX12_likes_36 rfl ?_
        refine w_getr 36 0 dX12_likes_37 fl_X12_9 rfl (by decide) ?_
        refine w_bipush dX12_likes_40 rfl ?_
        refine w_ialdE (v := gg 3 0 3) dX12_likes_42 rfl (by decide) (by omega) (by omega) R.2.2.2.2.2.2.2.2.1 ?_
        refine w_if_le 49 dX12_likes_43 (by decide) (by omega) (fun c43 => ?_) (fun c43 => ?_)
        · obtain ⟨f, rfl⟩ : ∃ f : Nat, x = (f : Int) := ⟨x.toNat, by omega⟩
          obtain ⟨u, rfl⟩ : ∃ u : Nat, y = (u : Int) := ⟨y.toNat, by omega⟩
          refine w_bipush dX12_likes_49 rfl ?_
          refine w_bipush dX12_likes_51 rfl ?_
          refine w_iload_n dX12_likes_53 rfl ?_
          refine w_imul dX12_likes_54 ?_
          refine w_iadd dX12_likes_55 ?_
          refine w_iconst dX12_likes_56 ?_
          refine w_iadd dX12_likes_57 ?_
          refine w_iload_n dX12_likes_58 rfl ?_
          refine w_iadd dX12_likes_59 ?_
          refine w_istore [some (aR 12 0), some (aI (f : Int)), some (aI (u : Int)), some (aI z), some (aI (((19 + (7 * (f : Int))) + 2) + (u : Int))), none] dX12_likes_60 rfl (by decide) ?_
          refine w_aload_n dX12_likes_62 rfl ?_
          refine w_getr 36 0 dX12_likes_63 fl_X12_9 rfl (by decide) ?_
          refine w_iload dX12_likes_66 rfl ?_
          refine w_ialdE (v := gg 18 0 (7 * f + (2 + u))) dX12_likes_68 rfl (by decide) (by omega) (by omega) (by rw [show ((((19 + (7 * (f : Int))) + 2) + (u : Int)).toNat) = 19 + (7 * f + (2 + u)) by omega]; exact R.2.2.2.2.2.2.2.2.2.1 _ (by omega)) ?_
          refine w_istore [some (aR 12 0), some (aI (f : Int)), some (aI (u : Int)), some (aI z), some (aI (((19 + (7 * (f : Int))) + 2) + (u : Int))), some (aI (gg 18 0 (7 * f + (2 + u))))] dX12_likes_69 rfl (by decide) ?_
          refine w_aload_n dX12_likes_71 rfl ?_
          refine w_getr 36 0 dX12_likes_72 fl_X12_9 rfl (by decide) ?_
          refine w_iload dX12_likes_75 rfl ?_
          refine w_iload_n dX12_likes_77 rfl ?_
          refine w_iast dX12_likes_78 rfl (by decide) (by omega) (by omega) ?_
          refine w_iload dX12_likes_79 rfl ?_
          rw [show ((((19 + (7 * (f : Int))) + 2) + (u : Int)).toNat) = 19 + (7 * f + (2 + u)) by omega]
          exact w_iretE dX12_likes_81 rfl rfl (k.2.2 (by omega) (by omega))
        · refine w_bipush dX12_likes_46 rfl ?_
          exact w_iretE dX12_likes_48 rfl rfl (k.2.1 (by omega) (by omega))
      · refine w_bipush dX12_likes_33 rfl ?_
        exact w_iretE dX12_likes_35 rfl rfl (k.1 (by omega))
set_option maxRecDepth 100000 in
set_option maxHeartbeats 4000000 in
theorem c_X12_undo {d : Nat} {h gg : fwH} {Q : Option fwV → fwH → Prop}  (J : cOk gg) (R : jF gg h) (K : jA gg h)  (k : (¬ 0 < gg 3 0 6 → Q (some (aI (-2))) h) ∧ (0 < gg 3 0 6 → ¬ 0 < gg 3 0 3 → Q (some (aI (-5))) h) ∧ (0 < gg 3 0 6 → 0 < gg 3 0 3 → Q (some (aI (gg 3 0 3 - 1))) (fwUp h 36 0 8 (gg 3 0 3 - 1)))) : fwCt mX12_undo (d + 1) [aR 12 0] h Q := by
  refine fwCt_of [some (aR 12 0)] rfl rfl rfl ?_
  obtain ⟨hl, hP, hG, hM0, htd, hut, hlw, hhc, ha, hs, hT, hsc⟩ := id J
  have hb17 : hB (gg 17 0) := fun c hc => by have := hM0 c hc; omega
  obtain ⟨⟨g1, g2⟩, ⟨g3, g4⟩, ⟨g5, g6⟩, g7, -⟩ := id hG
  have h17_99 : ∀ c : Nat, (c : Int) < gg 4 0 1 → gg 17 0 c ≤ 99 := fun c hc => (hM0 c (by omega)).2
  have hpz := hP.1
  have hrs1 := R.2.2.2.2.2.2.2.2.2.2.2
  refine w_aload_n dX12_undo_0 rfl ?_
  refine w_callV (d := d + 0) (S := []) [] dX12_undo_1 ml_X12_73 ok_X12_isMount vi_X12_isMount rfl rfl (by decide) rfl (Nat.le_of_ble_eq_true rfl) ?_
  refine c_X12_isMount (d := d) J R ?_
  show fwWP mX12_undo (d + 1) 4 [some (aR 12 0)] [aI (fwB (0 < gg 3 0 6))] h Q
  refine w_ifB_ne 10 dX12_undo_4 (by decide) (fun c4 => ?_) (fun c4 => ?_)
  · refine w_aload_n dX12_undo_10 rfl ?_
    refine w_getr 36 0 dX12_undo_11 fl_X12_9 rfl (by decide) ?_
    refine w_bipush dX12_undo_14 rfl ?_
    refine w_ialdE (v := gg 3 0 3) dX12_undo_16 rfl (by decide) (by omega) (by omega) R.2.2.2.2.2.2.2.2.1 ?_
    refine w_if_ne 23 dX12_undo_17 (by decide) (by omega) (fun c17 => ?_) (fun c17 => ?_)
    · refine w_aload_n dX12_undo_23 rfl ?_
      refine w_getr 36 0 dX12_undo_24 fl_X12_9 rfl (by decide) ?_
      refine w_bipush dX12_undo_27 rfl ?_
      refine w_dup2 dX12_undo_29 rfl rfl ?_
      refine w_ialdE (v := gg 3 0 3) dX12_undo_30 rfl (by decide) (by omega) (by omega) R.2.2.2.2.2.2.2.2.1 ?_
      refine w_iconst dX12_undo_31 ?_
      refine w_isub dX12_undo_32 ?_
      refine w_iast dX12_undo_33 rfl (by decide) (by omega) (by omega) ?_
      refine w_aload_n dX12_undo_34 rfl ?_
      refine w_getr 36 0 dX12_undo_35 fl_X12_9 rfl (by decide) ?_
      refine w_bipush dX12_undo_38 rfl ?_
      refine w_ialdE (v := gg 3 0 3 - 1) dX12_undo_40 rfl (by decide) (by omega) (by omega) rfl ?_
      exact w_iretE dX12_undo_41 rfl rfl (k.2.2 (by omega) (by omega))
    · refine w_bipush dX12_undo_20 rfl ?_
      exact w_iretE dX12_undo_22 rfl rfl (k.2.1 (by omega) (by omega))
  · refine w_bipush dX12_undo_7 rfl ?_
    exact w_iretE dX12_undo_9 rfl rfl (k.1 (by omega))
set_option maxRecDepth 100000 in
set_option maxHeartbeats 4000000 in
theorem c_X12_anew {d : Nat} {h gg : fwH} {Q : Option fwV → fwH → Prop}  (J : cOk gg) (R : jF gg h) (K : jA gg h)  (k : (¬ 0 < gg 3 0 6 → Q (some (aI (-2))) h) ∧ (0 < gg 3 0 6 → Q (some (aI (gg 3 0 3))) (fwUp h 36 0 8 0))) : fwCt mX12_anew (d + 1) [aR 12 0] h Q := by
  refine fwCt_of [some (aR 12 0), none] rfl rfl rfl ?_
  obtain ⟨hl, hP, hG, hM0, htd, hut, hlw, hhc, ha, hs, hT, hsc⟩ := id J
  have hb17 : hB (gg 17 0) := fun c hc => by have := hM0 c hc; omega
  obtain ⟨⟨g1, g2⟩, ⟨g3, g4⟩, ⟨g5, g6⟩, g7, -⟩ := id hG
  have h17_99 : ∀ c : Nat, (c : Int) < gg 4 0 1 → gg 17 0 c ≤ 99 := fun c hc => (hM0 c (by omega)).2
  have hpz := hP.1
  have hrs1 := R.2.2.2.2.2.2.2.2.2.2.2
  refine w_aload_n dX12_anew_0 rfl ?_
  refine w_callV (d := d + 0) (S := []) [] dX12_anew_1 ml_X12_73 ok_X12_isMount vi_X12_isMount rfl rfl (by decide) rfl (Nat.le_of_ble_eq_true rfl) ?_
  refine c_X12_isMount (d := d) J R ?_
  show fwWP mX12_anew (d + 1) 4 [some (aR 12 0), none] [aI (fwB (0 < gg 3 0 6))] h Q
  refine w_ifB_ne 10 dX12_anew_4 (by decide) (fun c4 => ?_) (fun c4 => ?_)
  · refine w_aload_n dX12_anew_10 rfl ?_
    refine w_getr 36 0 dX12_anew_11 fl_X12_9 rfl (by decide) ?_
    refine w_bipush dX12_anew_14 rfl ?_
    refine w_ialdE (v := gg 3 0 3) dX12_anew_16 rfl (by decide) (by omega) (by omega) R.2.2.2.2.2.2.2.2.1 ?_
    refine w_istore_n [some (aR 12 0), some (aI (gg 3 0 3))] dX12_anew_17 rfl (by decide) ?_
    refine w_aload_n dX12_anew_18 rfl ?_
    refine w_getr 36 0 dX12_anew_19 fl_X12_9 rfl (by decide) ?_
    refine w_bipush dX12_anew_22 rfl ?_
    refine w_iconst dX12_anew_24 ?_
    refine w_iast dX12_anew_25 rfl (by decide) (by omega) (by omega) ?_
    refine w_iload_n dX12_anew_26 rfl ?_
    exact w_iretE dX12_anew_27 rfl rfl (k.2 (by omega))
  · refine w_bipush dX12_anew_7 rfl ?_
    exact w_iretE dX12_anew_9 rfl rfl (k.1 (by omega))
set_option maxRecDepth 100000 in
set_option maxHeartbeats 4000000 in
theorem c_X12_keepAct {d : Nat} {h gg : fwH} {Q : Option fwV → fwH → Prop} (x : Int) (J : cOk gg) (R : jF gg h) (h60 : gg 3 0 3 < 60) (k : Q none (fwUp (fwUp h 36 0 (75 + (gg 3 0 3).toNat) x) 36 0 8 (gg 3 0 3 + 1))) : fwCt mX12_keepAct (d + 0) [aR 12 0, aI x] h Q := by
  refine fwCt_of [some (aR 12 0), some (aI x)] rfl rfl rfl ?_
  obtain ⟨hl, hP, hG, -, -, -, hlw, -, ha, hs, -, hsc⟩ := id J
  obtain ⟨⟨g1, g2⟩, ⟨g3, g4⟩, ⟨g5, g6⟩, g7, -⟩ := id hG
  have hpz := hP.1
  refine w_aload_n dX12_keepAct_0 rfl ?_
  refine w_getr 36 0 dX12_keepAct_1 fl_X12_9 rfl (by decide) ?_
  refine w_bipush dX12_keepAct_4 rfl ?_
  refine w_aload_n dX12_keepAct_6 rfl ?_
  refine w_getr 36 0 dX12_keepAct_7 fl_X12_9 rfl (by decide) ?_
  refine w_bipush dX12_keepAct_10 rfl ?_
  refine w_ialdE (v := gg 3 0 3) dX12_keepAct_12 rfl (by decide) (by omega) (by omega) R.2.2.2.2.2.2.2.2.1 ?_
  refine w_iadd dX12_keepAct_13 ?_
  refine w_iload_n dX12_keepAct_14 rfl ?_
  refine w_iast dX12_keepAct_15 rfl (by decide) (by omega) (by omega) ?_
  refine w_aload_n dX12_keepAct_16 rfl ?_
  refine w_getr 36 0 dX12_keepAct_17 fl_X12_9 rfl (by decide) ?_
  refine w_bipush dX12_keepAct_20 rfl ?_
  refine w_dup2 dX12_keepAct_22 rfl rfl ?_
  refine w_ialdE (v := gg 3 0 3) dX12_keepAct_23 rfl (by decide) (by omega) (by omega) (by show (if (36 : Nat) = 36 ∧ (0 : Nat) = 0 ∧ 8 = (75 + gg 3 0 3).toNat then x else h 36 0 8) = gg 3 0 3; rw [if_neg (by omega)]; exact R.2.2.2.2.2.2.2.2.1) ?_
  refine w_iconst dX12_keepAct_24 ?_
  refine w_iadd dX12_keepAct_25 ?_
  refine w_iast dX12_keepAct_26 rfl (by decide) (by omega) (by omega) ?_
  rw [show (75 + gg 3 0 3).toNat = 75 + (gg 3 0 3).toNat by omega]
  exact w_vret dX12_keepAct_27 rfl k
set_option maxRecDepth 100000 in
set_option maxHeartbeats 4000000 in
theorem c_X12_take {d : Nat} {h gg : fwH} {Q : Option fwV → fwH → Prop}  (J : cOk gg) (R : jF gg h) (K : jA gg h)  (k : (¬ 0 < gg 3 0 6 → Q (some (aI (-2))) h) ∧ (0 < gg 3 0 6 → ¬ (gg 3 0 3 < 60 ∧ mMax (gg 17 0) (gg 4 0 1).toNat ≠ 0) → ∀ A, Q (some (aI (-5))) (fwUc h 42 0 A)) ∧ (0 < gg 3 0 6 → (gg 3 0 3 < 60 ∧ mMax (gg 17 0) (gg 4 0 1).toNat ≠ 0) → ∀ A, Q (some (aI (mTop (gg 17 0) (gg 4 0 4) (gg 4 0 1).toNat))) (fwUp (fwUp (fwUc h 42 0 A) 36 0 (75 + (gg 3 0 3).toNat) 0) 36 0 8 (gg 3 0 3 + 1)))) : fwCt mX12_take (d + 6) [aR 12 0] h Q := by
  refine fwCt_of [some (aR 12 0), none] rfl rfl rfl ?_
  obtain ⟨hl, hP, hG, hM0, htd, hut, hlw, hhc, ha, hs, hT, hsc⟩ := id J
  have hb17 : hB (gg 17 0) := fun c hc => by have := hM0 c hc; omega
  obtain ⟨⟨g1, g2⟩, ⟨g3, g4⟩, ⟨g5, g6⟩, g7, -⟩ := id hG
  have h17_99 : ∀ c : Nat, (c : Int) < gg 4 0 1 → gg 17 0 c ≤ 99 := fun c hc => (hM0 c (by omega)).2
  have hpz := hP.1
  have hrs1 := R.2.2.2.2.2.2.2.2.2.2.2
  refine w_aload_n dX12_take_0 rfl ?_
  refine w_callV (d := d + 5) (S := []) [] dX12_take_1 ml_X12_73 ok_X12_isMount vi_X12_isMount rfl rfl (by decide) rfl (Nat.le_of_ble_eq_true rfl) ?_
  refine c_X12_isMount (d := (d + 5)) J R ?_
  show fwWP mX12_take (d + 6) 4 [some (aR 12 0), none] [aI (fwB (0 < gg 3 0 6))] h Q
  refine w_ifB_ne 10 dX12_take_4 (by decide) (fun c4 => ?_) (fun c4 => ?_)
  · refine w_aload_n dX12_take_10 rfl ?_
    refine w_callV (d := d + 5) (S := []) [] dX12_take_11 ml_X12_240 ok_X12_asItIs vi_X12_asItIs rfl rfl (by decide) rfl (Nat.le_of_ble_eq_true rfl) ?_
    refine c_X12_asItIs (d := d) J R K (show 1 ≤ gg 4 0 1 by omega) (show 1 ≤ gg 4 0 3 by omega) ?_
    intro A11_2 hA11_2
    show fwWP mX12_take (d + 6) 14 [some (aR 12 0), none] [] (fwUc h 42 0 A11_2) Q
    refine w_aload_n dX12_take_14 rfl ?_
    refine w_callV (d := d + 5) (S := []) [] dX12_take_15 ml_X12_200 ok_X12_topCell vi_X12_topCell rfl rfl (by decide) rfl (Nat.le_of_ble_eq_true rfl) ?_
    refine c_X12_topCell (d := (d + 5)) (gg 17 0) J R hA11_2 hb17 (show 1 ≤ gg 4 0 1 by omega) ?_
    show fwWP mX12_take (d + 6) 18 [some (aR 12 0), none] [aI (mTop (gg 17 0) (gg 4 0 4) (gg 4 0 1).toNat)] (fwUc h 42 0 A11_2) Q
    have htp3 := mTop_r2 (gg 17 0) (gg 4 0 4) (gg 4 0 1).toNat (by omega)
    refine w_istore_n [some (aR 12 0), some (aI (mTop (gg 17 0) (gg 4 0 4) (gg 4 0 1).toNat))] dX12_take_18 rfl (by decide) ?_
    have hbt := hM0 (mTop (gg 17 0) (gg 4 0 4) (gg 4 0 1).toNat).toNat (by omega)
    have hmx := mMax_top (H := gg 17 0) (ls := gg 4 0 4) (gg 4 0 1).toNat (by omega) (fun c hc => (hM0 c (by omega)).1)
    refine w_aload_n dX12_take_19 rfl ?_
    refine w_getr 42 0 dX12_take_20 fl_X12_34 rfl (by decide) ?_
    refine w_iload_n dX12_take_23 rfl ?_
    refine w_ialdE (v := (gg 17 0) (mTop (gg 17 0) (gg 4 0 4) (gg 4 0 1).toNat).toNat) dX12_take_24 rfl (by decide) (by omega) (by omega) (hA11_2 _ (by omega)) ?_
    refine w_if_eq 40 dX12_take_25 (by decide) (by omega) (fun c25 => ?_) (fun c25 => ?_)
    · refine w_bipush dX12_take_40 rfl ?_
      exact w_iretE dX12_take_42 rfl rfl (k.2.1 (by omega) (by omega) _)
    · refine w_aload_n dX12_take_28 rfl ?_
      refine w_getr 36 0 dX12_take_29 fl_X12_9 rfl (by decide) ?_
      refine w_bipush dX12_take_32 rfl ?_
      refine w_ialdE (v := gg 3 0 3) dX12_take_34 rfl (by decide) (by omega) (by omega) R.2.2.2.2.2.2.2.2.1 ?_
      refine w_bipush dX12_take_35 rfl ?_
      refine w_icmp_ne 43 dX12_take_37 (by decide) (by omega) (by omega) (fun c37 => ?_) (fun c37 => ?_)
      · refine w_aload_n dX12_take_43 rfl ?_
        refine w_iconst dX12_take_44 ?_
        refine w_callV (d := d + 5) (S := []) [aI 0] dX12_take_45 ml_X12_254 ok_X12_keepAct vi_X12_keepAct rfl rfl (by decide) rfl (Nat.le_of_ble_eq_true rfl) ?_
        refine c_X12_keepAct (d := (d + 5)) 0 J R (by omega) ?_
        show fwWP mX12_take (d + 6) 48 [some (aR 12 0), some (aI (mTop (gg 17 0) (gg 4 0 4) (gg 4 0 1).toNat))] [] (fwUp (fwUp (fwUc h 42 0 A11_2) 36 0 (75 + (gg 3 0 3).toNat) 0) 36 0 8 (gg 3 0 3 + 1)) Q
        refine w_iload_n dX12_take_48 rfl ?_
        exact w_iretE dX12_take_49 rfl rfl (k.2.2 (by omega) (by omega) _)
      · refine w_bipush dX12_take_40 rfl ?_
        exact w_iretE dX12_take_42 rfl rfl (k.2.1 (by omega) (by omega) _)
  · refine w_bipush dX12_take_7 rfl ?_
    exact w_iretE dX12_take_9 rfl rfl (k.1 (by omega))
set_option maxRecDepth 100000 in
set_option maxHeartbeats 4000000 in
theorem c_X12_heap {d : Nat} {h gg : fwH} {Q : Option fwV → fwH → Prop} (x : Int) (J : cOk gg) (R : jF gg h) (K : jA gg h) (hx : -2147483648 ≤ x ∧ x < 2147483648) (k : (¬ (0 ≤ x ∧ x < gg 4 0 1) → Q (some (aI (-2))) h) ∧ ((0 ≤ x ∧ x < gg 4 0 1) → ¬ (gg 3 0 3 < 60 ∧ (mStay (gg 4 0 1) (gg 17 0) (gg 4 0 3) x) ≠ -1) → ∀ A, Q (some (aI (-5))) (fwUc h 42 0 A)) ∧ ((0 ≤ x ∧ x < gg 4 0 1) → (gg 3 0 3 < 60 ∧ (mStay (gg 4 0 1) (gg 17 0) (gg 4 0 3) x) ≠ -1) → ∀ A, Q (some (aI (mStay (gg 4 0 1) (gg 17 0) (gg 4 0 3) x))) (fwUp (fwUp (fwUc h 42 0 A) 36 0 (75 + (gg 3 0 3).toNat) (1 + x)) 36 0 8 (gg 3 0 3 + 1)))) : fwCt mX12_heap (d + 6) [aR 12 0, aI x] h Q := by
  refine fwCt_of [some (aR 12 0), some (aI x), none] rfl rfl rfl ?_
  obtain ⟨hl, hP, hG, hM0, htd, hut, hlw, hhc, ha, hs, hT, hsc⟩ := id J
  have hb17 : hB (gg 17 0) := fun c hc => by have := hM0 c hc; omega
  obtain ⟨⟨g1, g2⟩, ⟨g3, g4⟩, ⟨g5, g6⟩, g7, -⟩ := id hG
  have h17_99 : ∀ c : Nat, (c : Int) < gg 4 0 1 → gg 17 0 c ≤ 99 := fun c hc => (hM0 c (by omega)).2
  have hpz := hP.1
  have hrs1 := R.2.2.2.2.2.2.2.2.2.2.2
  refine w_aload_n dX12_heap_0 rfl ?_
  refine w_iload_n dX12_heap_1 rfl ?_
  refine w_i2l dX12_heap_2 (by omega) ?_
  refine w_callV (d := d + 5) (S := []) [aJ x] dX12_heap_3 ml_X12_203 ok_X12_isCell vi_X12_isCell rfl rfl (by decide) rfl (Nat.le_of_ble_eq_true rfl) ?_
  refine c_X12_isCell (d := (d + 4)) x J R (by omega) ?_
  show fwWP mX12_heap (d + 6) 6 [some (aR 12 0), some (aI x), none] [aI (fwB (0 ≤ x ∧ x ≤ gg 4 0 1 - 1))] h Q
  refine w_ifB_ne 12 dX12_heap_6 (by decide) (fun c6 => ?_) (fun c6 => ?_)
  · refine w_aload_n dX12_heap_12 rfl ?_
    refine w_callV (d := d + 5) (S := []) [] dX12_heap_13 ml_X12_240 ok_X12_asItIs vi_X12_asItIs rfl rfl (by decide) rfl (Nat.le_of_ble_eq_true rfl) ?_
    refine c_X12_asItIs (d := d) J R K (show 1 ≤ gg 4 0 1 by omega) (show 1 ≤ gg 4 0 3 by omega) ?_
    intro A13_2 hA13_2
    show fwWP mX12_heap (d + 6) 16 [some (aR 12 0), some (aI x), none] [] (fwUc h 42 0 A13_2) Q
    refine w_aload_n dX12_heap_16 rfl ?_
    refine w_iload_n dX12_heap_17 rfl ?_
    refine w_callV (d := d + 5) (S := []) [aI x] dX12_heap_18 ml_X12_211 ok_X12_slideOf vi_X12_slideOf rfl rfl (by decide) rfl (Nat.le_of_ble_eq_true rfl) ?_
    refine c_X12_slideOf (d := (d + 2)) x (gg 17 0) J R hA13_2 hb17 h17_99 (show 1 ≤ gg 4 0 3 by omega) (show 0 ≤ x ∧ x < gg 4 0 1 by omega) ?_
    show fwWP mX12_heap (d + 6) 21 [some (aR 12 0), some (aI x), none] [aI (mStay (gg 4 0 1) (gg 17 0) (gg 4 0 3) x)] (fwUc h 42 0 A13_2) Q
    have hsr3 := mStay_rng (gg 17 0) (rs := gg 4 0 3) (n := gg 4 0 1) (x := x) (by omega) (by omega)
    refine w_istore_n [some (aR 12 0), some (aI x), some (aI (mStay (gg 4 0 1) (gg 17 0) (gg 4 0 3) x))] dX12_heap_21 rfl (by decide) ?_
    refine w_iload_n dX12_heap_22 rfl ?_
    refine w_iconst dX12_heap_23 ?_
    refine w_icmp_eq 39 dX12_heap_24 (by decide) (by omega) (by omega) (fun c24 => ?_) (fun c24 => ?_)
    · refine w_bipush dX12_heap_39 rfl ?_
      exact w_iretE dX12_heap_41 rfl rfl (k.2.1 (by omega) (by omega) _)
    · refine w_aload_n dX12_heap_27 rfl ?_
      refine w_getr 36 0 dX12_heap_28 fl_X12_9 rfl (by decide) ?_
      refine w_bipush dX12_heap_31 rfl ?_
      refine w_ialdE (v := gg 3 0 3) dX12_heap_33 rfl (by decide) (by omega) (by omega) R.2.2.2.2.2.2.2.2.1 ?_
      refine w_bipush dX12_heap_34 rfl ?_
      refine w_icmp_ne 42 dX12_heap_36 (by decide) (by omega) (by omega) (fun c36 => ?_) (fun c36 => ?_)
      · refine w_aload_n dX12_heap_42 rfl ?_
        refine w_iconst dX12_heap_43 ?_
        refine w_iload_n dX12_heap_44 rfl ?_
        refine w_iadd dX12_heap_45 ?_
        refine w_callV (d := d + 5) (S := []) [aI (1 + x)] dX12_heap_46 ml_X12_254 ok_X12_keepAct vi_X12_keepAct rfl rfl (by decide) rfl (Nat.le_of_ble_eq_true rfl) ?_
        refine c_X12_keepAct (d := (d + 5)) (1 + x) J R (by omega) ?_
        show fwWP mX12_heap (d + 6) 49 [some (aR 12 0), some (aI x), some (aI (mStay (gg 4 0 1) (gg 17 0) (gg 4 0 3) x))] [] (fwUp (fwUp (fwUc h 42 0 A13_2) 36 0 (75 + (gg 3 0 3).toNat) (1 + x)) 36 0 8 (gg 3 0 3 + 1)) Q
        refine w_iload_n dX12_heap_49 rfl ?_
        exact w_iretE dX12_heap_50 rfl rfl (k.2.2 (by omega) (by omega) _)
      · refine w_bipush dX12_heap_39 rfl ?_
        exact w_iretE dX12_heap_41 rfl rfl (k.2.1 (by omega) (by omega) _)
  · refine w_bipush dX12_heap_9 rfl ?_
    exact w_iretE dX12_heap_11 rfl rfl (k.1 (by omega))
theorem imR_s (W V : Nat → Int) (u c : Nat) : fwFu (fun s => if 135 * u ≤ s ∧ s < 135 * u + c then W (s - 135 * u) else V s) (135 * u + c) (W c) = fun s => if 135 * u ≤ s ∧ s < 135 * u + (c + 1) then W (s - 135 * u) else V s := by
  funext s
  unfold fwFu
  by_cases e : s = 135 * u + c
  · subst e
    rw [if_pos rfl, if_pos (by omega), show 135 * u + c - 135 * u = c by omega]
  · rw [if_neg e]
    dsimp only
    by_cases e2 : 135 * u ≤ s ∧ s < 135 * u + c
    · rw [if_pos e2, if_pos (by omega)]
    · rw [if_neg e2, if_neg (by omega)]
theorem imR_0 (W V : Nat → Int) (u : Nat) : V = fun s => if 135 * u ≤ s ∧ s < 135 * u + 0 then W (s - 135 * u) else V s := by
  funext s
  rw [if_neg (by omega)]
set_option maxRecDepth 100000 in
set_option maxHeartbeats 4000000 in
theorem c_X12_image {d : Nat} {h : fwH} {Q : Option fwV → fwH → Prop} (x : Int) (hx : -2147483648 ≤ x ∧ x < 2147483648) (k : (¬ (0 ≤ x ∧ x < 3) → Q (some (aI (-2))) h) ∧ ((0 ≤ x ∧ x < 3) → Q (some (aI 0)) (fwUp (fwUc h 37 0 (fun s => if 135 * x.toNat ≤ s ∧ s < 135 * x.toNat + 135 then h 36 0 (s - 135 * x.toNat) else h 37 0 s)) 38 0 x.toNat 1))) : fwCt mX12_image (d + 1) [aR 12 0, aI x] h Q := by
  refine fwCt_of [some (aR 12 0), some (aI x), none] rfl rfl rfl ?_
  refine w_iload_n dX12_image_0 rfl ?_
  refine w_i2l dX12_image_1 (by omega) ?_
  refine w_lconst (z := 0) dX12_image_2 rfl ?_
  refine w_ldc2 (n := 2) dX12_image_3 cs_X12_63 ?_
  refine w_callS (d := d + 0) (S := []) [aJ x, aJ 0, aJ 2] dX12_image_6 ml_X12_65 ok_X12_in st_X12_in rfl (Nat.le_of_ble_eq_true rfl) ?_
  refine c_X12_in (d := d) x 0 2 (by omega) (by omega) (by omega) ?_
  show fwWP mX12_image (d + 1) 9 [some (aR 12 0), some (aI x), none] [aI (fwB (0 ≤ x ∧ x ≤ 2))] h Q
  refine w_ifB_ne 15 dX12_image_9 (by decide) (fun c9 => ?_) (fun c9 => ?_)
  · obtain ⟨u, rfl⟩ : ∃ u : Nat, x = (u : Int) := ⟨x.toNat, by omega⟩
    refine w_iconst dX12_image_15 ?_
    refine w_istore_n [some (aR 12 0), some (aI (u : Int)), some (aI 0)] dX12_image_16 rfl (by decide) ?_
    have lp17 : ∀ c : Nat, c ≤ 135 → ∀ (y17  : Int) (hh17 : fwH), y17 = (c : Int) → hh17 = (fwUc h 37 0 (fun s => if 135 * u ≤ s ∧ s < 135 * u + c then h 36 0 (s - 135 * u) else h 37 0 s)) → fwWP mX12_image (d + 1) 17 [some (aR 12 0), some (aI (u : Int)), some (aI y17)] [] hh17 Q := by
      refine fw_up (fun c hc17 ih17 => ?_)
      intro y17  hh17 ey17 eh17
      subst ey17
      subst eh17
      show fwWP mX12_image (d + 1) 17 [some (aR 12 0), some (aI (u : Int)), some (aI (c : Int))] [] (fwUc h 37 0 (fun s => if 135 * u ≤ s ∧ s < 135 * u + c then h 36 0 (s - 135 * u) else h 37 0 s)) Q
      refine w_iload_n dX12_image_17 rfl ?_
      refine w_sipush dX12_image_18 rfl ?_
      refine w_icmp_ge 48 dX12_image_21 (by decide) (by omega) (by omega) (fun c21 => ?_) (fun c21 => ?_)
      · have ec17 : 135 = c := by omega
        subst ec17
        refine w_aload_n dX12_image_48 rfl ?_
        refine w_getr 38 0 dX12_image_49 fl_X12_16 rfl (by decide) ?_
        refine w_iload_n dX12_image_52 rfl ?_
        refine w_iconst dX12_image_53 ?_
        refine w_zast dX12_image_54 rfl (by decide) (by omega) (by omega) (by first | omega | exact fwB_01 _) ?_
        refine w_iconst dX12_image_55 ?_
        exact w_iretE dX12_image_56 rfl rfl (k.2 (by omega))
      · refine w_aload_n dX12_image_24 rfl ?_
        refine w_getr 37 0 dX12_image_25 fl_X12_13 rfl (by decide) ?_
        refine w_sipush dX12_image_28 rfl ?_
        refine w_iload_n dX12_image_31 rfl ?_
        refine w_imul dX12_image_32 ?_
        refine w_iload_n dX12_image_33 rfl ?_
        refine w_iadd dX12_image_34 ?_
        refine w_aload_n dX12_image_35 rfl ?_
        refine w_getr 36 0 dX12_image_36 fl_X12_9 rfl (by decide) ?_
        refine w_iload_n dX12_image_39 rfl ?_
        refine w_ialdE (v := h 36 0 c) dX12_image_40 rfl (by decide) (by omega) (by omega) rfl ?_
        refine w_iast dX12_image_41 rfl (by decide) (by omega) (by omega) ?_
        refine w_iinc [some (aR 12 0), some (aI (u : Int)), some (aI ((c : Int) + 1))] dX12_image_42 rfl rfl (by decide) ?_
        refine w_goto 17 dX12_image_45 (by decide) ?_
        refine ih17 (by omega) _ _ ?_ ?_
        · exact (by omega)
        · exact (by rw [fwUp_uc, show (135 * (u : Int) + (c : Int)).toNat = 135 * u + c by omega]; exact congrArg _ (imR_s (h 36 0) (h 37 0) u c))
    refine lp17 0 (Nat.zero_le _) _ _ ?_ ?_
    · exact (by omega)
    · exact (by rw [← imR_0 (h 36 0) (h 37 0) u]; exact (fwUc_self h 37 0).symm)
  · refine w_bipush dX12_image_12 rfl ?_
    exact w_iretE dX12_image_14 rfl rfl (k.1 (by omega))
set_option maxRecDepth 100000 in
set_option maxHeartbeats 4000000 in
theorem c_X12_back {d : Nat} {h : fwH} {Q : Option fwV → fwH → Prop} (x : Int) (hx : -2147483648 ≤ x ∧ x < 2147483648) (hz : ∀ k : Nat, k < 3 → h 38 0 k = 0 ∨ h 38 0 k = 1) (k : (¬ (0 ≤ x ∧ x < 3) → Q (some (aI (-2))) h) ∧ ((0 ≤ x ∧ x < 3) → h 38 0 x.toNat = 0 → Q (some (aI (-6))) h) ∧ ((0 ≤ x ∧ x < 3) → h 38 0 x.toNat ≠ 0 → Q (some (aI 0)) (fwUc h 36 0 (fwFl (fun s => h 37 0 (135 * x.toNat + s)) (h 36 0) 135)))) : fwCt mX12_back (d + 1) [aR 12 0, aI x] h Q := by
  refine fwCt_of [some (aR 12 0), some (aI x), none] rfl rfl rfl ?_
  refine w_iload_n dX12_back_0 rfl ?_
  refine w_i2l dX12_back_1 (by omega) ?_
  refine w_lconst (z := 0) dX12_back_2 rfl ?_
  refine w_ldc2 (n := 2) dX12_back_3 cs_X12_63 ?_
  refine w_callS (d := d + 0) (S := []) [aJ x, aJ 0, aJ 2] dX12_back_6 ml_X12_65 ok_X12_in st_X12_in rfl (Nat.le_of_ble_eq_true rfl) ?_
  refine c_X12_in (d := d) x 0 2 (by omega) (by omega) (by omega) ?_
  show fwWP mX12_back (d + 1) 9 [some (aR 12 0), some (aI x), none] [aI (fwB (0 ≤ x ∧ x ≤ 2))] h Q
  refine w_ifB_ne 15 dX12_back_9 (by decide) (fun c9 => ?_) (fun c9 => ?_)
  · obtain ⟨u, rfl⟩ : ∃ u : Nat, x = (u : Int) := ⟨x.toNat, by omega⟩
    have hz9 := hz u (by omega)
    refine w_aload_n dX12_back_15 rfl ?_
    refine w_getr 38 0 dX12_back_16 fl_X12_16 rfl (by decide) ?_
    refine w_iload_n dX12_back_19 rfl ?_
    refine w_zaldE (v := h 38 0 u) dX12_back_20 rfl (by decide) (by omega) (by omega) rfl ?_
    refine w_if_ne 27 dX12_back_21 (by decide) (by omega) (fun c21 => ?_) (fun c21 => ?_)
    · refine w_iconst dX12_back_27 ?_
      refine w_istore_n [some (aR 12 0), some (aI (u : Int)), some (aI 0)] dX12_back_28 rfl (by decide) ?_
      have lp29 : ∀ c : Nat, c ≤ 135 → ∀ (y29  : Int) (hh29 : fwH), y29 = (c : Int) → hh29 = (fwUc h 36 0 (fwFl (fun s => h 37 0 (135 * u + s)) (h 36 0) c)) → fwWP mX12_back (d + 1) 29 [some (aR 12 0), some (aI (u : Int)), some (aI y29)] [] hh29 Q := by
        refine fw_up (fun c hc29 ih29 => ?_)
        intro y29  hh29 ey29 eh29
        subst ey29
        subst eh29
        show fwWP mX12_back (d + 1) 29 [some (aR 12 0), some (aI (u : Int)), some (aI (c : Int))] [] (fwUc h 36 0 (fwFl (fun s => h 37 0 (135 * u + s)) (h 36 0) c)) Q
        refine w_iload_n dX12_back_29 rfl ?_
        refine w_sipush dX12_back_30 rfl ?_
        refine w_icmp_ge 60 dX12_back_33 (by decide) (by omega) (by omega) (fun c33 => ?_) (fun c33 => ?_)
        · have ec29 : 135 = c := by omega
          subst ec29
          refine w_iconst dX12_back_60 ?_
          exact w_iretE dX12_back_61 rfl rfl (k.2.2 (by omega) (by show h 38 0 u ≠ 0; omega))
        · refine w_aload_n dX12_back_36 rfl ?_
          refine w_getr 36 0 dX12_back_37 fl_X12_9 rfl (by decide) ?_
          refine w_iload_n dX12_back_40 rfl ?_
          refine w_aload_n dX12_back_41 rfl ?_
          refine w_getr 37 0 dX12_back_42 fl_X12_13 rfl (by decide) ?_
          refine w_sipush dX12_back_45 rfl ?_
          refine w_iload_n dX12_back_48 rfl ?_
          refine w_imul dX12_back_49 ?_
          refine w_iload_n dX12_back_50 rfl ?_
          refine w_iadd dX12_back_51 ?_
          refine w_ialdE (v := h 37 0 (135 * u + c)) dX12_back_52 rfl (by decide) (by omega) (by omega) (by rw [show (((135 * (u : Int)) + (c : Int)).toNat) = 135 * u + c by omega]; rfl) ?_
          refine w_iast dX12_back_53 rfl (by decide) (by omega) (by omega) ?_
          refine w_iinc [some (aR 12 0), some (aI (u : Int)), some (aI ((c : Int) + 1))] dX12_back_54 rfl rfl (by decide) ?_
          refine w_goto 29 dX12_back_57 (by decide) ?_
          refine ih29 (by omega) _ _ ?_ ?_
          · exact (by omega)
          · exact (by rw [fwUp_uc, Int.toNat_natCast]; exact congrArg _ (fwFl_succ (fun s => h 37 0 (135 * u + s)) (h 36 0) c))
      refine lp29 0 (Nat.zero_le _) _ _ ?_ ?_
      · exact (by omega)
      · exact (by rw [fwFl_0]; exact (fwUc_self h 36 0).symm)
    · refine w_bipush dX12_back_24 rfl ?_
      exact w_iretE dX12_back_26 rfl rfl (k.2.1 (by omega) (by show h 38 0 u = 0; omega))
  · refine w_bipush dX12_back_12 rfl ?_
    exact w_iretE dX12_back_14 rfl rfl (k.1 (by omega))
set_option maxRecDepth 100000 in
set_option maxHeartbeats 4000000 in
theorem c_X12_end {d : Nat} {h : fwH} {Q : Option fwV → fwH → Prop} (x : Int) (hx : -2147483648 ≤ x ∧ x < 2147483648) (ht : 0 ≤ h 12 0 5 ∧ h 12 0 5 ≤ 900) (k : ((0 ≤ x ∧ x ≤ h 12 0 5) → Q (some (aI x)) (fwUp h 12 0 5 x)) ∧ (¬ (0 ≤ x ∧ x ≤ h 12 0 5) → Q (some (aI (-1))) h)) : fwCt mX12_end (d + 1) [aR 12 0, aI x] h Q := by
  refine fwCt_of [some (aR 12 0), some (aI x)] rfl rfl rfl ?_
  refine w_iload_n dX12_end_0 rfl ?_
  refine w_i2l dX12_end_1 (by omega) ?_
  refine w_lconst (z := 0) dX12_end_2 rfl ?_
  refine w_aload_n dX12_end_3 rfl ?_
  refine w_geti dX12_end_4 fl_X12_81 rfl (by decide) ?_
  refine w_i2l dX12_end_7 (by omega) ?_
  refine w_callS (d := d + 0) (S := []) [aJ x, aJ 0, aJ (h 12 0 5)] dX12_end_8 ml_X12_65 ok_X12_in st_X12_in rfl (Nat.le_of_ble_eq_true rfl) ?_
  refine c_X12_in (d := d) x 0 (h 12 0 5) (by omega) (by omega) (by omega) ?_
  show fwWP mX12_end (d + 1) 11 [some (aR 12 0), some (aI x)] [aI (fwB (0 ≤ x ∧ x ≤ (h 12 0 5)))] h Q
  refine w_ifB_ne 16 dX12_end_11 (by decide) (fun c11 => ?_) (fun c11 => ?_)
  · refine w_aload_n dX12_end_16 rfl ?_
    refine w_iload_n dX12_end_17 rfl ?_
    refine w_puti dX12_end_18 fl_X12_81 fp_12_5 rfl (by decide) ?_
    refine w_iload_n dX12_end_21 rfl ?_
    exact w_iretE dX12_end_22 rfl rfl (k.1 (by omega))
  · refine w_iconst dX12_end_14 ?_
    exact w_iretE dX12_end_15 rfl rfl (k.2 (by omega))
set_option maxRecDepth 100000 in
set_option maxHeartbeats 4000000 in
theorem c_X12_fault {d : Nat} {h : fwH} {Q : Option fwV → fwH → Prop} (x : Int) (hx : -2147483648 ≤ x ∧ x < 2147483648) (k : Q (some (aI (if x = 0 then h 12 0 12 else if x = 1 then h 12 0 13 else -1))) h) : fwCt mX12_fault (d + 0) [aR 12 0, aI x] h Q := by
  refine fwCt_of [some (aR 12 0), some (aI x)] rfl rfl rfl ?_
  refine w_iload_n dX12_fault_0 rfl ?_
  refine w_if_ne 11 dX12_fault_1 (by decide) (by omega) (fun c1 => ?_) (fun c1 => ?_)
  · refine w_iload_n dX12_fault_11 rfl ?_
    refine w_iconst dX12_fault_12 ?_
    refine w_icmp_ne 23 dX12_fault_13 (by decide) (by omega) (by omega) (fun c13 => ?_) (fun c13 => ?_)
    · refine w_iconst dX12_fault_23 ?_
      exact w_iretE dX12_fault_24 rfl (by first | (rw [if_pos (by omega)]; done) | (rw [if_neg (by omega), if_pos (by omega)]; done) | (rw [if_neg (by omega), if_neg (by omega)]; done)) k
    · refine w_aload_n dX12_fault_16 rfl ?_
      refine w_geti dX12_fault_17 fl_X12_27 rfl (by decide) ?_
      refine w_goto 24 dX12_fault_20 (by decide) ?_
      exact w_iretE dX12_fault_24 rfl (by first | (rw [if_pos (by omega)]; done) | (rw [if_neg (by omega), if_pos (by omega)]; done) | (rw [if_neg (by omega), if_neg (by omega)]; done)) k
  · refine w_aload_n dX12_fault_4 rfl ?_
    refine w_geti dX12_fault_5 fl_X12_118 rfl (by decide) ?_
    refine w_goto 24 dX12_fault_8 (by decide) ?_
    exact w_iretE dX12_fault_24 rfl (by first | (rw [if_pos (by omega)]; done) | (rw [if_neg (by omega), if_pos (by omega)]; done) | (rw [if_neg (by omega), if_neg (by omega)]; done)) k
end
section
/-- the two classes' rows of numbers -/
def jS (gg h : fwH) : Prop := ∀ s : Nat, s < 4 → h 46 0 s = gg 35 0 s ∧ h 47 0 s = gg 34 0 s ∧ ∀ j : Nat, j < 60 → h 48 0 (60 * s + j) = gg 33 s j
set_option maxRecDepth 100000 in
set_option maxHeartbeats 4000000 in
theorem c_X12_isSlot {d : Nat} {h : fwH} {Q : Option fwV → fwH → Prop} (x : Int) (hx : -2147483648 ≤ x ∧ x < 2147483648) (k : Q (some (aI (fwB (0 ≤ x ∧ x ≤ 3)))) h) : fwCt mX12_isSlot (d + 1) [aI x] h Q := by
  refine fwCt_of [some (aI x)] rfl rfl rfl ?_
  refine w_iload_n dX12_isSlot_0 rfl ?_
  refine w_i2l dX12_isSlot_1 (by omega) ?_
  refine w_lconst (z := 0) dX12_isSlot_2 rfl ?_
  refine w_ldc2 (n := 3) dX12_isSlot_3 cs_X12_342 ?_
  refine w_callS (d := d + 0) (S := []) [aJ x, aJ 0, aJ 3] dX12_isSlot_6 ml_X12_65 ok_X12_in st_X12_in rfl (Nat.le_of_ble_eq_true rfl) ?_
  refine c_X12_in (d := d) x 0 3 (by omega) (by omega) (by omega) ?_
  show fwWP mX12_isSlot (d + 1) 9 [some (aI x)] [aI (fwB (0 ≤ x ∧ x ≤ 3))] h Q
  exact w_zretE dX12_isSlot_9 rfl (by first | (exfalso; omega) | (rw [fwB_t (by omega)]) | (rw [fwB_f (by omega)]) | rfl) k
set_option maxRecDepth 100000 in
set_option maxHeartbeats 4000000 in
theorem c_X12_numberAt {d : Nat} {h gg : fwH} {Q : Option fwV → fwH → Prop} (s j : Nat) (S : jS gg h) (hs : s < 4) (hj : j < 60) (k : Q (some (aJ (gg 33 s j))) h) : fwCt mX12_numberAt (d + 0) [aR 12 0, aI (s : Int), aI (j : Int)] h Q := by
  refine fwCt_of [some (aR 12 0), some (aI (s : Int)), some (aI (j : Int))] rfl rfl rfl ?_
  refine w_aload_n dX12_numberAt_0 rfl ?_
  refine w_getr 48 0 dX12_numberAt_1 fl_X12_53 rfl (by decide) ?_
  refine w_bipush dX12_numberAt_4 rfl ?_
  refine w_iload_n dX12_numberAt_6 rfl ?_
  refine w_imul dX12_numberAt_7 ?_
  refine w_iload_n dX12_numberAt_8 rfl ?_
  refine w_iadd dX12_numberAt_9 ?_
  refine w_laldE (v := gg 33 s j) dX12_numberAt_10 rfl (by decide) (by omega) (by omega) (by rw [show (((60 * (s : Int)) + (j : Int)).toNat) = 60 * s + j by omega]; exact (S s hs).2.2 j hj) ?_
  exact w_lret dX12_numberAt_11 rfl k
theorem c_naE {d : Nat} {h gg : fwH} {Q : Option fwV → fwH → Prop} (s j : Nat) (x y : Int) (S : jS gg h) (ex : x = (s : Int)) (ey : y = (j : Int)) (hs : s < 4) (hj : j < 60) (k : Q (some (aJ (gg 33 s j))) h) : fwCt mX12_numberAt d [aR 12 0, aI x, aI y] h Q := by
  subst ex ey
  exact c_X12_numberAt s j S hs hj k
theorem rz_s (V : Nat → Int) (u c : Nat) : fwFu (fun s => if 60 * u ≤ s ∧ s < 60 * u + c then 0 else V s) (60 * u + c) 0 = fun s => if 60 * u ≤ s ∧ s < 60 * u + (c + 1) then 0 else V s := by
  funext s
  unfold fwFu
  by_cases e : s = 60 * u + c
  · subst e
    rw [if_pos rfl, if_pos (by omega)]
  · rw [if_neg e]
    dsimp only
    by_cases e2 : 60 * u ≤ s ∧ s < 60 * u + c
    · rw [if_pos e2, if_pos (by omega)]
    · rw [if_neg e2, if_neg (by omega)]
theorem rz_0 (V : Nat → Int) (u : Nat) : V = fun s => if 60 * u ≤ s ∧ s < 60 * u + 0 then 0 else V s := by
  funext s
  rw [if_neg (by omega)]
set_option maxRecDepth 100000 in
set_option maxHeartbeats 4000000 in
theorem c_X12_row {d : Nat} {h : fwH} {Q : Option fwV → fwH → Prop} (x y z : Int) (hx : -2147483648 ≤ x ∧ x < 2147483648) (hy : -2147483648 ≤ y ∧ y < 2147483648) (hz : -2147483648 ≤ z ∧ z < 2147483648) (k : (¬ ((0 ≤ x ∧ x < 4) ∧ (0 ≤ y ∧ y < 4) ∧ z ≤ 60) → Q (some (aI (-2))) h) ∧ (((0 ≤ x ∧ x < 4) ∧ (0 ≤ y ∧ y < 4) ∧ z ≤ 60) → z < 0 → Q (some (aI (-3))) h) ∧ (((0 ≤ x ∧ x < 4) ∧ (0 ≤ y ∧ y < 4) ∧ z ≤ 60) → ¬ z < 0 → Q (some (aI 0)) (fwUc (fwUp (fwUp h 46 0 x.toNat z) 47 0 x.toNat y) 48 0 (fun s => if 60 * x.toNat ≤ s ∧ s < 60 * x.toNat + 60 then 0 else h 48 0 s)))) : fwCt mX12_row (d + 2) [aR 12 0, aI x, aI y, aI z] h Q := by
  refine fwCt_of [some (aR 12 0), some (aI x), some (aI y), some (aI z), none] rfl rfl rfl ?_
  refine w_iload_n dX12_row_0 rfl ?_
  refine w_callS (d := d + 1) (S := []) [aI x] dX12_row_1 ml_X12_357 ok_X12_isSlot st_X12_isSlot rfl (Nat.le_of_ble_eq_true rfl) ?_
  refine c_X12_isSlot (d := d) x (by omega) ?_
  show fwWP mX12_row (d + 2) 4 [some (aR 12 0), some (aI x), some (aI y), some (aI z), none] [aI (fwB (0 ≤ x ∧ x ≤ 3))] h Q
  refine w_ifB_eq 25 dX12_row_4 (by decide) (fun c4 => ?_) (fun c4 => ?_)
  · refine w_bipush dX12_row_25 rfl ?_
    exact w_iretE dX12_row_27 rfl rfl (k.1 (by omega))
  · refine w_iload_n dX12_row_7 rfl ?_
    refine w_i2l dX12_row_8 (by omega) ?_
    refine w_lconst (z := 0) dX12_row_9 rfl ?_
    refine w_ldc2 (n := 3) dX12_row_10 cs_X12_342 ?_
    refine w_callS (d := d + 1) (S := []) [aJ y, aJ 0, aJ 3] dX12_row_13 ml_X12_65 ok_X12_in st_X12_in rfl (Nat.le_of_ble_eq_true rfl) ?_
    refine c_X12_in (d := (d + 1)) y 0 3 (by omega) (by omega) (by omega) ?_
    show fwWP mX12_row (d + 2) 16 [some (aR 12 0), some (aI x), some (aI y), some (aI z), none] [aI (fwB (0 ≤ y ∧ y ≤ 3))] h Q
    refine w_ifB_eq 25 dX12_row_16 (by decide) (fun c16 => ?_) (fun c16 => ?_)
    · refine w_bipush dX12_row_25 rfl ?_
      exact w_iretE dX12_row_27 rfl rfl (k.1 (by omega))
    · refine w_iload_n dX12_row_19 rfl ?_
      refine w_bipush dX12_row_20 rfl ?_
      refine w_icmp_le 28 dX12_row_22 (by decide) (by omega) (by omega) (fun c22 => ?_) (fun c22 => ?_)
      · refine w_iload_n dX12_row_28 rfl ?_
        refine w_if_ge 35 dX12_row_29 (by decide) (by omega) (fun c29 => ?_) (fun c29 => ?_)
        · obtain ⟨u, rfl⟩ : ∃ u : Nat, x = (u : Int) := ⟨x.toNat, by omega⟩
          refine w_aload_n dX12_row_35 rfl ?_
          refine w_getr 46 0 dX12_row_36 fl_X12_47 rfl (by decide) ?_
          refine w_iload_n dX12_row_39 rfl ?_
          refine w_iload_n dX12_row_40 rfl ?_
          refine w_iast dX12_row_41 rfl (by decide) (by omega) (by omega) ?_
          refine w_aload_n dX12_row_42 rfl ?_
          refine w_getr 47 0 dX12_row_43 fl_X12_50 rfl (by decide) ?_
          refine w_iload_n dX12_row_46 rfl ?_
          refine w_iload_n dX12_row_47 rfl ?_
          refine w_iast dX12_row_48 rfl (by decide) (by omega) (by omega) ?_
          refine w_iconst dX12_row_49 ?_
          refine w_istore [some (aR 12 0), some (aI (u : Int)), some (aI y), some (aI z), some (aI 0)] dX12_row_50 rfl (by decide) ?_
          have lp52 : ∀ c : Nat, c ≤ 60 → ∀ (y52  : Int) (hh52 : fwH), y52 = (c : Int) → hh52 = (fwUc (fwUp (fwUp h 46 0 u z) 47 0 u y) 48 0 (fun s => if 60 * u ≤ s ∧ s < 60 * u + c then 0 else h 48 0 s)) → fwWP mX12_row (d + 2) 52 [some (aR 12 0), some (aI (u : Int)), some (aI y), some (aI z), some (aI y52)] [] hh52 Q := by
            refine fw_up (fun c hc52 ih52 => ?_)
            intro y52  hh52 ey52 eh52
            subst ey52
            subst eh52
            show fwWP mX12_row (d + 2) 52 [some (aR 12 0), some (aI (u : Int)), some (aI y), some (aI z), some (aI (c : Int))] [] (fwUc (fwUp (fwUp h 46 0 u z) 47 0 u y) 48 0 (fun s => if 60 * u ≤ s ∧ s < 60 * u + c then 0 else h 48 0 s)) Q
            refine w_iload dX12_row_52 rfl ?_
            refine w_bipush dX12_row_54 rfl ?_
            refine w_icmp_ge 78 dX12_row_56 (by decide) (by omega) (by omega) (fun c56 => ?_) (fun c56 => ?_)
            · have ec52 : 60 = c := by omega
              subst ec52
              refine w_iconst dX12_row_78 ?_
              exact w_iretE dX12_row_79 rfl rfl (k.2.2 (by omega) (by omega))
            · refine w_aload_n dX12_row_59 rfl ?_
              refine w_getr 48 0 dX12_row_60 fl_X12_53 rfl (by decide) ?_
              refine w_bipush dX12_row_63 rfl ?_
              refine w_iload_n dX12_row_65 rfl ?_
              refine w_imul dX12_row_66 ?_
              refine w_iload dX12_row_67 rfl ?_
              refine w_iadd dX12_row_69 ?_
              refine w_lconst (z := 0) dX12_row_70 rfl ?_
              refine w_last dX12_row_71 rfl (by decide) (by omega) (by omega) ?_
              refine w_iinc [some (aR 12 0), some (aI (u : Int)), some (aI y), some (aI z), some (aI ((c : Int) + 1))] dX12_row_72 rfl rfl (by decide) ?_
              refine w_goto 52 dX12_row_75 (by decide) ?_
              refine ih52 (by omega) _ _ ?_ ?_
              · exact (by omega)
              · exact (by rw [fwUp_uc, show (60 * (u : Int) + (c : Int)).toNat = 60 * u + c by omega]; exact congrArg _ (rz_s (h 48 0) u c))
          refine lp52 0 (Nat.zero_le _) _ _ ?_ ?_
          · exact (by omega)
          · exact (by rw [← rz_0 (h 48 0) u]; exact (fwUc_self (fwUp (fwUp h 46 0 u z) 47 0 u y) 48 0).symm)
        · refine w_bipush dX12_row_32 rfl ?_
          exact w_iretE dX12_row_34 rfl rfl (k.2.1 (by omega) (by omega))
      · refine w_bipush dX12_row_25 rfl ?_
        exact w_iretE dX12_row_27 rfl rfl (k.1 (by omega))
def mdCut (v w : Int) : Int := fwLshr (fwLshl v (64 - fwShl 8 w)) (64 - fwShl 8 w)
set_option maxRecDepth 100000 in
set_option maxHeartbeats 4000000 in
theorem c_X12_cut {d : Nat} {h : fwH} {Q : Option fwV → fwH → Prop} (v x : Int)  (k : Q (some (aJ (mdCut v x))) h) : fwCt mX12_cut (d + 0) [aJ v, aI x] h Q := by
  refine fwCt_of [some (aJ v), none, some (aI x), none] rfl rfl rfl ?_
  refine w_bipush dX12_cut_0 rfl ?_
  refine w_bipush dX12_cut_2 rfl ?_
  refine w_iload_n dX12_cut_4 rfl ?_
  refine w_ishl dX12_cut_5 ?_
  refine w_isub dX12_cut_6 ?_
  refine w_istore_n [some (aJ v), none, some (aI x), some (aI (64 - (fwShl 8 x)))] dX12_cut_7 rfl (by decide) ?_
  refine w_lload_n dX12_cut_8 rfl ?_
  refine w_iload_n dX12_cut_9 rfl ?_
  refine w_lshl dX12_cut_10 ?_
  refine w_iload_n dX12_cut_11 rfl ?_
  refine w_lshr dX12_cut_12 ?_
  exact w_lret dX12_cut_13 rfl k
set_option maxRecDepth 100000 in
set_option maxHeartbeats 4000000 in
theorem c_X12_write {d : Nat} {h : fwH} {Q : Option fwV → fwH → Prop} (x y v : Int) (hx : -2147483648 ≤ x ∧ x < 2147483648) (hy : -2147483648 ≤ y ∧ y < 2147483648) (hmn : ∀ s : Nat, s < 4 → -1 ≤ h 46 0 s ∧ h 46 0 s ≤ 60) (k : (¬ (0 ≤ x ∧ x < 4) → Q (some (aI (-2))) h) ∧ ((0 ≤ x ∧ x < 4) → h 46 0 x.toNat = -1 → Q (some (aI (-6))) h) ∧ ((0 ≤ x ∧ x < 4) → h 46 0 x.toNat ≠ -1 → ¬ (0 ≤ y ∧ y < h 46 0 x.toNat) → Q (some (aI (-7))) h) ∧ ((0 ≤ x ∧ x < 4) → h 46 0 x.toNat ≠ -1 → (0 ≤ y ∧ y < h 46 0 x.toNat) → Q (some (aI 0)) (fwUp h 48 0 (60 * x.toNat + y.toNat) (mdCut v (h 47 0 x.toNat))))) : fwCt mX12_write (d + 2) [aR 12 0, aI x, aI y, aJ v] h Q := by
  refine fwCt_of [some (aR 12 0), some (aI x), some (aI y), some (aJ v), none] rfl rfl rfl ?_
  refine w_iload_n dX12_write_0 rfl ?_
  refine w_callS (d := d + 1) (S := []) [aI x] dX12_write_1 ml_X12_357 ok_X12_isSlot st_X12_isSlot rfl (Nat.le_of_ble_eq_true rfl) ?_
  refine c_X12_isSlot (d := d) x (by omega) ?_
  show fwWP mX12_write (d + 2) 4 [some (aR 12 0), some (aI x), some (aI y), some (aJ v), none] [aI (fwB (0 ≤ x ∧ x ≤ 3))] h Q
  refine w_ifB_ne 10 dX12_write_4 (by decide) (fun c4 => ?_) (fun c4 => ?_)
  · obtain ⟨u, rfl⟩ : ∃ u : Nat, x = (u : Int) := ⟨x.toNat, by omega⟩
    have hm := hmn u (by omega)
    refine w_aload_n dX12_write_10 rfl ?_
    refine w_getr 46 0 dX12_write_11 fl_X12_47 rfl (by decide) ?_
    refine w_iload_n dX12_write_14 rfl ?_
    refine w_ialdE (v := h 46 0 u) dX12_write_15 rfl (by decide) (by omega) (by omega) rfl ?_
    refine w_iconst dX12_write_16 ?_
    refine w_icmp_ne 23 dX12_write_17 (by decide) (by omega) (by omega) (fun c17 => ?_) (fun c17 => ?_)
    · refine w_iload_n dX12_write_23 rfl ?_
      refine w_i2l dX12_write_24 (by omega) ?_
      refine w_lconst (z := 0) dX12_write_25 rfl ?_
      refine w_aload_n dX12_write_26 rfl ?_
      refine w_getr 46 0 dX12_write_27 fl_X12_47 rfl (by decide) ?_
      refine w_iload_n dX12_write_30 rfl ?_
      refine w_ialdE (v := h 46 0 u) dX12_write_31 rfl (by decide) (by omega) (by omega) rfl ?_
      refine w_iconst dX12_write_32 ?_
      refine w_isub dX12_write_33 ?_
      refine w_i2l dX12_write_34 (by omega) ?_
      refine w_callS (d := d + 1) (S := []) [aJ y, aJ 0, aJ ((h 46 0 u) - 1)] dX12_write_35 ml_X12_65 ok_X12_in st_X12_in rfl (Nat.le_of_ble_eq_true rfl) ?_
      refine c_X12_in (d := (d + 1)) y 0 ((h 46 0 u) - 1) (by omega) (by omega) (by omega) ?_
      show fwWP mX12_write (d + 2) 38 [some (aR 12 0), some (aI (u : Int)), some (aI y), some (aJ v), none] [aI (fwB (0 ≤ y ∧ y ≤ ((h 46 0 u) - 1)))] h Q
      refine w_ifB_ne 44 dX12_write_38 (by decide) (fun c38 => ?_) (fun c38 => ?_)
      · refine w_aload_n dX12_write_44 rfl ?_
        refine w_getr 48 0 dX12_write_45 fl_X12_53 rfl (by decide) ?_
        refine w_bipush dX12_write_48 rfl ?_
        refine w_iload_n dX12_write_50 rfl ?_
        refine w_imul dX12_write_51 ?_
        refine w_iload_n dX12_write_52 rfl ?_
        refine w_iadd dX12_write_53 ?_
        refine w_lload_n dX12_write_54 rfl ?_
        refine w_aload_n dX12_write_55 rfl ?_
        refine w_getr 47 0 dX12_write_56 fl_X12_50 rfl (by decide) ?_
        refine w_iload_n dX12_write_59 rfl ?_
        refine w_ialdE (v := h 47 0 u) dX12_write_60 rfl (by decide) (by omega) (by omega) rfl ?_
        refine w_callS (d := d + 1) (S := [aI ((60 * (u : Int)) + y), aR 48 0]) [aJ v, aI (h 47 0 u)] dX12_write_61 ml_X12_407 ok_X12_cut st_X12_cut rfl (Nat.le_of_ble_eq_true rfl) ?_
        refine c_X12_cut (d := (d + 1)) v (h 47 0 u) ?_
        show fwWP mX12_write (d + 2) 64 [some (aR 12 0), some (aI (u : Int)), some (aI y), some (aJ v), none] [aJ (mdCut v (h 47 0 u)), aI ((60 * (u : Int)) + y), aR 48 0] h Q
        refine w_last dX12_write_64 rfl (by decide) (by omega) (by omega) ?_
        refine w_iconst dX12_write_65 ?_
        rw [show (60 * (u : Int) + y).toNat = 60 * u + y.toNat by omega]
        exact w_iretE dX12_write_66 rfl rfl (k.2.2.2 (by omega) (by show h 46 0 u ≠ -1; omega) (by show 0 ≤ y ∧ y < h 46 0 u; omega))
      · refine w_bipush dX12_write_41 rfl ?_
        exact w_iretE dX12_write_43 rfl rfl (k.2.2.1 (by omega) (by show h 46 0 u ≠ -1; omega) (by show ¬ (0 ≤ y ∧ y < h 46 0 u); omega))
    · refine w_bipush dX12_write_20 rfl ?_
      exact w_iretE dX12_write_22 rfl rfl (k.2.1 (by omega) (by show h 46 0 u = -1; omega))
  · refine w_bipush dX12_write_7 rfl ?_
    exact w_iretE dX12_write_9 rfl rfl (k.1 (by omega))
theorem mLaid_r (S : Nat → Int) : ∀ c : Nat, 0 ≤ mLaid S c ∧ mLaid S c ≤ c := by
  intro c
  induction c with
  | zero => simp [mLaid]
  | succ c ih => rw [mLaid]; split <;> omega
set_option maxRecDepth 100000 in
set_option maxHeartbeats 4000000 in
theorem c_X12_count {d : Nat} {h gg : fwH} {Q : Option fwV → fwH → Prop} (x : Int) (J : cOk gg) (R : jF gg h) (S : jS gg h) (T5 : h 12 0 5 = gg 1 0 1) (hx : -2147483648 ≤ x ∧ x < 2147483648) (k : Q (some (aI (an_count gg x))) h) : fwCt mX12_count (d + 1) [aR 12 0, aI x] h Q := by
  refine fwCt_of [some (aR 12 0), some (aI x), none, none] rfl rfl rfl ?_
  obtain ⟨hl, hP, hG, -, -, -, hlw, -, ha, hs, -, hsc⟩ := id J
  obtain ⟨⟨g1, g2⟩, ⟨g3, g4⟩, ⟨g5, g6⟩, g7, -⟩ := id hG
  have hpz := hP.1
  refine w_iconst dX12_count_0 ?_
  refine w_istore_n [some (aR 12 0), some (aI x), some (aI 0), none] dX12_count_1 rfl (by decide) ?_
  refine w_iload_n dX12_count_2 rfl ?_
  rcases (show x = 0 ∨ x = 1 ∨ x = 2 ∨ x = 3 ∨ x = 4 ∨ x = 5 ∨ x = 6 ∨ x = 7 ∨ x = 8 ∨ x = 9 ∨ (x < 0 ∨ 9 < x) by omega) with rfl | rfl | rfl | rfl | rfl | rfl | rfl | rfl | rfl | rfl | hc9
  · refine w_tabIn (off := 53) 56 dX12_count_3 (by omega) (by omega) (by omega) rfl (by decide) ?_
    refine w_aload_n dX12_count_56 rfl ?_
    refine w_getr 36 0 dX12_count_57 fl_X12_9 rfl (by decide) ?_
    refine w_iconst dX12_count_60 ?_
    refine w_ialdE (v := gg 4 0 1) dX12_count_61 rfl (by decide) (by omega) (by omega) R.1 ?_
    exact w_iretE dX12_count_62 rfl (by rfl) k
  · refine w_tabIn (off := 60) 63 dX12_count_3 (by omega) (by omega) (by omega) rfl (by decide) ?_
    refine w_aload_n dX12_count_63 rfl ?_
    refine w_getr 36 0 dX12_count_64 fl_X12_9 rfl (by decide) ?_
    refine w_bipush dX12_count_67 rfl ?_
    refine w_ialdE (v := gg 5 0 3) dX12_count_69 rfl (by decide) (by omega) (by omega) R.2.2.2.2.2.2.1 ?_
    exact w_iretE dX12_count_70 rfl (by rfl) k
  · refine w_tabIn (off := 68) 71 dX12_count_3 (by omega) (by omega) (by omega) rfl (by decide) ?_
    refine w_aload_n dX12_count_71 rfl ?_
    refine w_getr 36 0 dX12_count_72 fl_X12_9 rfl (by decide) ?_
    refine w_iconst dX12_count_75 ?_
    refine w_ialdE (v := gg 4 0 2) dX12_count_76 rfl (by decide) (by omega) (by omega) R.2.1 ?_
    exact w_iretE dX12_count_77 rfl (by rfl) k
  · refine w_tabIn (off := 75) 78 dX12_count_3 (by omega) (by omega) (by omega) rfl (by decide) ?_
    refine w_aload_n dX12_count_78 rfl ?_
    refine w_getr 36 0 dX12_count_79 fl_X12_9 rfl (by decide) ?_
    refine w_iconst dX12_count_82 ?_
    refine w_ialdE (v := gg 4 0 3) dX12_count_83 rfl (by decide) (by omega) (by omega) R.2.2.1 ?_
    exact w_iretE dX12_count_84 rfl (by rfl) k
  · refine w_tabIn (off := 82) 85 dX12_count_3 (by omega) (by omega) (by omega) rfl (by decide) ?_
    refine w_aload_n dX12_count_85 rfl ?_
    refine w_getr 36 0 dX12_count_86 fl_X12_9 rfl (by decide) ?_
    refine w_iconst dX12_count_89 ?_
    refine w_ialdE (v := gg 3 0 4) dX12_count_90 rfl (by decide) (by omega) (by omega) R.2.2.2.1 ?_
    exact w_iretE dX12_count_91 rfl (by rfl) k
  · refine w_tabIn (off := 89) 92 dX12_count_3 (by omega) (by omega) (by omega) rfl (by decide) ?_
    refine w_aload_n dX12_count_92 rfl ?_
    refine w_getr 36 0 dX12_count_93 fl_X12_9 rfl (by decide) ?_
    refine w_iconst dX12_count_96 ?_
    refine w_ialdE (v := gg 3 0 5) dX12_count_97 rfl (by decide) (by omega) (by omega) R.2.2.2.2.2.1 ?_
    exact w_iretE dX12_count_98 rfl (by rfl) k
  · refine w_tabIn (off := 96) 99 dX12_count_3 (by omega) (by omega) (by omega) rfl (by decide) ?_
    refine w_aload_n dX12_count_99 rfl ?_
    refine w_getr 36 0 dX12_count_100 fl_X12_9 rfl (by decide) ?_
    refine w_bipush dX12_count_103 rfl ?_
    refine w_ialdE (v := gg 3 0 6) dX12_count_105 rfl (by decide) (by omega) (by omega) R.2.2.2.2.2.2.2.1 ?_
    exact w_iretE dX12_count_106 rfl (by rfl) k
  · refine w_tabIn (off := 104) 107 dX12_count_3 (by omega) (by omega) (by omega) rfl (by decide) ?_
    refine w_aload_n dX12_count_107 rfl ?_
    refine w_getiE (v := gg 1 0 1) dX12_count_108 fl_X12_81 rfl (by decide) T5 ?_
    exact w_iretE dX12_count_111 rfl (by rfl) k
  · refine w_tabIn (off := 109) 112 dX12_count_3 (by omega) (by omega) (by omega) rfl (by decide) ?_
    refine w_aload_n dX12_count_112 rfl ?_
    refine w_getr 36 0 dX12_count_113 fl_X12_9 rfl (by decide) ?_
    refine w_bipush dX12_count_116 rfl ?_
    refine w_ialdE (v := gg 3 0 3) dX12_count_118 rfl (by decide) (by omega) (by omega) R.2.2.2.2.2.2.2.2.1 ?_
    exact w_iretE dX12_count_119 rfl (by rfl) k
  · refine w_tabIn (off := 117) 120 dX12_count_3 (by omega) (by omega) (by omega) rfl (by decide) ?_
    refine w_iconst dX12_count_120 ?_
    refine w_istore_n [some (aR 12 0), some (aI 9), some (aI 0), some (aI 0)] dX12_count_121 rfl (by decide) ?_
    have lp122 : ∀ c : Nat, c ≤ 4 → ∀ (y122 nv : Int), y122 = (c : Int) → nv = mLaid (gg 35 0) c → fwWP mX12_count (d + 1) 122 [some (aR 12 0), some (aI 9), some (aI nv), some (aI y122)] [] h Q := by
      refine fw_up (fun c hc122 ih122 => ?_)
      intro y122 nv ey122 e_nv
      subst ey122
      subst e_nv
      show fwWP mX12_count (d + 1) 122 [some (aR 12 0), some (aI 9), some (aI (mLaid (gg 35 0) c)), some (aI (c : Int))] [] h Q
      refine w_iload_n dX12_count_122 rfl ?_
      refine w_iconst dX12_count_123 ?_
      refine w_icmp_ge 151 dX12_count_124 (by decide) (by omega) (by omega) (fun c124 => ?_) (fun c124 => ?_)
      · have ec122 : 4 = c := by omega
        subst ec122
        refine w_iload_n dX12_count_151 rfl ?_
        exact w_iretE dX12_count_152 rfl (by rfl) k
      · have hlr := mLaid_r (gg 35 0) c
        have hsz := (hs c (by omega)).1
        refine w_iload_n dX12_count_127 rfl ?_
        refine w_aload_n dX12_count_128 rfl ?_
        refine w_getr 46 0 dX12_count_129 fl_X12_47 rfl (by decide) ?_
        refine w_iload_n dX12_count_132 rfl ?_
        refine w_ialdE (v := gg 35 0 c) dX12_count_133 rfl (by decide) (by omega) (by omega) (S c (by omega)).1 ?_
        refine w_iconst dX12_count_134 ?_
        refine w_icmp_ne 142 dX12_count_135 (by decide) (by omega) (by omega) (fun c135 => ?_) (fun c135 => ?_)
        · refine w_iconst dX12_count_142 ?_
          refine w_iadd dX12_count_143 ?_
          refine w_istore_n [some (aR 12 0), some (aI 9), some (aI ((mLaid (gg 35 0) c) + 1)), some (aI (c : Int))] dX12_count_144 rfl (by decide) ?_
          refine w_iinc [some (aR 12 0), some (aI 9), some (aI ((mLaid (gg 35 0) c) + 1)), some (aI ((c : Int) + 1))] dX12_count_145 rfl rfl (by decide) ?_
          refine w_goto 122 dX12_count_148 (by decide) ?_
          refine ih122 (by omega) _ _ ?_ ?_
          · exact (by omega)
          · exact (by rw [mLaid, if_pos (by omega)])
        · refine w_iconst dX12_count_138 ?_
          refine w_goto 143 dX12_count_139 (by decide) ?_
          refine w_iadd dX12_count_143 ?_
          refine w_istore_n [some (aR 12 0), some (aI 9), some (aI ((mLaid (gg 35 0) c) + 0)), some (aI (c : Int))] dX12_count_144 rfl (by decide) ?_
          refine w_iinc [some (aR 12 0), some (aI 9), some (aI ((mLaid (gg 35 0) c) + 0)), some (aI ((c : Int) + 1))] dX12_count_145 rfl rfl (by decide) ?_
          refine w_goto 122 dX12_count_148 (by decide) ?_
          refine ih122 (by omega) _ _ ?_ ?_
          · exact (by omega)
          · exact (by rw [mLaid, if_neg (by omega)]; omega)
    refine lp122 0 (Nat.zero_le _) _ _ ?_ ?_
    · exact (by omega)
    · exact rfl
  · refine w_tabOut 153 dX12_count_3 (by omega) (by omega) (by decide) ?_
    refine w_iconst dX12_count_153 ?_
    exact w_iretE dX12_count_154 rfl (by unfold an_count; rw [if_neg (by omega)]; rw [if_neg (by omega)]; rw [if_neg (by omega)]; rw [if_neg (by omega)]; rw [if_neg (by omega)]; rw [if_neg (by omega)]; rw [if_neg (by omega)]; rw [if_neg (by omega)]; rw [if_neg (by omega)]; rw [if_neg (by omega)]) k
end
section
set_option maxRecDepth 100000 in
set_option maxHeartbeats 4000000 in
theorem c_X12_isThere {d : Nat} {h gg : fwH} {Q : Option fwV → fwH → Prop} (s b : Nat) (S : jS gg h) (hs : sOk gg) (hsl : s < 4) (hb : 2 * b + 1 < 60) (k : Q (some (aI (fwB (¬ mAll (mNew (gg 33 s) b) b = true)))) h) : fwCt mX12_isThere (d + 1) [aR 12 0, aI (s : Int), aI (2 * (b : Int))] h Q := by
  refine fwCt_of [some (aR 12 0), some (aI (s : Int)), some (aI (2 * (b : Int))), none] rfl rfl rfl ?_
  refine w_iconst dX12_isThere_0 ?_
  refine w_istore_n [some (aR 12 0), some (aI (s : Int)), some (aI (2 * (b : Int))), some (aI 0)] dX12_isThere_1 rfl (by decide) ?_
  have lp2 : ∀ c : Nat, c ≤ b → ∀ (y2  : Int), y2 = 2 * (c : Int) → (mAll (mNew (gg 33 s) b) c = true) → fwWP mX12_isThere (d + 1) 2 [some (aR 12 0), some (aI (s : Int)), some (aI (2 * (b : Int))), some (aI y2)] [] h Q := by
    refine fw_up (fun c hc2 ih2 => ?_)
    intro y2  ey2 iv2_0
    subst ey2
    show fwWP mX12_isThere (d + 1) 2 [some (aR 12 0), some (aI (s : Int)), some (aI (2 * (b : Int))), some (aI (2 * (c : Int)))] [] h Q
    refine w_iload_n dX12_isThere_2 rfl ?_
    refine w_iload_n dX12_isThere_3 rfl ?_
    refine w_icmp_ge 51 dX12_isThere_4 (by decide) (by omega) (by omega) (fun c4 => ?_) (fun c4 => ?_)
    · have ec2 : b = c := by omega
      subst ec2
      refine w_iconst dX12_isThere_51 ?_
      exact w_zretE (P := ¬ mAll (mNew (gg 33 s) b) b = true) dX12_isThere_52 rfl (by rw [fwB_f (fun z0 => z0 iv2_0)]) k
    · refine w_aload_n dX12_isThere_7 rfl ?_
      refine w_iload_n dX12_isThere_8 rfl ?_
      refine w_iload_n dX12_isThere_9 rfl ?_
      refine w_callV (d := d + 0) (S := []) [aI (s : Int), aI (2 * (c : Int))] dX12_isThere_10 ml_X12_360 ok_X12_numberAt vi_X12_numberAt rfl rfl (by decide) rfl (Nat.le_of_ble_eq_true rfl) ?_
      refine c_naE (d := d) s (2 * c) (s : Int) (2 * (c : Int)) S (by omega) (by omega) (by omega) (by omega) ?_
      show fwWP mX12_isThere (d + 1) 13 [some (aR 12 0), some (aI (s : Int)), some (aI (2 * (b : Int))), some (aI (2 * (c : Int)))] [aJ (gg 33 s (2 * c))] h Q
      have hl2 := (hs s (by omega)).2.2 (2 * c) (by omega)
      refine w_aload_n dX12_isThere_13 rfl ?_
      refine w_iload_n dX12_isThere_14 rfl ?_
      refine w_iload_n dX12_isThere_15 rfl ?_
      refine w_callV (d := d + 0) (S := [aJ (gg 33 s (2 * c))]) [aI (s : Int), aI (2 * (b : Int))] dX12_isThere_16 ml_X12_360 ok_X12_numberAt vi_X12_numberAt rfl rfl (by decide) rfl (Nat.le_of_ble_eq_true rfl) ?_
      refine c_naE (d := d) s (2 * b) (s : Int) (2 * (b : Int)) S (by omega) (by omega) (by omega) (by omega) ?_
      show fwWP mX12_isThere (d + 1) 19 [some (aR 12 0), some (aI (s : Int)), some (aI (2 * (b : Int))), some (aI (2 * (c : Int)))] [aJ (gg 33 s (2 * b)), aJ (gg 33 s (2 * c))] h Q
      have hl3 := (hs s (by omega)).2.2 (2 * b) (by omega)
      refine w_lc_ne 45 dX12_isThere_19 dX12_isThere_20 (by decide) (by omega) (by omega) (fun c20 => ?_) (fun c20 => ?_)
      · refine w_iinc [some (aR 12 0), some (aI (s : Int)), some (aI (2 * (b : Int))), some (aI ((2 * (c : Int)) + 2))] dX12_isThere_45 rfl rfl (by decide) ?_
        refine w_goto 2 dX12_isThere_48 (by decide) ?_
        refine ih2 (by omega) _ ?_ ?_
        · exact (by omega)
        · exact (by rw [mAll, iv2_0, Bool.true_and]; exact decide_eq_true (fun z0 => by first | exact c20 z0.1 | exact c40 z0.2))
      · refine w_aload_n dX12_isThere_23 rfl ?_
        refine w_iload_n dX12_isThere_24 rfl ?_
        refine w_iload_n dX12_isThere_25 rfl ?_
        refine w_iconst dX12_isThere_26 ?_
        refine w_iadd dX12_isThere_27 ?_
        refine w_callV (d := d + 0) (S := []) [aI (s : Int), aI ((2 * (c : Int)) + 1)] dX12_isThere_28 ml_X12_360 ok_X12_numberAt vi_X12_numberAt rfl rfl (by decide) rfl (Nat.le_of_ble_eq_true rfl) ?_
        refine c_naE (d := d) s ((2 * c) + 1) (s : Int) ((2 * (c : Int)) + 1) S (by omega) (by omega) (by omega) (by omega) ?_
        show fwWP mX12_isThere (d + 1) 31 [some (aR 12 0), some (aI (s : Int)), some (aI (2 * (b : Int))), some (aI (2 * (c : Int)))] [aJ (gg 33 s ((2 * c) + 1))] h Q
        have hl4 := (hs s (by omega)).2.2 ((2 * c) + 1) (by omega)
        refine w_aload_n dX12_isThere_31 rfl ?_
        refine w_iload_n dX12_isThere_32 rfl ?_
        refine w_iload_n dX12_isThere_33 rfl ?_
        refine w_iconst dX12_isThere_34 ?_
        refine w_iadd dX12_isThere_35 ?_
        refine w_callV (d := d + 0) (S := [aJ (gg 33 s ((2 * c) + 1))]) [aI (s : Int), aI ((2 * (b : Int)) + 1)] dX12_isThere_36 ml_X12_360 ok_X12_numberAt vi_X12_numberAt rfl rfl (by decide) rfl (Nat.le_of_ble_eq_true rfl) ?_
        refine c_naE (d := d) s ((2 * b) + 1) (s : Int) ((2 * (b : Int)) + 1) S (by omega) (by omega) (by omega) (by omega) ?_
        show fwWP mX12_isThere (d + 1) 39 [some (aR 12 0), some (aI (s : Int)), some (aI (2 * (b : Int))), some (aI (2 * (c : Int)))] [aJ (gg 33 s ((2 * b) + 1)), aJ (gg 33 s ((2 * c) + 1))] h Q
        have hl5 := (hs s (by omega)).2.2 ((2 * b) + 1) (by omega)
        refine w_lc_ne 45 dX12_isThere_39 dX12_isThere_40 (by decide) (by omega) (by omega) (fun c40 => ?_) (fun c40 => ?_)
        · refine w_iinc [some (aR 12 0), some (aI (s : Int)), some (aI (2 * (b : Int))), some (aI ((2 * (c : Int)) + 2))] dX12_isThere_45 rfl rfl (by decide) ?_
          refine w_goto 2 dX12_isThere_48 (by decide) ?_
          refine ih2 (by omega) _ ?_ ?_
          · exact (by omega)
          · exact (by rw [mAll, iv2_0, Bool.true_and]; exact decide_eq_true (fun z0 => by first | exact c20 z0.1 | exact c40 z0.2))
        · refine w_iconst dX12_isThere_43 ?_
          exact w_zretE (P := ¬ mAll (mNew (gg 33 s) b) b = true) dX12_isThere_44 rfl (by rw [fwB_t]; intro z0; have z1 := of_decide_eq_true ((mAll_iff _ _).mp z0 c (by omega)); exact z1 ⟨c20, c40⟩) k
  refine lp2 0 (Nat.zero_le _) _ ?_ ?_
  · exact (by omega)
  · exact rfl
set_option maxRecDepth 100000 in
set_option maxHeartbeats 4000000 in
theorem c_X12_hasName {d : Nat} {h gg : fwH} {Q : Option fwV → fwH → Prop} (s b : Nat) (J : cOk gg) (R : jF gg h) (S : jS gg h) (hsl : s < 4) (hb : 2 * b + 1 < 60) (hfo : 0 ≤ gg 33 s (2 * b) ∧ gg 33 s (2 * b) < gg 5 0 3) (k : Q (some (aI (fwB (gg 33 s (2 * b + 1) < gg 18 0 (7 * (gg 33 s (2 * b)).toNat + 1))))) h) : fwCt mX12_hasName (d + 1) [aR 12 0, aI (s : Int), aI (2 * (b : Int))] h Q := by
  refine fwCt_of [some (aR 12 0), some (aI (s : Int)), some (aI (2 * (b : Int)))] rfl rfl rfl ?_
  obtain ⟨hl, hP, hG, -, -, -, hlw, -, ha, hs, -, hsc⟩ := id J
  obtain ⟨⟨g1, g2⟩, ⟨g3, g4⟩, ⟨g5, g6⟩, g7, -⟩ := id hG
  have hpz := hP.1
  refine w_aload_n dX12_hasName_0 rfl ?_
  refine w_iload_n dX12_hasName_1 rfl ?_
  refine w_iload_n dX12_hasName_2 rfl ?_
  refine w_iconst dX12_hasName_3 ?_
  refine w_iadd dX12_hasName_4 ?_
  refine w_callV (d := d + 0) (S := []) [aI (s : Int), aI ((2 * (b : Int)) + 1)] dX12_hasName_5 ml_X12_360 ok_X12_numberAt vi_X12_numberAt rfl rfl (by decide) rfl (Nat.le_of_ble_eq_true rfl) ?_
  refine c_naE (d := d) s ((2 * b) + 1) (s : Int) ((2 * (b : Int)) + 1) S (by omega) (by omega) (by omega) (by omega) ?_
  show fwWP mX12_hasName (d + 1) 8 [some (aR 12 0), some (aI (s : Int)), some (aI (2 * (b : Int)))] [aJ (gg 33 s ((2 * b) + 1))] h Q
  have hl1 := (hs s (by omega)).2.2 ((2 * b) + 1) (by omega)
  refine w_aload_n dX12_hasName_8 rfl ?_
  refine w_aload_n dX12_hasName_9 rfl ?_
  refine w_iload_n dX12_hasName_10 rfl ?_
  refine w_iload_n dX12_hasName_11 rfl ?_
  refine w_callV (d := d + 0) (S := [aR 12 0, aJ (gg 33 s ((2 * b) + 1))]) [aI (s : Int), aI (2 * (b : Int))] dX12_hasName_12 ml_X12_360 ok_X12_numberAt vi_X12_numberAt rfl rfl (by decide) rfl (Nat.le_of_ble_eq_true rfl) ?_
  refine c_naE (d := d) s (2 * b) (s : Int) (2 * (b : Int)) S (by omega) (by omega) (by omega) (by omega) ?_
  show fwWP mX12_hasName (d + 1) 15 [some (aR 12 0), some (aI (s : Int)), some (aI (2 * (b : Int)))] [aJ (gg 33 s (2 * b)), aR 12 0, aJ (gg 33 s ((2 * b) + 1))] h Q
  have hl2 := (hs s (by omega)).2.2 (2 * b) (by omega)
  refine w_l2i dX12_hasName_15 ?_
  refine w_iconst dX12_hasName_16 ?_
  refine w_callV (d := d + 0) (S := [aJ (gg 33 s ((2 * b) + 1))]) [aI (gg 33 s (2 * b)), aI 1] dX12_hasName_17 ml_X12_220 ok_X12_of vi_X12_of rfl rfl (by decide) rfl (Nat.le_of_ble_eq_true rfl) ?_
  refine c_ofE (d := d) (gg 33 s (2 * b)).toNat 1 (gg 33 s (2 * b)) J R (by omega) (by omega) (by omega) ?_
  show fwWP mX12_hasName (d + 1) 20 [some (aR 12 0), some (aI (s : Int)), some (aI (2 * (b : Int)))] [aI (gg 18 0 (7 * (gg 33 s (2 * b)).toNat + 1)), aJ (gg 33 s ((2 * b) + 1))] h Q
  have hof3 := hP.2 (gg 33 s (2 * b)).toNat (by omega)
  refine w_i2l dX12_hasName_20 (by omega) ?_
  refine w_lc_ge 29 dX12_hasName_21 dX12_hasName_22 (by decide) (by omega) (by omega) (fun c22 => ?_) (fun c22 => ?_)
  · refine w_iconst dX12_hasName_29 ?_
    exact w_zretE dX12_hasName_30 rfl (by first | (exfalso; omega) | (rw [fwB_t (by omega)]) | (rw [fwB_f (by omega)])) k
  · refine w_iconst dX12_hasName_25 ?_
    refine w_goto 30 dX12_hasName_26 (by decide) ?_
    exact w_zretE dX12_hasName_30 rfl (by first | (exfalso; omega) | (rw [fwB_t (by omega)]) | (rw [fwB_f (by omega)])) k
set_option maxRecDepth 100000 in
set_option maxHeartbeats 4000000 in
theorem c_X12_asksNames {d : Nat} {h gg : fwH} {Q : Option fwV → fwH → Prop} (x : Int) (J : cOk gg) (R : jF gg h) (S : jS gg h) (hx : -2147483648 ≤ x ∧ x < 2147483648) (k : (¬ mRl gg x → Q (some (aI (mRlR gg x))) h) ∧ (mRl gg x → Q (some (aI 0)) h)) : fwCt mX12_asksNames (d + 2) [aR 12 0, aI x, aI 1] h Q := by
  refine fwCt_of [some (aR 12 0), some (aI x), some (aI 1), none] rfl rfl rfl ?_
  obtain ⟨hl, hP, hG, -, -, -, hlw, -, ha, hs, -, hsc⟩ := id J
  obtain ⟨⟨g1, g2⟩, ⟨g3, g4⟩, ⟨g5, g6⟩, g7, -⟩ := id hG
  have hpz := hP.1
  refine w_iload_n dX12_asksNames_0 rfl ?_
  refine w_callS (d := d + 1) (S := []) [aI x] dX12_asksNames_1 ml_X12_357 ok_X12_isSlot st_X12_isSlot rfl (Nat.le_of_ble_eq_true rfl) ?_
  refine c_X12_isSlot (d := d) x (by omega) ?_
  show fwWP mX12_asksNames (d + 2) 4 [some (aR 12 0), some (aI x), some (aI 1), none] [aI (fwB (0 ≤ x ∧ x ≤ 3))] h Q
  refine w_ifB_eq 18 dX12_asksNames_4 (by decide) (fun c4 => ?_) (fun c4 => ?_)
  · refine w_bipush dX12_asksNames_18 rfl ?_
    exact w_iretE dX12_asksNames_20 rfl (by unfold mRlR; rw [if_neg (by omega)]) (k.1 (fun q0 => by have q1 := q0.1; have q2 := q0.2.1; omega))
  · refine w_aload_n dX12_asksNames_7 rfl ?_
    refine w_callV (d := d + 1) (S := []) [] dX12_asksNames_8 ml_X12_73 ok_X12_isMount vi_X12_isMount rfl rfl (by decide) rfl (Nat.le_of_ble_eq_true rfl) ?_
    refine c_X12_isMount (d := (d + 1)) J R ?_
    show fwWP mX12_asksNames (d + 2) 11 [some (aR 12 0), some (aI x), some (aI 1), none] [aI (fwB (0 < gg 3 0 6))] h Q
    refine w_ifB_eq 18 dX12_asksNames_11 (by decide) (fun c11 => ?_) (fun c11 => ?_)
    · refine w_bipush dX12_asksNames_18 rfl ?_
      exact w_iretE dX12_asksNames_20 rfl (by unfold mRlR; rw [if_neg (by omega)]) (k.1 (fun q0 => by have q1 := q0.1; have q2 := q0.2.1; omega))
    · refine w_iload_n dX12_asksNames_14 rfl ?_
      refine w_if_ne 21 dX12_asksNames_15 (by decide) (by omega) (fun c15 => ?_) (fun c15 => ?_)
      · obtain ⟨s, rfl⟩ : ∃ s : Nat, x = (s : Int) := ⟨x.toNat, by omega⟩
        have hs35 := (hs s (by omega)).1
        refine w_aload_n dX12_asksNames_21 rfl ?_
        refine w_getr 46 0 dX12_asksNames_22 fl_X12_47 rfl (by decide) ?_
        refine w_iload_n dX12_asksNames_25 rfl ?_
        refine w_ialdE (v := gg 35 0 s) dX12_asksNames_26 rfl (by decide) (by omega) (by omega) (S s (by omega)).1 ?_
        refine w_iconst dX12_asksNames_27 ?_
        refine w_icmp_ne 34 dX12_asksNames_28 (by decide) (by omega) (by omega) (fun c28 => ?_) (fun c28 => ?_)
        · refine w_aload_n dX12_asksNames_34 rfl ?_
          refine w_getr 46 0 dX12_asksNames_35 fl_X12_47 rfl (by decide) ?_
          refine w_iload_n dX12_asksNames_38 rfl ?_
          refine w_ialdE (v := gg 35 0 s) dX12_asksNames_39 rfl (by decide) (by omega) (by omega) (S s (by omega)).1 ?_
          refine w_iconst dX12_asksNames_40 ?_
          have hrm : fwRem (gg 35 0 s) 2 = gg 35 0 s % 2 := fwRem_nn (by omega) (by omega)
          refine w_irem dX12_asksNames_41 (by omega) (by omega) ?_
          rw [hrm]
          refine w_if_eq 48 dX12_asksNames_42 (by decide) (by omega) (fun c42 => ?_) (fun c42 => ?_)
          · refine w_iconst dX12_asksNames_48 ?_
            refine w_istore_n [some (aR 12 0), some (aI (s : Int)), some (aI 1), some (aI 0)] dX12_asksNames_49 rfl (by decide) ?_
            have lp50 : ∀ c : Nat, c ≤ (gg 35 0 s / 2).toNat → ∀ (y50  : Int), y50 = 2 * (c : Int) → (mAll (mRollP (gg 33 s) (gg 5 0 3)) c = true) → fwWP mX12_asksNames (d + 2) 50 [some (aR 12 0), some (aI (s : Int)), some (aI 1), some (aI y50)] [] h Q := by
              refine fw_up (fun c hc50 ih50 => ?_)
              intro y50  ey50 iv50_0
              subst ey50
              show fwWP mX12_asksNames (d + 2) 50 [some (aR 12 0), some (aI (s : Int)), some (aI 1), some (aI (2 * (c : Int)))] [] h Q
              refine w_iload_n dX12_asksNames_50 rfl ?_
              refine w_aload_n dX12_asksNames_51 rfl ?_
              refine w_getr 46 0 dX12_asksNames_52 fl_X12_47 rfl (by decide) ?_
              refine w_iload_n dX12_asksNames_55 rfl ?_
              refine w_ialdE (v := gg 35 0 s) dX12_asksNames_56 rfl (by decide) (by omega) (by omega) (S s (by omega)).1 ?_
              refine w_icmp_ge 100 dX12_asksNames_57 (by decide) (by omega) (by omega) (fun c57 => ?_) (fun c57 => ?_)
              · have ec50 : (gg 35 0 s / 2).toNat = c := by omega
                subst ec50
                refine w_iconst dX12_asksNames_100 ?_
                exact w_iret dX12_asksNames_101 rfl (k.2 ⟨by omega, by omega, c28, by show gg 35 0 s % 2 = 0; omega, iv50_0⟩)
              · refine w_aload_n dX12_asksNames_60 rfl ?_
                refine w_aload_n dX12_asksNames_61 rfl ?_
                refine w_iload_n dX12_asksNames_62 rfl ?_
                refine w_iload_n dX12_asksNames_63 rfl ?_
                refine w_callV (d := d + 1) (S := [aR 12 0]) [aI (s : Int), aI (2 * (c : Int))] dX12_asksNames_64 ml_X12_360 ok_X12_numberAt vi_X12_numberAt rfl rfl (by decide) rfl (Nat.le_of_ble_eq_true rfl) ?_
                refine c_naE (d := (d + 1)) s (2 * c) (s : Int) (2 * (c : Int)) S (by omega) (by omega) (by omega) (by omega) ?_
                show fwWP mX12_asksNames (d + 2) 67 [some (aR 12 0), some (aI (s : Int)), some (aI 1), some (aI (2 * (c : Int)))] [aJ (gg 33 s (2 * c)), aR 12 0] h Q
                have hl7 := (hs s (by omega)).2.2 (2 * c) (by omega)
                refine w_callV (d := d + 1) (S := []) [aJ (gg 33 s (2 * c))] dX12_asksNames_67 ml_X12_235 ok_X12_isFolk vi_X12_isFolk rfl rfl (by decide) rfl (Nat.le_of_ble_eq_true rfl) ?_
                refine c_X12_isFolk (d := d) (gg 33 s (2 * c)) J R (by omega) ?_
                show fwWP mX12_asksNames (d + 2) 70 [some (aR 12 0), some (aI (s : Int)), some (aI 1), some (aI (2 * (c : Int)))] [aI (fwB (0 ≤ (gg 33 s (2 * c)) ∧ (gg 33 s (2 * c)) ≤ gg 5 0 3 - 1))] h Q
                refine w_ifB_eq 91 dX12_asksNames_70 (by decide) (fun c70 => ?_) (fun c70 => ?_)
                · refine w_bipush dX12_asksNames_91 rfl ?_
                  exact w_iretE dX12_asksNames_93 rfl (by unfold mRlR; rw [if_neg (fun q0 => c28 q0.2.2)]) (k.1 (fun q0 => by have q9 : mAll (mRollP (gg 33 s) (gg 5 0 3)) (gg 35 0 s / 2).toNat = true := q0.2.2.2.2; have q1 := of_decide_eq_true ((mAll_iff _ _).mp q9 c (by omega)); omega))
                · refine w_aload_n dX12_asksNames_73 rfl ?_
                  refine w_iload_n dX12_asksNames_74 rfl ?_
                  refine w_iload_n dX12_asksNames_75 rfl ?_
                  refine w_iconst dX12_asksNames_76 ?_
                  refine w_iadd dX12_asksNames_77 ?_
                  refine w_callV (d := d + 1) (S := []) [aI (s : Int), aI ((2 * (c : Int)) + 1)] dX12_asksNames_78 ml_X12_360 ok_X12_numberAt vi_X12_numberAt rfl rfl (by decide) rfl (Nat.le_of_ble_eq_true rfl) ?_
                  refine c_naE (d := (d + 1)) s ((2 * c) + 1) (s : Int) ((2 * (c : Int)) + 1) S (by omega) (by omega) (by omega) (by omega) ?_
                  show fwWP mX12_asksNames (d + 2) 81 [some (aR 12 0), some (aI (s : Int)), some (aI 1), some (aI (2 * (c : Int)))] [aJ (gg 33 s ((2 * c) + 1))] h Q
                  have hl9 := (hs s (by omega)).2.2 ((2 * c) + 1) (by omega)
                  refine w_lconst (z := 0) dX12_asksNames_81 rfl ?_
                  refine w_ldc2 (n := 999) dX12_asksNames_82 cs_X12_347 ?_
                  refine w_callS (d := d + 1) (S := []) [aJ (gg 33 s ((2 * c) + 1)), aJ 0, aJ 999] dX12_asksNames_85 ml_X12_65 ok_X12_in st_X12_in rfl (Nat.le_of_ble_eq_true rfl) ?_
                  refine c_X12_in (d := (d + 1)) (gg 33 s ((2 * c) + 1)) 0 999 (by omega) (by omega) (by omega) ?_
                  show fwWP mX12_asksNames (d + 2) 88 [some (aR 12 0), some (aI (s : Int)), some (aI 1), some (aI (2 * (c : Int)))] [aI (fwB (0 ≤ (gg 33 s ((2 * c) + 1)) ∧ (gg 33 s ((2 * c) + 1)) ≤ 999))] h Q
                  refine w_ifB_ne 94 dX12_asksNames_88 (by decide) (fun c88 => ?_) (fun c88 => ?_)
                  · refine w_iinc [some (aR 12 0), some (aI (s : Int)), some (aI 1), some (aI ((2 * (c : Int)) + 2))] dX12_asksNames_94 rfl rfl (by decide) ?_
                    refine w_goto 50 dX12_asksNames_97 (by decide) ?_
                    refine ih50 (by omega) _ ?_ ?_
                    · exact (by omega)
                    · exact (by rw [mAll, iv50_0, Bool.true_and]; exact decide_eq_true (by omega))
                  · refine w_bipush dX12_asksNames_91 rfl ?_
                    exact w_iretE dX12_asksNames_93 rfl (by unfold mRlR; rw [if_neg (fun q0 => c28 q0.2.2)]) (k.1 (fun q0 => by have q9 : mAll (mRollP (gg 33 s) (gg 5 0 3)) (gg 35 0 s / 2).toNat = true := q0.2.2.2.2; have q1 := of_decide_eq_true ((mAll_iff _ _).mp q9 c (by omega)); omega))
            refine lp50 0 (Nat.zero_le _) _ ?_ ?_
            · exact (by omega)
            · exact rfl
          · refine w_bipush dX12_asksNames_45 rfl ?_
            exact w_iretE dX12_asksNames_47 rfl (by unfold mRlR; rw [if_neg (fun q0 => c28 q0.2.2)]) (k.1 (fun q0 => by have q1 : gg 35 0 s % 2 = 0 := q0.2.2.2.1; omega))
        · refine w_bipush dX12_asksNames_31 rfl ?_
          exact w_iretE dX12_asksNames_33 rfl (by unfold mRlR; rw [if_pos ⟨by omega, by omega, c28⟩]) (k.1 (fun q0 => q0.2.2.1 c28))
      · (exfalso; omega)
set_option maxRecDepth 100000 in
set_option maxHeartbeats 4000000 in
theorem c_X12_stands {d : Nat} {h gg : fwH} {Q : Option fwV → fwH → Prop} (x : Int) (J : cOk gg) (R : jF gg h) (S : jS gg h) (hx : -2147483648 ≤ x ∧ x < 2147483648) (k : Q (some (aI (an_stands gg x))) h) : fwCt mX12_stands (d + 3) [aR 12 0, aI x] h Q := by
  refine fwCt_of [some (aR 12 0), some (aI x), none, none, none] rfl rfl rfl ?_
  obtain ⟨hl, hP, hG, -, -, -, hlw, -, ha, hs, -, hsc⟩ := id J
  obtain ⟨⟨g1, g2⟩, ⟨g3, g4⟩, ⟨g5, g6⟩, g7, -⟩ := id hG
  have hpz := hP.1
  refine w_aload_n dX12_stands_0 rfl ?_
  refine w_iload_n dX12_stands_1 rfl ?_
  refine w_iconst dX12_stands_2 ?_
  refine w_callV (d := d + 2) (S := []) [aI x, aI 1] dX12_stands_3 ml_X12_380 ok_X12_asksNames vi_X12_asksNames rfl rfl (by decide) rfl (Nat.le_of_ble_eq_true rfl) ?_
  refine c_X12_asksNames (d := d) x J R S (by omega) ⟨fun hrl => ?_, fun hrl => ?_⟩
  · have hrn := mRlR_n gg x
    show fwWP mX12_stands (d + 3) 6 [some (aR 12 0), some (aI x), none, none, none] [aI (mRlR gg x)] h Q
    refine w_istore_n [some (aR 12 0), some (aI x), some (aI (mRlR gg x)), none, none] dX12_stands_6 rfl (by decide) ?_
    refine w_iload_n dX12_stands_7 rfl ?_
    refine w_if_ge 13 dX12_stands_8 (by decide) (by omega) (fun c8 => ?_) (fun c8 => ?_)
    · (exfalso; omega)
    · refine w_iload_n dX12_stands_11 rfl ?_
      exact w_iretE dX12_stands_12 rfl (by unfold an_stands; rw [if_neg hrl]) k
  · show fwWP mX12_stands (d + 3) 6 [some (aR 12 0), some (aI x), none, none, none] [aI 0] h Q
    refine w_istore_n [some (aR 12 0), some (aI x), some (aI 0), none, none] dX12_stands_6 rfl (by decide) ?_
    refine w_iload_n dX12_stands_7 rfl ?_
    refine w_if_ge 13 dX12_stands_8 (by decide) (by omega) (fun c8 => ?_) (fun c8 => ?_)
    · have hx4 := hrl.1
      obtain ⟨s, rfl⟩ : ∃ s : Nat, x = (s : Int) := ⟨x.toNat, by omega⟩
      have hs35 := (hs s (by omega)).1
      have hz1 : gg 35 0 s ≠ -1 := hrl.2.2.1
      have hz2 : gg 35 0 s % 2 = 0 := hrl.2.2.2.1
      have hal : mAll (mRollP (gg 33 s) (gg 5 0 3)) (gg 35 0 s / 2).toNat = true := hrl.2.2.2.2
      refine w_iconst dX12_stands_13 ?_
      refine w_istore_n [some (aR 12 0), some (aI (s : Int)), some (aI 0), some (aI 0), none] dX12_stands_14 rfl (by decide) ?_
      refine w_iconst dX12_stands_15 ?_
      refine w_istore [some (aR 12 0), some (aI (s : Int)), some (aI 0), some (aI 0), some (aI 0)] dX12_stands_16 rfl (by decide) ?_
      have lp18 : ∀ c : Nat, c ≤ (gg 35 0 s / 2).toNat → ∀ (y18 nv : Int), y18 = 2 * (c : Int) → nv = mStand (gg 33 s) (gg 18 0) 0 c → fwWP mX12_stands (d + 3) 18 [some (aR 12 0), some (aI (s : Int)), some (aI 0), some (aI nv), some (aI y18)] [] h Q := by
        refine fw_up (fun c hc18 ih18 => ?_)
        intro y18 nv ey18 e_nv
        subst ey18
        subst e_nv
        show fwWP mX12_stands (d + 3) 18 [some (aR 12 0), some (aI (s : Int)), some (aI 0), some (aI (mStand (gg 33 s) (gg 18 0) 0 c)), some (aI (2 * (c : Int)))] [] h Q
        refine w_iload dX12_stands_18 rfl ?_
        refine w_aload_n dX12_stands_20 rfl ?_
        refine w_getr 46 0 dX12_stands_21 fl_X12_47 rfl (by decide) ?_
        refine w_iload_n dX12_stands_24 rfl ?_
        refine w_ialdE (v := gg 35 0 s) dX12_stands_25 rfl (by decide) (by omega) (by omega) (S s (by omega)).1 ?_
        refine w_icmp_ge 63 dX12_stands_26 (by decide) (by omega) (by omega) (fun c26 => ?_) (fun c26 => ?_)
        · have ec18 : (gg 35 0 s / 2).toNat = c := by omega
          subst ec18
          refine w_iload_n dX12_stands_63 rfl ?_
          exact w_iretE dX12_stands_64 rfl (by unfold an_stands; rw [if_pos hrl]; rfl) k
        · have hrp := of_decide_eq_true ((mAll_iff _ _).mp hal c (by omega))
          refine w_iload_n dX12_stands_29 rfl ?_
          refine w_aload_n dX12_stands_30 rfl ?_
          refine w_iload_n dX12_stands_31 rfl ?_
          refine w_iload dX12_stands_32 rfl ?_
          refine w_callV (d := d + 2) (S := [aI (mStand (gg 33 s) (gg 18 0) 0 c)]) [aI (s : Int), aI (2 * (c : Int))] dX12_stands_34 ml_X12_384 ok_X12_hasName vi_X12_hasName rfl rfl (by decide) rfl (Nat.le_of_ble_eq_true rfl) ?_
          refine c_X12_hasName (d := (d + 1)) s c J R S (by omega) (by omega) (by omega) ?_
          show fwWP mX12_stands (d + 3) 37 [some (aR 12 0), some (aI (s : Int)), some (aI 0), some (aI (mStand (gg 33 s) (gg 18 0) 0 c)), some (aI (2 * (c : Int)))] [aI (fwB (gg 33 s (2 * c + 1) < gg 18 0 (7 * (gg 33 s (2 * c)).toNat + 1))), aI (mStand (gg 33 s) (gg 18 0) 0 c)] h Q
          refine w_ifB_eq 54 dX12_stands_37 (by decide) (fun c37 => ?_) (fun c37 => ?_)
          · refine w_iconst dX12_stands_54 ?_
            refine w_iadd dX12_stands_55 ?_
            refine w_istore_n [some (aR 12 0), some (aI (s : Int)), some (aI 0), some (aI ((mStand (gg 33 s) (gg 18 0) 0 c) + 0)), some (aI (2 * (c : Int)))] dX12_stands_56 rfl (by decide) ?_
            refine w_iinc [some (aR 12 0), some (aI (s : Int)), some (aI 0), some (aI ((mStand (gg 33 s) (gg 18 0) 0 c) + 0)), some (aI ((2 * (c : Int)) + 2))] dX12_stands_57 rfl rfl (by decide) ?_
            refine w_goto 18 dX12_stands_60 (by decide) ?_
            refine ih18 (by omega) _ _ ?_ ?_
            · exact (by omega)
            · exact (by rw [mStand, if_neg (show ¬ mHow (gg 33 s) (gg 18 0) c = 0 by unfold mHow; by_cases z0 : mAll (mNew (gg 33 s) c) c = true; (rw [if_pos z0, if_neg (by omega)]; omega); (rw [if_neg z0]; omega))]; omega)
          · refine w_aload_n dX12_stands_40 rfl ?_
            refine w_iload_n dX12_stands_41 rfl ?_
            refine w_iload dX12_stands_42 rfl ?_
            refine w_callV (d := d + 2) (S := [aI (mStand (gg 33 s) (gg 18 0) 0 c)]) [aI (s : Int), aI (2 * (c : Int))] dX12_stands_44 ml_X12_387 ok_X12_isThere vi_X12_isThere rfl rfl (by decide) rfl (Nat.le_of_ble_eq_true rfl) ?_
            refine c_X12_isThere (d := (d + 1)) s c S hs (by omega) (by omega) ?_
            show fwWP mX12_stands (d + 3) 47 [some (aR 12 0), some (aI (s : Int)), some (aI 0), some (aI (mStand (gg 33 s) (gg 18 0) 0 c)), some (aI (2 * (c : Int)))] [aI (fwB (¬ mAll (mNew (gg 33 s) c) c = true)), aI (mStand (gg 33 s) (gg 18 0) 0 c)] h Q
            refine w_ifB_ne 54 dX12_stands_47 (by decide) (fun c47 => ?_) (fun c47 => ?_)
            · refine w_iconst dX12_stands_54 ?_
              refine w_iadd dX12_stands_55 ?_
              refine w_istore_n [some (aR 12 0), some (aI (s : Int)), some (aI 0), some (aI ((mStand (gg 33 s) (gg 18 0) 0 c) + 0)), some (aI (2 * (c : Int)))] dX12_stands_56 rfl (by decide) ?_
              refine w_iinc [some (aR 12 0), some (aI (s : Int)), some (aI 0), some (aI ((mStand (gg 33 s) (gg 18 0) 0 c) + 0)), some (aI ((2 * (c : Int)) + 2))] dX12_stands_57 rfl rfl (by decide) ?_
              refine w_goto 18 dX12_stands_60 (by decide) ?_
              refine ih18 (by omega) _ _ ?_ ?_
              · exact (by omega)
              · exact (by rw [mStand, if_neg (show ¬ mHow (gg 33 s) (gg 18 0) c = 0 by unfold mHow; rw [if_neg c47]; omega)]; omega)
            · refine w_iconst dX12_stands_50 ?_
              refine w_goto 55 dX12_stands_51 (by decide) ?_
              refine w_iadd dX12_stands_55 ?_
              refine w_istore_n [some (aR 12 0), some (aI (s : Int)), some (aI 0), some (aI ((mStand (gg 33 s) (gg 18 0) 0 c) + 1)), some (aI (2 * (c : Int)))] dX12_stands_56 rfl (by decide) ?_
              refine w_iinc [some (aR 12 0), some (aI (s : Int)), some (aI 0), some (aI ((mStand (gg 33 s) (gg 18 0) 0 c) + 1)), some (aI ((2 * (c : Int)) + 2))] dX12_stands_57 rfl rfl (by decide) ?_
              refine w_goto 18 dX12_stands_60 (by decide) ?_
              refine ih18 (by omega) _ _ ?_ ?_
              · exact (by omega)
              · exact (by rw [mStand, if_pos (show mHow (gg 33 s) (gg 18 0) c = 0 by unfold mHow; rw [if_pos (Decidable.byContradiction c47), if_pos c37])])
      refine lp18 0 (Nat.zero_le _) _ _ ?_ ?_
      · exact (by omega)
      · exact rfl
    · (exfalso; omega)
end
section
theorem mRs_hb {h : fwH} (J : cOk h) (x : Int) (hx : 0 ≤ x ∧ x < h 4 0 1) : hB (mRs (h 17 0) (mStay (h 4 0 1) (h 17 0) (h 4 0 3) x)) := fun c hc => by
  have := mRs_rng (H := h 17 0) (rs := h 4 0 3) (b := 99) J.2.2.1.1 hx (by omega) J.2.2.2.1 c hc
  omega
theorem mSpo_2 {h : fwH} (J : cOk h) : ∀ c : Nat, (c : Int) ≤ h 4 0 1 → ((mSpo h c).1 = -1 ∧ (mSpo h c).2 = 0) ∨ (0 ≤ (mSpo h c).1 ∧ 0 ≤ (mSpo h c).2 ∧ (mSpo h c).2 ≤ 300000) := by
  intro c hc
  have := mSpo_rng J.2.1 J.2.2.1 c hc
  induction c with
  | zero => exact Or.inl ⟨rfl, rfl⟩
  | succ c ih =>
    have h1 := mSpo_rng J.2.1 J.2.2.1 c (by omega)
    have h2 := ih (by omega) h1
    rw [mSpo] at this ⊢
    split
    · rename_i q
      rw [if_pos q] at this
      exact Or.inr ⟨by dsimp only; omega, this.2⟩
    · exact h2
def mSpM (h : fwH) (c : Nat) : Int := if (mSpo h c).1 = -1 then -1000000000 else (mSpo h c).2
theorem mSpM_r {h : fwH} (J : cOk h) (c : Nat) (hc : (c : Int) ≤ h 4 0 1) : (-1000000000 ≤ mSpM h c ∧ mSpM h c ≤ 300000) ∧ -1 ≤ (mSpo h c).1 ∧ (mSpo h c).1 < c := by
  have h1 := mSpo_rng J.2.1 J.2.2.1 c hc
  unfold mSpM
  split <;> omega
theorem spo_n {h : fwH} {c : Nat} (hs : mStay (h 4 0 1) (h 17 0) (h 4 0 3) (c : Int) = -1) : mSpo h (c + 1) = mSpo h c := by
  rw [mSpo, if_neg (fun z => z.1 hs)]
theorem spo_l {h : fwH} (J : cOk h) {c : Nat} (hc : (c : Int) ≤ h 4 0 1) (hg : 0 ≤ mGt h (mRs (h 17 0) (mStay (h 4 0 1) (h 17 0) (h 4 0 3) (c : Int)))) (hl : mGt h (mRs (h 17 0) (mStay (h 4 0 1) (h 17 0) (h 4 0 3) (c : Int))) ≤ mSpM h c) : mSpo h (c + 1) = mSpo h c := by
  unfold mSpM at hl
  rw [mSpo, if_neg]
  intro z
  rcases z.2 with z1 | z1
  · rw [if_pos z1] at hl; omega
  · split at hl <;> omega
theorem spo_g {h : fwH} (J : cOk h) {c : Nat} (hc : (c : Int) ≤ h 4 0 1) (hs : mStay (h 4 0 1) (h 17 0) (h 4 0 3) (c : Int) ≠ -1) (hl : mSpM h c < mGt h (mRs (h 17 0) (mStay (h 4 0 1) (h 17 0) (h 4 0 3) (c : Int)))) : mSpo h (c + 1) = ((c : Int), mGt h (mRs (h 17 0) (mStay (h 4 0 1) (h 17 0) (h 4 0 3) (c : Int)))) := by
  unfold mSpM at hl
  rw [mSpo, if_pos]
  refine ⟨hs, ?_⟩
  by_cases z : (mSpo h c).1 = -1
  · exact Or.inl z
  · rw [if_neg z] at hl
    exact Or.inr hl
set_option maxRecDepth 100000 in
set_option maxHeartbeats 4000000 in
theorem c_X12_spoil {d : Nat} {h gg : fwH} {Q : Option fwV → fwH → Prop}  (J : cOk gg) (R : jF gg h) (K : jA gg h) (hsh : sc h)  (k : ∀ g, scr h g → Q (some (aI (an_spoil gg ))) g) : fwCt mX12_spoil (d + 6) [aR 12 0] h Q := by
  refine fwCt_of [some (aR 12 0), none, none, none] rfl rfl rfl ?_
  obtain ⟨hl, hP, hG, hM0, htd, hut, hlw, hhc, ha, hs, hT, hsc⟩ := id J
  have hb17 : hB (gg 17 0) := fun c hc => by have := hM0 c hc; omega
  obtain ⟨⟨g1, g2⟩, ⟨g3, g4⟩, ⟨g5, g6⟩, g7, -⟩ := id hG
  have h17_99 : ∀ c : Nat, (c : Int) < gg 4 0 1 → gg 17 0 c ≤ 99 := fun c hc => (hM0 c (by omega)).2
  have hpz := hP.1
  have hrs1 := R.2.2.2.2.2.2.2.2.2.2.2
  refine w_aload_n dX12_spoil_0 rfl ?_
  refine w_callV (d := d + 5) (S := []) [] dX12_spoil_1 ml_X12_73 ok_X12_isMount vi_X12_isMount rfl rfl (by decide) rfl (Nat.le_of_ble_eq_true rfl) ?_
  refine c_X12_isMount (d := (d + 5)) J R ?_
  show fwWP mX12_spoil (d + 6) 4 [some (aR 12 0), none, none, none] [aI (fwB (0 < gg 3 0 6))] h Q
  refine w_ifB_ne 10 dX12_spoil_4 (by decide) (fun c4 => ?_) (fun c4 => ?_)
  · refine w_iconst dX12_spoil_10 ?_
    refine w_istore_n [some (aR 12 0), some (aI (-1)), none, none] dX12_spoil_11 rfl (by decide) ?_
    refine w_ldcw (n := -1000000000) dX12_spoil_12 cs_X12_335 ?_
    refine w_istore_n [some (aR 12 0), some (aI (-1)), some (aI (-1000000000)), none] dX12_spoil_15 rfl (by decide) ?_
    refine w_iconst dX12_spoil_16 ?_
    refine w_istore_n [some (aR 12 0), some (aI (-1)), some (aI (-1000000000)), some (aI 0)] dX12_spoil_17 rfl (by decide) ?_
    have lp18 : ∀ c : Nat, c ≤ (gg 4 0 1).toNat → ∀ (y18 be mo : Int) (A18 : Nat → Int), y18 = (c : Int) → be = (mSpo gg c).1 → mo = mSpM gg c → fwWP mX12_spoil (d + 6) 18 [some (aR 12 0), some (aI be), some (aI mo), some (aI y18)] [] (fwUc h 42 0 A18) Q := by
      refine fw_up (fun c hc18 ih18 => ?_)
      intro y18 be mo A18 ey18 e_be e_mo
      subst ey18
      subst e_be
      subst e_mo
      have hsm := mSpM_r J c (by omega)
      show fwWP mX12_spoil (d + 6) 18 [some (aR 12 0), some (aI ((mSpo gg c).1)), some (aI (mSpM gg c)), some (aI (c : Int))] [] (fwUc h 42 0 A18) Q
      refine w_iload_n dX12_spoil_18 rfl ?_
      refine w_aload_n dX12_spoil_19 rfl ?_
      refine w_getr 36 0 dX12_spoil_20 fl_X12_9 rfl (by decide) ?_
      refine w_iconst dX12_spoil_23 ?_
      refine w_ialdE (v := gg 4 0 1) dX12_spoil_24 rfl (by decide) (by omega) (by omega) R.1 ?_
      refine w_icmp_ge 65 dX12_spoil_25 (by decide) (by omega) (by omega) (fun c25 => ?_) (fun c25 => ?_)
      · have ec18 : (gg 4 0 1).toNat = c := by omega
        subst ec18
        refine w_iload_n dX12_spoil_65 rfl ?_
        exact w_iretE dX12_spoil_66 rfl (by unfold an_spoil; first | (rw [if_pos (by omega)]; done) | (rw [if_neg (by omega)]; done) | (rw [if_pos (by omega)]; rfl) | (rw [if_neg (by omega)]; rfl)) (k _ (scr_uc (scr_rf hsh) rfl (by decide) (by decide) (by decide)))
      · refine w_aload_n dX12_spoil_28 rfl ?_
        refine w_callV (d := d + 5) (S := []) [] dX12_spoil_29 ml_X12_240 ok_X12_asItIs vi_X12_asItIs rfl rfl (by decide) rfl (Nat.le_of_ble_eq_true rfl) ?_
        refine c_X12_asItIs (d := d) J R K (show 1 ≤ gg 4 0 1 by omega) (show 1 ≤ gg 4 0 3 by omega) ?_
        intro A29_3 hA29_3
        show fwWP mX12_spoil (d + 6) 32 [some (aR 12 0), some (aI ((mSpo gg c).1)), some (aI (mSpM gg c)), some (aI (c : Int))] [] (fwUc (fwUc h 42 0 A18) 42 0 A29_3) Q
        rw [show (fwUc (fwUc h 42 0 A18) 42 0 A29_3) = (fwUc h 42 0 A29_3) from by funext a b; simp only [fwUc]; (repeat' split); all_goals first | rfl | (exfalso; omega)]
        have hrb := mRs_hb J (c : Int) (by omega)
        refine w_aload_n dX12_spoil_32 rfl ?_
        refine w_iload_n dX12_spoil_33 rfl ?_
        refine w_callV (d := d + 5) (S := []) [aI (c : Int)] dX12_spoil_34 ml_X12_197 ok_X12_heap0 vi_X12_heap0 rfl rfl (by decide) rfl (Nat.le_of_ble_eq_true rfl) ?_
        refine c_X12_heap0 (d := (d + 1)) (c : Int) (gg 17 0) J R hA29_3 hb17 h17_99 (show 1 ≤ gg 4 0 3 by omega) (show 0 ≤ (c : Int) ∧ (c : Int) < gg 4 0 1 by omega) ?_
        intro A34_4 hA34_4
        show fwWP mX12_spoil (d + 6) 37 [some (aR 12 0), some (aI ((mSpo gg c).1)), some (aI (mSpM gg c)), some (aI (c : Int))] [aI (mStay (gg 4 0 1) (gg 17 0) (gg 4 0 3) (c : Int))] (fwUc (fwUc h 42 0 A29_3) 42 0 A34_4) Q
        rw [show (fwUc (fwUc h 42 0 A29_3) 42 0 A34_4) = (fwUc h 42 0 A34_4) from by funext a b; simp only [fwUc]; (repeat' split); all_goals first | rfl | (exfalso; omega)]
        have hsr9 := mStay_rng (gg 17 0) (rs := gg 4 0 3) (n := gg 4 0 1) (x := (c : Int)) (by omega) (by omega)
        refine w_iconst dX12_spoil_37 ?_
        refine w_icmp_eq 59 dX12_spoil_38 (by decide) (by omega) (by omega) (fun c38 => ?_) (fun c38 => ?_)
        · refine w_iinc [some (aR 12 0), some (aI ((mSpo gg c).1)), some (aI (mSpM gg c)), some (aI ((c : Int) + 1))] dX12_spoil_59 rfl rfl (by decide) ?_
          refine w_goto 18 dX12_spoil_62 (by decide) ?_
          refine ih18 (by omega) _ _ _ _ ?_ ?_ ?_
          · exact (by omega)
          · exact (by rw [spo_n c38])
          · exact (by unfold mSpM; rw [spo_n c38])
        · refine w_aload_n dX12_spoil_41 rfl ?_
          refine w_callV (d := d + 5) (S := []) [] dX12_spoil_42 ml_X12_251 ok_X12_gainOfAll vi_X12_gainOfAll rfl rfl (by decide) rfl (Nat.le_of_ble_eq_true rfl) ?_
          refine c_X12_gainOfAll (d := d) (mRs (gg 17 0) (mStay (gg 4 0 1) (gg 17 0) (gg 4 0 3) (c : Int))) J R hA34_4 hrb (show 1 ≤ gg 4 0 1 by omega) ?_
          show fwWP mX12_spoil (d + 6) 45 [some (aR 12 0), some (aI ((mSpo gg c).1)), some (aI (mSpM gg c)), some (aI (c : Int))] [aI (mSum (mGain (gg 4 0 1) (mRs (gg 17 0) (mStay (gg 4 0 1) (gg 17 0) (gg 4 0 3) (c : Int))) (gg 4 0 2) (gg 18 0)) (gg 5 0 3).toNat)] (fwUc h 42 0 A34_4) Q
          have hga6 := mSum_r2 J hrb (gg 5 0 3).toNat (by omega)
          refine w_iload_n dX12_spoil_45 rfl ?_
          refine w_icmp_gt 52 dX12_spoil_46 (by decide) (by omega) (by omega) (fun c46 => ?_) (fun c46 => ?_)
          · refine w_aload_n dX12_spoil_52 rfl ?_
            refine w_callV (d := d + 5) (S := []) [] dX12_spoil_53 ml_X12_251 ok_X12_gainOfAll vi_X12_gainOfAll rfl rfl (by decide) rfl (Nat.le_of_ble_eq_true rfl) ?_
            refine c_X12_gainOfAll (d := d) (mRs (gg 17 0) (mStay (gg 4 0 1) (gg 17 0) (gg 4 0 3) (c : Int))) J R hA34_4 hrb (show 1 ≤ gg 4 0 1 by omega) ?_
            show fwWP mX12_spoil (d + 6) 56 [some (aR 12 0), some (aI ((mSpo gg c).1)), some (aI (mSpM gg c)), some (aI (c : Int))] [aI (mSum (mGain (gg 4 0 1) (mRs (gg 17 0) (mStay (gg 4 0 1) (gg 17 0) (gg 4 0 3) (c : Int))) (gg 4 0 2) (gg 18 0)) (gg 5 0 3).toNat)] (fwUc h 42 0 A34_4) Q
            have hga8 := mSum_r2 J hrb (gg 5 0 3).toNat (by omega)
            refine w_istore_n [some (aR 12 0), some (aI ((mSpo gg c).1)), some (aI (mSum (mGain (gg 4 0 1) (mRs (gg 17 0) (mStay (gg 4 0 1) (gg 17 0) (gg 4 0 3) (c : Int))) (gg 4 0 2) (gg 18 0)) (gg 5 0 3).toNat)), some (aI (c : Int))] dX12_spoil_56 rfl (by decide) ?_
            refine w_iload_n dX12_spoil_57 rfl ?_
            refine w_istore_n [some (aR 12 0), some (aI (c : Int)), some (aI (mSum (mGain (gg 4 0 1) (mRs (gg 17 0) (mStay (gg 4 0 1) (gg 17 0) (gg 4 0 3) (c : Int))) (gg 4 0 2) (gg 18 0)) (gg 5 0 3).toNat)), some (aI (c : Int))] dX12_spoil_58 rfl (by decide) ?_
            refine w_iinc [some (aR 12 0), some (aI (c : Int)), some (aI (mSum (mGain (gg 4 0 1) (mRs (gg 17 0) (mStay (gg 4 0 1) (gg 17 0) (gg 4 0 3) (c : Int))) (gg 4 0 2) (gg 18 0)) (gg 5 0 3).toNat)), some (aI ((c : Int) + 1))] dX12_spoil_59 rfl rfl (by decide) ?_
            refine w_goto 18 dX12_spoil_62 (by decide) ?_
            refine ih18 (by omega) _ _ _ _ ?_ ?_ ?_
            · exact (by omega)
            · exact (by rw [spo_g J (by omega) c38 c46])
            · exact (by unfold mSpM; rw [spo_g J (by omega) c38 c46, if_neg (by dsimp only; omega)]; rfl)
          · refine w_goto 59 dX12_spoil_49 (by decide) ?_
            refine w_iinc [some (aR 12 0), some (aI ((mSpo gg c).1)), some (aI (mSpM gg c)), some (aI ((c : Int) + 1))] dX12_spoil_59 rfl rfl (by decide) ?_
            refine w_goto 18 dX12_spoil_62 (by decide) ?_
            refine ih18 (by omega) _ _ _ _ ?_ ?_ ?_
            · exact (by omega)
            · exact (by rw [spo_l J (by omega) (show 0 ≤ mGt gg (mRs (gg 17 0) (mStay (gg 4 0 1) (gg 17 0) (gg 4 0 3) (c : Int))) from by have z0 := mSum_r2 J hrb (gg 5 0 3).toNat (by omega); exact z0.1) c46])
            · exact (by unfold mSpM; rw [spo_l J (by omega) (show 0 ≤ mGt gg (mRs (gg 17 0) (mStay (gg 4 0 1) (gg 17 0) (gg 4 0 3) (c : Int))) from by have z0 := mSum_r2 J hrb (gg 5 0 3).toNat (by omega); exact z0.1) c46])
    have z18 := lp18 0 (Nat.zero_le _) _ _ _ (h 42 0) (by exact (show 0 = ((0 : Nat) : Int) by omega)) (by exact (show (-1) = (mSpo gg 0).1 from rfl)) (by exact (show (-1000000000) = mSpM gg 0 from rfl))
    rw [fwUc_self] at z18
    exact z18
  · refine w_bipush dX12_spoil_7 rfl ?_
    exact w_iretE dX12_spoil_9 rfl (by unfold an_spoil; first | (rw [if_pos (by omega)]; done) | (rw [if_neg (by omega)]; done) | (rw [if_pos (by omega)]; rfl) | (rw [if_neg (by omega)]; rfl)) (k _ (scr_rf hsh))
/-- the best single FOOT: what the class's search comes to, CELL by CELL -/
def bsS (h : fwH) (j : Nat) : fwSt := mSeL (mSe (mGt h) (h 4 0 1).toNat 0 1) 0 0 (h 17 0) (h 27 0, 0, h 8 0 5, h 28 0) j
theorem bs_shp (h : fwH) : mShp h 1 = bsS h (h 4 0 1).toNat := rfl
def bsB (h : fwH) (j : Nat) : Int := if (bsS h j).2.1 = 0 then -1 else (bsS h j).2.2.2 0
def bsM (h : fwH) (j : Nat) : Int := if (bsS h j).2.1 = 0 then -1000000000 else (bsS h j).2.2.1
theorem bs_z {h : fwH} {j : Nat} (hz : ¬ 0 < h 17 0 j) : bsS h (j + 1) = bsS h j := by
  unfold bsS
  rw [mSeL, if_neg (by rw [Nat.zero_add]; exact hz)]
theorem bs_p {h : fwH} {j : Nat} (hz : 0 < h 17 0 j) : bsS h (j + 1) = mKeep (mGt h (fwFu (h 17 0) j (h 17 0 j + -1))) (fwFu (bsS h j).1 0 (j : Int), (bsS h j).2) := by
  unfold bsS
  rw [mSeL, if_pos (by rw [Nat.zero_add]; exact hz)]
  simp only [Nat.zero_add]
  rfl
theorem bs_01 (h : fwH) : ∀ j : Nat, (bsS h j).2.1 = 0 ∨ (bsS h j).2.1 = 1 := by
  intro j
  induction j with
  | zero => exact Or.inl rfl
  | succ j ih =>
    by_cases hz : 0 < h 17 0 j
    · rw [bs_p hz]
      unfold mKeep
      split
      · exact ih
      · exact Or.inr rfl
    · rw [bs_z hz]; exact ih
theorem bs_l {h : fwH} {j : Nat} (hz : 0 < h 17 0 j) (hg : 0 ≤ mGt h (fwFu (h 17 0) j (h 17 0 j + -1))) (hl : mGt h (fwFu (h 17 0) j (h 17 0 j + -1)) ≤ bsM h j) : bsB h (j + 1) = bsB h j ∧ bsM h (j + 1) = bsM h j := by
  have h0 : (bsS h j).2.1 ≠ 0 := fun q => by unfold bsM at hl; rw [if_pos q] at hl; omega
  have e : bsS h (j + 1) = (fwFu (bsS h j).1 0 (j : Int), (bsS h j).2) := by
    rw [bs_p hz]
    unfold mKeep
    unfold bsM at hl
    rw [if_neg h0] at hl
    rw [if_pos ⟨h0, hl⟩]
  unfold bsB bsM
  rw [e]
  exact ⟨rfl, rfl⟩
theorem bs_g {h : fwH} {j : Nat} (hz : 0 < h 17 0 j) (hl : bsM h j < mGt h (fwFu (h 17 0) j (h 17 0 j + -1))) : bsB h (j + 1) = (j : Int) ∧ bsM h (j + 1) = mGt h (fwFu (h 17 0) j (h 17 0 j + -1)) := by
  have e : bsS h (j + 1) = (fwFu (bsS h j).1 0 (j : Int), 1, mGt h (fwFu (h 17 0) j (h 17 0 j + -1)), fwFu (bsS h j).1 0 (j : Int)) := by
    rw [bs_p hz]
    unfold mKeep
    rw [if_neg]
    intro q
    unfold bsM at hl
    rw [if_neg q.1] at hl
    have q2 : mGt h (fwFu (h 17 0) j (h 17 0 j + -1)) ≤ (bsS h j).2.2.1 := q.2
    omega
  unfold bsB bsM
  rw [e]
  exact ⟨rfl, rfl⟩
theorem bs_r {h : fwH} (J : cOk h) : ∀ j : Nat, (j : Int) ≤ h 4 0 1 → (-1 ≤ bsB h j ∧ bsB h j ≤ 10) ∧ -1000000000 ≤ bsM h j ∧ bsM h j ≤ 300000 := by
  intro j
  induction j with
  | zero =>
    intro _
    have e : (bsS h 0).2.1 = 0 := rfl
    unfold bsB bsM
    rw [if_pos e, if_pos e]
    omega
  | succ j ih =>
    intro hj
    have h1 := ih (by omega)
    by_cases hz : 0 < h 17 0 j
    · have hb : hB (fwFu (h 17 0) j (h 17 0 j + -1)) := hB_fu (fun c hc => by have := J.2.2.2.1 c hc; omega) (by have := J.2.2.2.1 j (by have := J.2.2.1.1; omega); omega)
      have hg := mSum_r2 J hb (h 5 0 3).toNat (by have := J.2.1.1; omega)
      have hp := J.2.1.1
      rcases Int.lt_or_le (bsM h j) (mGt h (fwFu (h 17 0) j (h 17 0 j + -1))) with q | q
      · have z := bs_g hz q
        have z2 : mGt h (fwFu (h 17 0) j (h 17 0 j + -1)) ≤ 300000 := by unfold mGt; omega
        have z3 : 0 ≤ mGt h (fwFu (h 17 0) j (h 17 0 j + -1)) := hg.1
        have := J.2.2.1.1
        rw [z.1, z.2]
        omega
      · have z := bs_l hz hg.1 q
        rw [z.1, z.2]
        exact h1
    · unfold bsB bsM
      rw [bs_z hz]
      exact h1
theorem bs_none {h : fwH} (J : cOk h) : ∀ j : Nat, (j : Int) ≤ h 4 0 1 → ((bsS h j).2.1 = 0 ↔ mSum (h 17 0) j < 1) := by
  intro j
  induction j with
  | zero => intro _; exact ⟨fun _ => by rw [mSum]; omega, fun _ => rfl⟩
  | succ j ih =>
    intro hj
    have h1 := ih (by omega)
    have h2 := J.2.2.2.1 j (by have := J.2.2.1.1; omega)
    have h3 : 0 ≤ mSum (h 17 0) j := by
      have key : ∀ k : Nat, (k : Int) ≤ h 4 0 1 → 0 ≤ mSum (h 17 0) k := by
        intro k
        induction k with
        | zero => intro _; rw [mSum]; omega
        | succ k ik => intro hk; rw [mSum]; have := ik (by omega); have := J.2.2.2.1 k (by have := J.2.2.1.1; omega); omega
      exact key j (by omega)
    rw [mSum]
    by_cases hz : 0 < h 17 0 j
    · constructor
      · intro q
        exfalso
        rw [bs_p hz] at q
        unfold mKeep at q
        split at q
        · rename_i q2; exact q2.1 q
        · cases q
      · intro q; omega
    · rw [bs_z hz, h1]
      omega
set_option maxRecDepth 100000 in
set_option maxHeartbeats 4000000 in
theorem c_X12_best {d : Nat} {h gg : fwH} {Q : Option fwV → fwH → Prop}  (J : cOk gg) (R : jF gg h) (K : jA gg h) (hsh : sc h)  (k : ∀ g, scr h g → Q (some (aI (an_best gg ))) g) : fwCt mX12_best (d + 6) [aR 12 0] h Q := by
  refine fwCt_of [some (aR 12 0), none, none, none, none] rfl rfl rfl ?_
  obtain ⟨hl, hP, hG, hM0, htd, hut, hlw, hhc, ha, hs, hT, hsc⟩ := id J
  have hb17 : hB (gg 17 0) := fun c hc => by have := hM0 c hc; omega
  obtain ⟨⟨g1, g2⟩, ⟨g3, g4⟩, ⟨g5, g6⟩, g7, -⟩ := id hG
  have h17_99 : ∀ c : Nat, (c : Int) < gg 4 0 1 → gg 17 0 c ≤ 99 := fun c hc => (hM0 c (by omega)).2
  have hpz := hP.1
  have hrs1 := R.2.2.2.2.2.2.2.2.2.2.2
  refine w_aload_n dX12_best_0 rfl ?_
  refine w_callV (d := d + 5) (S := []) [] dX12_best_1 ml_X12_73 ok_X12_isMount vi_X12_isMount rfl rfl (by decide) rfl (Nat.le_of_ble_eq_true rfl) ?_
  refine c_X12_isMount (d := (d + 5)) J R ?_
  show fwWP mX12_best (d + 6) 4 [some (aR 12 0), none, none, none, none] [aI (fwB (0 < gg 3 0 6))] h Q
  refine w_ifB_ne 10 dX12_best_4 (by decide) (fun c4 => ?_) (fun c4 => ?_)
  · refine w_aload_n dX12_best_10 rfl ?_
    refine w_callV (d := d + 5) (S := []) [] dX12_best_11 ml_X12_240 ok_X12_asItIs vi_X12_asItIs rfl rfl (by decide) rfl (Nat.le_of_ble_eq_true rfl) ?_
    refine c_X12_asItIs (d := d) J R K (show 1 ≤ gg 4 0 1 by omega) (show 1 ≤ gg 4 0 3 by omega) ?_
    intro A11_2 hA11_2
    show fwWP mX12_best (d + 6) 14 [some (aR 12 0), none, none, none, none] [] (fwUc h 42 0 A11_2) Q
    refine w_iconst dX12_best_14 ?_
    refine w_istore_n [some (aR 12 0), some (aI (-1)), none, none, none] dX12_best_15 rfl (by decide) ?_
    refine w_ldcw (n := -1000000000) dX12_best_16 cs_X12_335 ?_
    refine w_istore_n [some (aR 12 0), some (aI (-1)), some (aI (-1000000000)), none, none] dX12_best_19 rfl (by decide) ?_
    refine w_iconst dX12_best_20 ?_
    refine w_istore_n [some (aR 12 0), some (aI (-1)), some (aI (-1000000000)), some (aI 0), none] dX12_best_21 rfl (by decide) ?_
    have lp22 : ∀ c : Nat, c ≤ (gg 4 0 1).toNat → ∀ (y22 be mo : Int) (A22 : Nat → Int), y22 = (c : Int) → be = bsB gg c → mo = bsM gg c → hiR (gg 4 0 1) A22 (gg 17 0) → fwWP mX12_best (d + 6) 22 [some (aR 12 0), some (aI be), some (aI mo), some (aI y22), none] [] (fwUc h 42 0 A22) Q := by
      refine fw_up (fun c hc22 ih22 => ?_)
      intro y22 be mo A22 ey22 e_be e_mo hA22
      subst ey22
      subst e_be
      subst e_mo
      show fwWP mX12_best (d + 6) 22 [some (aR 12 0), some (aI (bsB gg c)), some (aI (bsM gg c)), some (aI (c : Int)), none] [] (fwUc h 42 0 A22) Q
      refine w_iload_n dX12_best_22 rfl ?_
      refine w_aload_n dX12_best_23 rfl ?_
      refine w_getr 36 0 dX12_best_24 fl_X12_9 rfl (by decide) ?_
      refine w_iconst dX12_best_27 ?_
      refine w_ialdE (v := gg 4 0 1) dX12_best_28 rfl (by decide) (by omega) (by omega) R.1 ?_
      refine w_icmp_ge 90 dX12_best_29 (by decide) (by omega) (by omega) (fun c29 => ?_) (fun c29 => ?_)
      · have ec22 : (gg 4 0 1).toNat = c := by omega
        subst ec22
        refine w_iload_n dX12_best_90 rfl ?_
        exact w_iretE dX12_best_91 rfl (by unfold an_best; rw [if_pos (show 0 < gg 3 0 6 by omega), bs_shp]; unfold bsB; have z0 := bs_none J (gg 4 0 1).toNat (by omega); by_cases z1 : 1 ≤ mSum (gg 17 0) (gg 4 0 1).toNat; (rw [if_pos z1, if_neg (fun z2 => by have := z0.mp z2; omega)]); (rw [if_neg z1, if_pos (z0.mpr (by omega))])) (k _ (scr_uc (scr_rf hsh) rfl (by decide) (by decide) (by decide)))
      · have hb9 := hM0 c (by omega)
        have hbr := bs_r J c (by omega)
        refine w_aload_n dX12_best_32 rfl ?_
        refine w_getr 42 0 dX12_best_33 fl_X12_34 rfl (by decide) ?_
        refine w_iload_n dX12_best_36 rfl ?_
        refine w_ialdE (v := (gg 17 0) c) dX12_best_37 rfl (by decide) (by omega) (by omega) (hA22 _ (by omega)) ?_
        refine w_if_ne 44 dX12_best_38 (by decide) (by omega) (fun c38 => ?_) (fun c38 => ?_)
        · refine w_aload_n dX12_best_44 rfl ?_
          refine w_getr 42 0 dX12_best_45 fl_X12_34 rfl (by decide) ?_
          refine w_iload_n dX12_best_48 rfl ?_
          refine w_dup2 dX12_best_49 rfl rfl ?_
          refine w_ialdE (v := (gg 17 0) c) dX12_best_50 rfl (by decide) (by omega) (by omega) (hA22 _ (by omega)) ?_
          refine w_iconst dX12_best_51 ?_
          refine w_isub dX12_best_52 ?_
          refine w_iast dX12_best_53 rfl (by decide) (by omega) (by omega) ?_
          rw [show (fwUp (fwUc h 42 0 A22) 42 0 ((c : Int)).toNat (((gg 17 0) c) - 1)) = (fwUc h 42 0 (fwFu A22 c (((gg 17 0) c) - 1))) from by rw [fwUp_fu]; rw [fwUc_uc]; rfl]
          have hA53 := hiR_fu hA22 c (((gg 17 0) c) - 1)
          have hb53 : hB (fwFu (gg 17 0) c (((gg 17 0) c) - 1)) := hB_fu hb17 (by omega)
          refine w_aload_n dX12_best_54 rfl ?_
          refine w_callV (d := d + 5) (S := []) [] dX12_best_55 ml_X12_251 ok_X12_gainOfAll vi_X12_gainOfAll rfl rfl (by decide) rfl (Nat.le_of_ble_eq_true rfl) ?_
          refine c_X12_gainOfAll (d := d) (fwFu (gg 17 0) c (((gg 17 0) c) - 1)) J R hA53 hb53 (show 1 ≤ gg 4 0 1 by omega) ?_
          show fwWP mX12_best (d + 6) 58 [some (aR 12 0), some (aI (bsB gg c)), some (aI (bsM gg c)), some (aI (c : Int)), none] [aI (mSum (mGain (gg 4 0 1) (fwFu (gg 17 0) c (((gg 17 0) c) - 1)) (gg 4 0 2) (gg 18 0)) (gg 5 0 3).toNat)] (fwUc h 42 0 (fwFu A22 c (((gg 17 0) c) - 1))) Q
          have hga5 := mSum_r2 J hb53 (gg 5 0 3).toNat (by omega)
          refine w_istore [some (aR 12 0), some (aI (bsB gg c)), some (aI (bsM gg c)), some (aI (c : Int)), some (aI (mSum (mGain (gg 4 0 1) (fwFu (gg 17 0) c (((gg 17 0) c) - 1)) (gg 4 0 2) (gg 18 0)) (gg 5 0 3).toNat))] dX12_best_58 rfl (by decide) ?_
          refine w_aload_n dX12_best_60 rfl ?_
          refine w_getr 42 0 dX12_best_61 fl_X12_34 rfl (by decide) ?_
          refine w_iload_n dX12_best_64 rfl ?_
          refine w_dup2 dX12_best_65 rfl rfl ?_
          refine w_ialdE (v := (fwFu (gg 17 0) c (((gg 17 0) c) - 1)) c) dX12_best_66 rfl (by decide) (by omega) (by omega) (hA53 _ (by omega)) ?_
          refine w_iconst dX12_best_67 ?_
          refine w_iadd dX12_best_68 ?_
          refine w_iast dX12_best_69 rfl (by decide) (by omega) (by omega) ?_
          rw [show (fwUp (fwUc h 42 0 (fwFu A22 c (((gg 17 0) c) - 1))) 42 0 ((c : Int)).toNat (((fwFu (gg 17 0) c (((gg 17 0) c) - 1)) c) + 1)) = (fwUc h 42 0 (fwFu (fwFu A22 c (((gg 17 0) c) - 1)) c (((fwFu (gg 17 0) c (((gg 17 0) c) - 1)) c) + 1))) from by rw [fwUp_fu]; rw [fwUc_uc]; rfl]
          have hA69 := hiR_fu hA53 c (((fwFu (gg 17 0) c (((gg 17 0) c) - 1)) c) + 1)
          rw [fwFu_mp] at hA69
          have hgt : mSum (mGain (gg 4 0 1) (fwFu (gg 17 0) c (((gg 17 0) c) - 1)) (gg 4 0 2) (gg 18 0)) (gg 5 0 3).toNat = mGt gg (fwFu (gg 17 0) c (gg 17 0 c + -1)) := by unfold mGt; rw [Int.sub_eq_add_neg]
          refine w_iload dX12_best_70 rfl ?_
          refine w_iload_n dX12_best_72 rfl ?_
          refine w_icmp_gt 79 dX12_best_73 (by decide) (by omega) (by omega) (fun c73 => ?_) (fun c73 => ?_)
          · refine w_iload dX12_best_79 rfl ?_
            refine w_istore_n [some (aR 12 0), some (aI (bsB gg c)), some (aI (mSum (mGain (gg 4 0 1) (fwFu (gg 17 0) c (((gg 17 0) c) - 1)) (gg 4 0 2) (gg 18 0)) (gg 5 0 3).toNat)), some (aI (c : Int)), some (aI (mSum (mGain (gg 4 0 1) (fwFu (gg 17 0) c (((gg 17 0) c) - 1)) (gg 4 0 2) (gg 18 0)) (gg 5 0 3).toNat))] dX12_best_81 rfl (by decide) ?_
            refine w_iload_n dX12_best_82 rfl ?_
            refine w_istore_n [some (aR 12 0), some (aI (c : Int)), some (aI (mSum (mGain (gg 4 0 1) (fwFu (gg 17 0) c (((gg 17 0) c) - 1)) (gg 4 0 2) (gg 18 0)) (gg 5 0 3).toNat)), some (aI (c : Int)), some (aI (mSum (mGain (gg 4 0 1) (fwFu (gg 17 0) c (((gg 17 0) c) - 1)) (gg 4 0 2) (gg 18 0)) (gg 5 0 3).toNat))] dX12_best_83 rfl (by decide) ?_
            refine w_iinc [some (aR 12 0), some (aI (c : Int)), some (aI (mSum (mGain (gg 4 0 1) (fwFu (gg 17 0) c (((gg 17 0) c) - 1)) (gg 4 0 2) (gg 18 0)) (gg 5 0 3).toNat)), some (aI ((c : Int) + 1)), some (aI (mSum (mGain (gg 4 0 1) (fwFu (gg 17 0) c (((gg 17 0) c) - 1)) (gg 4 0 2) (gg 18 0)) (gg 5 0 3).toNat))] dX12_best_84 rfl rfl (by decide) ?_
            refine w_goto 22 dX12_best_87 (by decide) ?_
            refine w_drop [4] [some (aR 12 0), some (aI (c : Int)), some (aI (mSum (mGain (gg 4 0 1) (fwFu (gg 17 0) c (((gg 17 0) c) - 1)) (gg 4 0 2) (gg 18 0)) (gg 5 0 3).toNat)), some (aI ((c : Int) + 1)), none] rfl ?_
            refine ih22 (by omega) _ _ _ _ ?_ ?_ ?_ ?_
            · exact (by omega)
            · exact (bs_g (by omega) (by rw [← hgt]; exact c73)).1.symm
            · exact (by rw [(bs_g (by omega) (by rw [← hgt]; exact c73)).2]; exact hgt)
            · exact hA69
          · refine w_goto 84 dX12_best_76 (by decide) ?_
            refine w_iinc [some (aR 12 0), some (aI (bsB gg c)), some (aI (bsM gg c)), some (aI ((c : Int) + 1)), some (aI (mSum (mGain (gg 4 0 1) (fwFu (gg 17 0) c (((gg 17 0) c) - 1)) (gg 4 0 2) (gg 18 0)) (gg 5 0 3).toNat))] dX12_best_84 rfl rfl (by decide) ?_
            refine w_goto 22 dX12_best_87 (by decide) ?_
            refine w_drop [4] [some (aR 12 0), some (aI (bsB gg c)), some (aI (bsM gg c)), some (aI ((c : Int) + 1)), none] rfl ?_
            refine ih22 (by omega) _ _ _ _ ?_ ?_ ?_ ?_
            · exact (by omega)
            · exact (bs_l (by omega) (by rw [← hgt]; omega) (by rw [← hgt]; exact c73)).1.symm
            · exact (bs_l (by omega) (by rw [← hgt]; omega) (by rw [← hgt]; exact c73)).2.symm
            · exact hA69
        · refine w_goto 84 dX12_best_41 (by decide) ?_
          refine w_iinc [some (aR 12 0), some (aI (bsB gg c)), some (aI (bsM gg c)), some (aI ((c : Int) + 1)), none] dX12_best_84 rfl rfl (by decide) ?_
          refine w_goto 22 dX12_best_87 (by decide) ?_
          refine ih22 (by omega) _ _ _ _ ?_ ?_ ?_ ?_
          · exact (by omega)
          · exact (by unfold bsB; rw [bs_z (by omega)])
          · exact (by unfold bsM; rw [bs_z (by omega)])
          · exact hA22
    have z22 := lp22 0 (Nat.zero_le _) _ _ _ A11_2 (by exact (show 0 = ((0 : Nat) : Int) by omega)) (by exact (show (-1) = bsB gg 0 from rfl)) (by exact (show (-1000000000) = bsM gg 0 from rfl)) hA11_2
    exact z22
  · refine w_bipush dX12_best_7 rfl ?_
    exact w_iretE dX12_best_9 rfl (by unfold an_best; rw [if_neg (by omega)]) (k _ (scr_rf hsh))
end
section
set_option maxRecDepth 100000 in
set_option maxHeartbeats 4000000 in
theorem c_X12_steps {d : Nat} {h : fwH} {Q : Option fwV → fwH → Prop} (x a b : Int) (hx : -1000 ≤ x ∧ x ≤ 1000) (ha : -1000 ≤ a ∧ a ≤ 1000) (hb : -1000 ≤ b ∧ b ≤ 1000) (k : Q (some (aI (mSteps x a b))) h) : fwCt mX12_steps (d + 1) [aI x, aI a, aI b] h Q := by
  refine fwCt_of [some (aI x), some (aI a), some (aI b)] rfl rfl rfl ?_
  refine w_iload_n dX12_steps_0 rfl ?_
  refine w_iload_n dX12_steps_1 rfl ?_
  refine w_isub dX12_steps_2 ?_
  refine w_iload_n dX12_steps_3 rfl ?_
  refine w_iload_n dX12_steps_4 rfl ?_
  refine w_isub dX12_steps_5 ?_
  refine w_iload_n dX12_steps_6 rfl ?_
  refine w_iload_n dX12_steps_7 rfl ?_
  refine w_isub dX12_steps_8 ?_
  refine w_min (d := d + 0) (S := [aI (b - a)]) dX12_steps_9 ml_X12_112 (by omega) (by omega) (Nat.le_of_ble_eq_true rfl) ?_
  refine w_iadd dX12_steps_12 ?_
  exact w_iretE dX12_steps_13 rfl (by rfl) k
/-- names of WILLING FOLK whose CELL lies in one of two stretches -/
def nOn (F : Nat → Int) (wl l r u v : Int) : Nat → Int
  | 0 => 0
  | f + 1 => if fwAnd (fwShr wl (f : Int)) 1 = 1 ∧ ((l ≤ F (7 * f) ∧ F (7 * f) ≤ r) ∨ (u ≤ F (7 * f) ∧ F (7 * f) ≤ v)) then nOn F wl l r u v f + F (7 * f + 1) else nOn F wl l r u v f
theorem mAh_f {F : Nat → Int} {wl : Int} {k : Nat} (hF : 0 ≤ F (7 * k)) : ∀ c : Nat, mAh F wl (k + 1) c = mAh F wl k c + (if fwAnd (fwShr wl (k : Int)) 1 = 1 ∧ F (7 * k) < (c : Int) then F (7 * k + 1) else 0) := by
  intro c
  induction c with
  | zero => rw [mAh, mAh, if_neg (by omega)]; omega
  | succ c ih =>
    rw [mAh, mAh, ih, mHereF]
    by_cases q : fwAnd (fwShr wl (k : Int)) 1 = 1 ∧ F (7 * k) = (c : Int)
    · rw [if_pos q, if_neg (by omega), if_pos (by omega)]
      omega
    · rw [if_neg q]
      by_cases q2 : fwAnd (fwShr wl (k : Int)) 1 = 1 ∧ F (7 * k) < (c : Int)
      · rw [if_pos q2, if_pos (by omega)]; omega
      · rw [if_neg q2, if_neg (by omega)]; omega
theorem mWi_f {F : Nat → Int} {wl : Int} {k : Nat} (hF : 0 ≤ F (7 * k)) (x y : Int) : mWi (mAh F wl (k + 1)) x y = mWi (mAh F wl k) x y + (if (x ≤ y ∧ 0 ≤ x ∧ y < 10) ∧ fwAnd (fwShr wl (k : Int)) 1 = 1 ∧ x ≤ F (7 * k) ∧ F (7 * k) ≤ y then F (7 * k + 1) else 0) := by
  unfold mWi
  by_cases q : x ≤ y ∧ 0 ≤ x ∧ y < 10
  · rw [if_pos q, if_pos q, mAh_f hF, mAh_f hF]
    have h1 : ((y + 1).toNat : Int) = y + 1 := by omega
    have h2 : ((x.toNat : Nat) : Int) = x := by omega
    rw [h1, h2]
    by_cases b : fwAnd (fwShr wl (k : Int)) 1 = 1
    · by_cases z1 : F (7 * k) < x
      · rw [if_pos ⟨b, by omega⟩, if_pos ⟨b, z1⟩, if_neg (by omega)]; omega
      · by_cases z2 : F (7 * k) ≤ y
        · rw [if_pos ⟨b, by omega⟩, if_neg (by omega), if_pos ⟨q, b, by omega, z2⟩]; omega
        · rw [if_neg (by omega), if_neg (by omega), if_neg (by omega)]; omega
    · rw [if_neg (fun z => b z.1), if_neg (fun z => b z.1), if_neg (fun z => b z.2.1)]; omega
  · rw [if_neg q, if_neg q, if_neg (fun z => q z.1)]; omega
theorem mAh_0 (F : Nat → Int) (wl : Int) : ∀ c : Nat, mAh F wl 0 c = 0 := by
  intro c
  induction c with
  | zero => rfl
  | succ c ih => rw [mAh, ih, mHereF]; omega
theorem nOn_both {F : Nat → Int} {wl l r u v : Int} (h1 : 0 ≤ l ∧ l ≤ r ∧ r < 10) (h2 : 0 ≤ u ∧ u ≤ v ∧ v < 10) : ∀ n : Nat, n ≤ 8 → (∀ f : Nat, f < 8 → 0 ≤ F (7 * f)) → nOn F wl l r u v n = mBoth (mAh F wl n) l r u v := by
  intro n
  induction n with
  | zero =>
    intro _ _
    have z : ∀ x y : Int, mWi (mAh F wl 0) x y = 0 := by
      intro x y
      unfold mWi
      split
      · rw [mAh_0, mAh_0]; omega
      · rfl
    unfold mBoth
    rw [nOn, z, z, z]
    omega
  | succ n ih =>
    intro hn hF
    have e := ih (by omega) hF
    have hf := hF n (by omega)
    unfold mBoth at e ⊢
    rw [nOn, mWi_f hf, mWi_f hf, mWi_f hf, e]
    by_cases b : fwAnd (fwShr wl (n : Int)) 1 = 1
    · by_cases z1 : l ≤ F (7 * n) ∧ F (7 * n) ≤ r
      · by_cases z2 : u ≤ F (7 * n) ∧ F (7 * n) ≤ v
        · rw [if_pos ⟨b, Or.inl z1⟩, if_pos ⟨by omega, b, z1⟩, if_pos ⟨by omega, b, z2⟩, if_pos ⟨by omega, b, by omega⟩]; omega
        · rw [if_pos ⟨b, Or.inl z1⟩, if_pos ⟨by omega, b, z1⟩, if_neg (fun z => z2 z.2.2), if_neg (fun z => z2 (by omega))]; omega
      · by_cases z2 : u ≤ F (7 * n) ∧ F (7 * n) ≤ v
        · rw [if_pos ⟨b, Or.inr z2⟩, if_neg (fun z => z1 z.2.2), if_pos ⟨by omega, b, z2⟩, if_neg (fun z => z1 (by omega))]; omega
        · rw [if_neg (fun z => z.2.elim z1 z2), if_neg (fun z => z1 z.2.2), if_neg (fun z => z2 z.2.2), if_neg (fun z => z1 (by omega))]; omega
    · rw [if_neg (fun z => b z.1), if_neg (fun z => b z.2.1), if_neg (fun z => b z.2.1), if_neg (fun z => b z.2.1)]; omega
theorem nOn_one {F : Nat → Int} {wl l r : Int} (h1 : 0 ≤ l ∧ l ≤ r ∧ r < 10) {n : Nat} (hn : n ≤ 8) (hF : ∀ f : Nat, f < 8 → 0 ≤ F (7 * f)) : nOn F wl l r l r n = mWi (mAh F wl n) l r := by
  rw [nOn_both h1 h1 n hn hF]
  unfold mBoth
  rw [Int.max_self, Int.min_self]
  omega
theorem nOn_r {F : Nat → Int} {wl l r u v : Int} : ∀ n : Nat, n ≤ 8 → (∀ f : Nat, f < 8 → 0 ≤ F (7 * f + 1) ∧ F (7 * f + 1) ≤ 99) → 0 ≤ nOn F wl l r u v n ∧ nOn F wl l r u v n ≤ 99 * n := by
  intro n
  induction n with
  | zero => intro _ _; rw [nOn]; omega
  | succ n ih =>
    intro hn hF
    have h1 := ih (by omega) hF
    have h2 := hF n (by omega)
    rw [nOn]
    split <;> omega
set_option maxRecDepth 100000 in
set_option maxHeartbeats 4000000 in
theorem c_X12_namesOn {d : Nat} {h gg : fwH} {Q : Option fwV → fwH → Prop} (wl l r u v : Int) (J : cOk gg) (R : jF gg h) (hl1 : -1000 ≤ l ∧ l ≤ 1000) (hr1 : -1000 ≤ r ∧ r ≤ 1000) (hu1 : -1000 ≤ u ∧ u ≤ 1000) (hv1 : -1000 ≤ v ∧ v ≤ 1000) (k : Q (some (aI (nOn (gg 18 0) wl l r u v (gg 5 0 3).toNat))) h) : fwCt mX12_namesOn (d + 1) [aR 12 0, aI wl, aI l, aI r, aI u, aI v] h Q := by
  refine fwCt_of [some (aR 12 0), some (aI wl), some (aI l), some (aI r), some (aI u), some (aI v), none, none] rfl rfl rfl ?_
  obtain ⟨hl, hP, hG, -, -, -, hlw, -, ha, hs, -, hsc⟩ := id J
  obtain ⟨⟨g1, g2⟩, ⟨g3, g4⟩, ⟨g5, g6⟩, g7, -⟩ := id hG
  have hpz := hP.1
  refine w_iconst dX12_namesOn_0 ?_
  refine w_istore [some (aR 12 0), some (aI wl), some (aI l), some (aI r), some (aI u), some (aI v), some (aI 0), none] dX12_namesOn_1 rfl (by decide) ?_
  refine w_iconst dX12_namesOn_3 ?_
  refine w_istore [some (aR 12 0), some (aI wl), some (aI l), some (aI r), some (aI u), some (aI v), some (aI 0), some (aI 0)] dX12_namesOn_4 rfl (by decide) ?_
  have lp6 : ∀ c : Nat, c ≤ (gg 5 0 3).toNat → ∀ (y6 nv : Int), y6 = (c : Int) → nv = nOn (gg 18 0) wl l r u v c → fwWP mX12_namesOn (d + 1) 6 [some (aR 12 0), some (aI wl), some (aI l), some (aI r), some (aI u), some (aI v), some (aI nv), some (aI y6)] [] h Q := by
    refine fw_up (fun c hc6 ih6 => ?_)
    intro y6 nv ey6 e_nv
    subst ey6
    subst e_nv
    show fwWP mX12_namesOn (d + 1) 6 [some (aR 12 0), some (aI wl), some (aI l), some (aI r), some (aI u), some (aI v), some (aI (nOn (gg 18 0) wl l r u v c)), some (aI (c : Int))] [] h Q
    refine w_iload dX12_namesOn_6 rfl ?_
    refine w_aload_n dX12_namesOn_8 rfl ?_
    refine w_getr 36 0 dX12_namesOn_9 fl_X12_9 rfl (by decide) ?_
    refine w_bipush dX12_namesOn_12 rfl ?_
    refine w_ialdE (v := gg 5 0 3) dX12_namesOn_14 rfl (by decide) (by omega) (by omega) R.2.2.2.2.2.2.1 ?_
    refine w_icmp_ge 88 dX12_namesOn_15 (by decide) (by omega) (by omega) (fun c15 => ?_) (fun c15 => ?_)
    · have ec6 : (gg 5 0 3).toNat = c := by omega
      subst ec6
      refine w_iload dX12_namesOn_88 rfl ?_
      exact w_iretE dX12_namesOn_90 rfl (by rfl) k
    · have hnr := nOn_r (F := gg 18 0) (wl := wl) (l := l) (r := r) (u := u) (v := v) c (by omega) (fun f hf => (hP.2 f hf).2.1)
      refine w_iload dX12_namesOn_18 rfl ?_
      refine w_iload_n dX12_namesOn_20 rfl ?_
      refine w_iload dX12_namesOn_21 rfl ?_
      refine w_callS (d := d + 0) (S := [aI (nOn (gg 18 0) wl l r u v c)]) [aI wl, aI (c : Int)] dX12_namesOn_23 ml_X12_257 ok_X12_bit st_X12_bit rfl (Nat.le_of_ble_eq_true rfl) ?_
      refine c_X12_bit (d := d) wl (c : Int) ?_
      show fwWP mX12_namesOn (d + 1) 26 [some (aR 12 0), some (aI wl), some (aI l), some (aI r), some (aI u), some (aI v), some (aI (nOn (gg 18 0) wl l r u v c)), some (aI (c : Int))] [aI (fwAnd (fwShr wl (c : Int)) 1), aI (nOn (gg 18 0) wl l r u v c)] h Q
      have hbt2 := bit_01 wl (c : Int)
      refine w_iconst dX12_namesOn_26 ?_
      refine w_icmp_ne 78 dX12_namesOn_27 (by decide) (by omega) (by omega) (fun c27 => ?_) (fun c27 => ?_)
      · refine w_iconst dX12_namesOn_78 ?_
        refine w_iadd dX12_namesOn_79 ?_
        refine w_istore [some (aR 12 0), some (aI wl), some (aI l), some (aI r), some (aI u), some (aI v), some (aI ((nOn (gg 18 0) wl l r u v c) + 0)), some (aI (c : Int))] dX12_namesOn_80 rfl (by decide) ?_
        refine w_iinc [some (aR 12 0), some (aI wl), some (aI l), some (aI r), some (aI u), some (aI v), some (aI ((nOn (gg 18 0) wl l r u v c) + 0)), some (aI ((c : Int) + 1))] dX12_namesOn_82 rfl rfl (by decide) ?_
        refine w_goto 6 dX12_namesOn_85 (by decide) ?_
        refine ih6 (by omega) _ _ ?_ ?_
        · exact (by omega)
        · exact (by rw [nOn, if_neg (fun z => c27 z.1)]; omega)
      · have e00 : gg 18 0 (7 * c + 0) = gg 18 0 (7 * c) := rfl
        refine w_aload_n dX12_namesOn_30 rfl ?_
        refine w_iload dX12_namesOn_31 rfl ?_
        refine w_iconst dX12_namesOn_33 ?_
        refine w_callV (d := d + 0) (S := [aI (nOn (gg 18 0) wl l r u v c)]) [aI (c : Int), aI 0] dX12_namesOn_34 ml_X12_220 ok_X12_of vi_X12_of rfl rfl (by decide) rfl (Nat.le_of_ble_eq_true rfl) ?_
        refine c_ofE (d := d) c 0 (c : Int) J R (by omega) (by omega) (by omega) ?_
        show fwWP mX12_namesOn (d + 1) 37 [some (aR 12 0), some (aI wl), some (aI l), some (aI r), some (aI u), some (aI v), some (aI (nOn (gg 18 0) wl l r u v c)), some (aI (c : Int))] [aI (gg 18 0 (7 * c + 0)), aI (nOn (gg 18 0) wl l r u v c)] h Q
        have hof4 := hP.2 c (by omega)
        refine w_i2l dX12_namesOn_37 (by omega) ?_
        refine w_iload_n dX12_namesOn_38 rfl ?_
        refine w_i2l dX12_namesOn_39 (by omega) ?_
        refine w_iload_n dX12_namesOn_40 rfl ?_
        refine w_i2l dX12_namesOn_41 (by omega) ?_
        refine w_callS (d := d + 0) (S := [aI (nOn (gg 18 0) wl l r u v c)]) [aJ (gg 18 0 (7 * c + 0)), aJ l, aJ r] dX12_namesOn_42 ml_X12_65 ok_X12_in st_X12_in rfl (Nat.le_of_ble_eq_true rfl) ?_
        refine c_X12_in (d := d) (gg 18 0 (7 * c + 0)) l r (by omega) (by omega) (by omega) ?_
        show fwWP mX12_namesOn (d + 1) 45 [some (aR 12 0), some (aI wl), some (aI l), some (aI r), some (aI u), some (aI v), some (aI (nOn (gg 18 0) wl l r u v c)), some (aI (c : Int))] [aI (fwB (l ≤ (gg 18 0 (7 * c + 0)) ∧ (gg 18 0 (7 * c + 0)) ≤ r)), aI (nOn (gg 18 0) wl l r u v c)] h Q
        refine w_ifB_ne 68 dX12_namesOn_45 (by decide) (fun c45 => ?_) (fun c45 => ?_)
        · refine w_aload_n dX12_namesOn_68 rfl ?_
          refine w_iload dX12_namesOn_69 rfl ?_
          refine w_iconst dX12_namesOn_71 ?_
          refine w_callV (d := d + 0) (S := [aI (nOn (gg 18 0) wl l r u v c)]) [aI (c : Int), aI 1] dX12_namesOn_72 ml_X12_220 ok_X12_of vi_X12_of rfl rfl (by decide) rfl (Nat.le_of_ble_eq_true rfl) ?_
          refine c_ofE (d := d) c 1 (c : Int) J R (by omega) (by omega) (by omega) ?_
          show fwWP mX12_namesOn (d + 1) 75 [some (aR 12 0), some (aI wl), some (aI l), some (aI r), some (aI u), some (aI v), some (aI (nOn (gg 18 0) wl l r u v c)), some (aI (c : Int))] [aI (gg 18 0 (7 * c + 1)), aI (nOn (gg 18 0) wl l r u v c)] h Q
          have hof6 := hP.2 c (by omega)
          refine w_goto 79 dX12_namesOn_75 (by decide) ?_
          refine w_iadd dX12_namesOn_79 ?_
          refine w_istore [some (aR 12 0), some (aI wl), some (aI l), some (aI r), some (aI u), some (aI v), some (aI ((nOn (gg 18 0) wl l r u v c) + (gg 18 0 (7 * c + 1)))), some (aI (c : Int))] dX12_namesOn_80 rfl (by decide) ?_
          refine w_iinc [some (aR 12 0), some (aI wl), some (aI l), some (aI r), some (aI u), some (aI v), some (aI ((nOn (gg 18 0) wl l r u v c) + (gg 18 0 (7 * c + 1)))), some (aI ((c : Int) + 1))] dX12_namesOn_82 rfl rfl (by decide) ?_
          refine w_goto 6 dX12_namesOn_85 (by decide) ?_
          refine ih6 (by omega) _ _ ?_ ?_
          · exact (by omega)
          · exact (by rw [nOn, if_pos ⟨c27, Or.inl c45⟩])
        · refine w_aload_n dX12_namesOn_48 rfl ?_
          refine w_iload dX12_namesOn_49 rfl ?_
          refine w_iconst dX12_namesOn_51 ?_
          refine w_callV (d := d + 0) (S := [aI (nOn (gg 18 0) wl l r u v c)]) [aI (c : Int), aI 0] dX12_namesOn_52 ml_X12_220 ok_X12_of vi_X12_of rfl rfl (by decide) rfl (Nat.le_of_ble_eq_true rfl) ?_
          refine c_ofE (d := d) c 0 (c : Int) J R (by omega) (by omega) (by omega) ?_
          show fwWP mX12_namesOn (d + 1) 55 [some (aR 12 0), some (aI wl), some (aI l), some (aI r), some (aI u), some (aI v), some (aI (nOn (gg 18 0) wl l r u v c)), some (aI (c : Int))] [aI (gg 18 0 (7 * c + 0)), aI (nOn (gg 18 0) wl l r u v c)] h Q
          have hof7 := hP.2 c (by omega)
          refine w_i2l dX12_namesOn_55 (by omega) ?_
          refine w_iload dX12_namesOn_56 rfl ?_
          refine w_i2l dX12_namesOn_58 (by omega) ?_
          refine w_iload dX12_namesOn_59 rfl ?_
          refine w_i2l dX12_namesOn_61 (by omega) ?_
          refine w_callS (d := d + 0) (S := [aI (nOn (gg 18 0) wl l r u v c)]) [aJ (gg 18 0 (7 * c + 0)), aJ u, aJ v] dX12_namesOn_62 ml_X12_65 ok_X12_in st_X12_in rfl (Nat.le_of_ble_eq_true rfl) ?_
          refine c_X12_in (d := d) (gg 18 0 (7 * c + 0)) u v (by omega) (by omega) (by omega) ?_
          show fwWP mX12_namesOn (d + 1) 65 [some (aR 12 0), some (aI wl), some (aI l), some (aI r), some (aI u), some (aI v), some (aI (nOn (gg 18 0) wl l r u v c)), some (aI (c : Int))] [aI (fwB (u ≤ (gg 18 0 (7 * c + 0)) ∧ (gg 18 0 (7 * c + 0)) ≤ v)), aI (nOn (gg 18 0) wl l r u v c)] h Q
          refine w_ifB_eq 78 dX12_namesOn_65 (by decide) (fun c65 => ?_) (fun c65 => ?_)
          · refine w_iconst dX12_namesOn_78 ?_
            refine w_iadd dX12_namesOn_79 ?_
            refine w_istore [some (aR 12 0), some (aI wl), some (aI l), some (aI r), some (aI u), some (aI v), some (aI ((nOn (gg 18 0) wl l r u v c) + 0)), some (aI (c : Int))] dX12_namesOn_80 rfl (by decide) ?_
            refine w_iinc [some (aR 12 0), some (aI wl), some (aI l), some (aI r), some (aI u), some (aI v), some (aI ((nOn (gg 18 0) wl l r u v c) + 0)), some (aI ((c : Int) + 1))] dX12_namesOn_82 rfl rfl (by decide) ?_
            refine w_goto 6 dX12_namesOn_85 (by decide) ?_
            refine ih6 (by omega) _ _ ?_ ?_
            · exact (by omega)
            · exact (by rw [nOn, if_neg (fun z => z.2.elim c45 c65)]; omega)
          · refine w_aload_n dX12_namesOn_68 rfl ?_
            refine w_iload dX12_namesOn_69 rfl ?_
            refine w_iconst dX12_namesOn_71 ?_
            refine w_callV (d := d + 0) (S := [aI (nOn (gg 18 0) wl l r u v c)]) [aI (c : Int), aI 1] dX12_namesOn_72 ml_X12_220 ok_X12_of vi_X12_of rfl rfl (by decide) rfl (Nat.le_of_ble_eq_true rfl) ?_
            refine c_ofE (d := d) c 1 (c : Int) J R (by omega) (by omega) (by omega) ?_
            show fwWP mX12_namesOn (d + 1) 75 [some (aR 12 0), some (aI wl), some (aI l), some (aI r), some (aI u), some (aI v), some (aI (nOn (gg 18 0) wl l r u v c)), some (aI (c : Int))] [aI (gg 18 0 (7 * c + 1)), aI (nOn (gg 18 0) wl l r u v c)] h Q
            have hof9 := hP.2 c (by omega)
            refine w_goto 79 dX12_namesOn_75 (by decide) ?_
            refine w_iadd dX12_namesOn_79 ?_
            refine w_istore [some (aR 12 0), some (aI wl), some (aI l), some (aI r), some (aI u), some (aI v), some (aI ((nOn (gg 18 0) wl l r u v c) + (gg 18 0 (7 * c + 1)))), some (aI (c : Int))] dX12_namesOn_80 rfl (by decide) ?_
            refine w_iinc [some (aR 12 0), some (aI wl), some (aI l), some (aI r), some (aI u), some (aI v), some (aI ((nOn (gg 18 0) wl l r u v c) + (gg 18 0 (7 * c + 1)))), some (aI ((c : Int) + 1))] dX12_namesOn_82 rfl rfl (by decide) ?_
            refine w_goto 6 dX12_namesOn_85 (by decide) ?_
            refine ih6 (by omega) _ _ ?_ ?_
            · exact (by omega)
            · exact (by rw [nOn, if_pos ⟨c27, Or.inr c65⟩])
  refine lp6 0 (Nat.zero_le _) _ _ ?_ ?_
  · exact (by omega)
  · exact rfl
set_option maxRecDepth 100000 in
set_option maxHeartbeats 4000000 in
theorem c_X12_isRound {d : Nat} {h gg : fwH} {Q : Option fwV → fwH → Prop} (x : Int) (y : Int) (J : cOk gg) (R : jF gg h) (hx : -2147483648 ≤ x ∧ x < 2147483648) (hy : -2147483648 ≤ y ∧ y < 2147483648) (k : Q (some (aI (fwB ((0 ≤ x ∧ x ≤ gg 4 0 1 - 1) ∧ 1 ≤ y ∧ y ≤ 800)))) h) : fwCt mX12_isRound (d + 2) [aR 12 0, aI x, aI y] h Q := by
  refine fwCt_of [some (aR 12 0), some (aI x), some (aI y)] rfl rfl rfl ?_
  obtain ⟨hl, hP, hG, -, -, -, hlw, -, ha, hs, -, hsc⟩ := id J
  obtain ⟨⟨g1, g2⟩, ⟨g3, g4⟩, ⟨g5, g6⟩, g7, -⟩ := id hG
  have hpz := hP.1
  refine w_aload_n dX12_isRound_0 rfl ?_
  refine w_iload_n dX12_isRound_1 rfl ?_
  refine w_i2l dX12_isRound_2 (by omega) ?_
  refine w_callV (d := d + 1) (S := []) [aJ x] dX12_isRound_3 ml_X12_203 ok_X12_isCell vi_X12_isCell rfl rfl (by decide) rfl (Nat.le_of_ble_eq_true rfl) ?_
  refine c_X12_isCell (d := d) x J R (by omega) ?_
  show fwWP mX12_isRound (d + 2) 6 [some (aR 12 0), some (aI x), some (aI y)] [aI (fwB (0 ≤ x ∧ x ≤ gg 4 0 1 - 1))] h Q
  refine w_ifB_eq 25 dX12_isRound_6 (by decide) (fun c6 => ?_) (fun c6 => ?_)
  · refine w_iconst dX12_isRound_25 ?_
    exact w_zretE dX12_isRound_26 rfl (by first | (exfalso; omega) | (rw [fwB_t (by omega)]) | (rw [fwB_f (by omega)]) | rfl) k
  · refine w_iload_n dX12_isRound_9 rfl ?_
    refine w_i2l dX12_isRound_10 (by omega) ?_
    refine w_lconst (z := 1) dX12_isRound_11 rfl ?_
    refine w_ldc2 (n := 800) dX12_isRound_12 cs_X12_309 ?_
    refine w_callS (d := d + 1) (S := []) [aJ y, aJ 1, aJ 800] dX12_isRound_15 ml_X12_65 ok_X12_in st_X12_in rfl (Nat.le_of_ble_eq_true rfl) ?_
    refine c_X12_in (d := (d + 1)) y 1 800 (by omega) (by omega) (by omega) ?_
    show fwWP mX12_isRound (d + 2) 18 [some (aR 12 0), some (aI x), some (aI y)] [aI (fwB (1 ≤ y ∧ y ≤ 800))] h Q
    refine w_ifB_eq 25 dX12_isRound_18 (by decide) (fun c18 => ?_) (fun c18 => ?_)
    · refine w_iconst dX12_isRound_25 ?_
      exact w_zretE dX12_isRound_26 rfl (by first | (exfalso; omega) | (rw [fwB_t (by omega)]) | (rw [fwB_f (by omega)]) | rfl) k
    · refine w_iconst dX12_isRound_21 ?_
      refine w_goto 26 dX12_isRound_22 (by decide) ?_
      exact w_zretE dX12_isRound_26 rfl (by first | (exfalso; omega) | (rw [fwB_t (by omega)]) | (rw [fwB_f (by omega)]) | rfl) k
end
section
theorem fwFu_kk (H : Nat → Int) (t : Nat) (k : Int) : fwFu (fwFu H t (H t + k)) t (fwFu H t (H t + k) t - k) = H := by
  funext s
  unfold fwFu
  split
  · rename_i e; subst e; rw [if_pos rfl]; omega
  · rfl
theorem mOH_hb {h : fwH} (J : cOk h) {k : Nat} (hk : k ≤ 50) : hB (mOH h k) := fun c hc => by
  have := mOH_rng (fun c hc => by have := J.2.2.2.1 c hc; omega) hk J.2.2.1.1.2 c hc
  omega
set_option maxRecDepth 100000 in
set_option maxHeartbeats 4000000 in
theorem c_X12_wasDark {d : Nat} {h gg : fwH} {Q : Option fwV → fwH → Prop} (p : Nat) (x y : Int) (J : cOk gg) (R : jF gg h) (hH : hiR (gg 4 0 1) (h 42 0) (gg 17 0)) (hp : p ≤ 50) (hx : 0 ≤ x ∧ x < gg 4 0 1) (hy : y ≠ 0 ∧ -9 ≤ y ∧ y ≤ 9) (k : ∀ A, hiR (gg 4 0 1) A (gg 17 0) → Q (some (aI (fwB (mShadeB (gg 4 0 1) (mOH gg p) x y = true)))) (fwUc h 42 0 A)) : fwCt mX12_wasDark (d + 3) [aR 12 0, aI (p : Int), aI x, aI y] h Q := by
  refine fwCt_of [some (aR 12 0), some (aI (p : Int)), some (aI x), some (aI y), none, none] rfl rfl rfl ?_
  obtain ⟨hl, hP, hG, -, -, -, hlw, -, ha, hs, -, hsc⟩ := id J
  obtain ⟨⟨g1, g2⟩, ⟨g3, g4⟩, ⟨g5, g6⟩, g7, -⟩ := id hG
  have hpz := hP.1
  have hb17 : hB (gg 17 0) := fun c hc => by have := J.2.2.2.1 c hc; omega
  refine w_aload_n dX12_wasDark_0 rfl ?_
  refine w_callV (d := d + 2) (S := []) [] dX12_wasDark_1 ml_X12_200 ok_X12_topCell vi_X12_topCell rfl rfl (by decide) rfl (Nat.le_of_ble_eq_true rfl) ?_
  refine c_X12_topCell (d := (d + 2)) (gg 17 0) J R hH hb17 (show 1 ≤ gg 4 0 1 by omega) ?_
  show fwWP mX12_wasDark (d + 3) 4 [some (aR 12 0), some (aI (p : Int)), some (aI x), some (aI y), none, none] [aI (mTop (gg 17 0) (gg 4 0 4) (gg 4 0 1).toNat)] h Q
  have htp1 := mTop_r2 (gg 17 0) (gg 4 0 4) (gg 4 0 1).toNat (by omega)
  refine w_istore [some (aR 12 0), some (aI (p : Int)), some (aI x), some (aI y), some (aI (mTop (gg 17 0) (gg 4 0 4) (gg 4 0 1).toNat)), none] dX12_wasDark_4 rfl (by decide) ?_
  refine w_aload_n dX12_wasDark_6 rfl ?_
  refine w_getr 42 0 dX12_wasDark_7 fl_X12_34 rfl (by decide) ?_
  refine w_iload dX12_wasDark_10 rfl ?_
  refine w_dup2 dX12_wasDark_12 rfl rfl ?_
  refine w_ialdE (v := (gg 17 0) (mTop (gg 17 0) (gg 4 0 4) (gg 4 0 1).toNat).toNat) dX12_wasDark_13 rfl (by decide) (by omega) (by omega) (hH _ (by omega)) ?_
  refine w_iload_n dX12_wasDark_14 rfl ?_
  refine w_iadd dX12_wasDark_15 ?_
  refine w_iast dX12_wasDark_16 rfl (by decide) (by omega) (by omega) ?_
  rw [show (fwUp h 42 0 (mTop (gg 17 0) (gg 4 0 4) (gg 4 0 1).toNat).toNat (((gg 17 0) (mTop (gg 17 0) (gg 4 0 4) (gg 4 0 1).toNat).toNat) + (p : Int))) = (fwUc h 42 0 (fwFu (h 42 0) (mTop (gg 17 0) (gg 4 0 4) (gg 4 0 1).toNat).toNat (((gg 17 0) (mTop (gg 17 0) (gg 4 0 4) (gg 4 0 1).toNat).toNat) + (p : Int)))) from by rw [fwUp_fu]; try rfl]
  have hA16 : hiR (gg 4 0 1) _ (mOH gg p) := hiR_fu hH (mTop (gg 17 0) (gg 4 0 4) (gg 4 0 1).toNat).toNat (((gg 17 0) (mTop (gg 17 0) (gg 4 0 4) (gg 4 0 1).toNat).toNat) + (p : Int))
  have hb16 := mOH_hb J (k := p) (by omega)
  refine w_aload_n dX12_wasDark_17 rfl ?_
  refine w_iload_n dX12_wasDark_18 rfl ?_
  refine w_iload_n dX12_wasDark_19 rfl ?_
  refine w_callV (d := d + 2) (S := []) [aI x, aI y] dX12_wasDark_20 ml_X12_217 ok_X12_isDark vi_X12_isDark rfl rfl (by decide) rfl (Nat.le_of_ble_eq_true rfl) ?_
  refine c_X12_isDark (d := d) x y (mOH gg p) J R hA16 hb16 (show 0 ≤ x ∧ x < gg 4 0 1 by omega) (by omega) ?_
  show fwWP mX12_wasDark (d + 3) 23 [some (aR 12 0), some (aI (p : Int)), some (aI x), some (aI y), some (aI (mTop (gg 17 0) (gg 4 0 4) (gg 4 0 1).toNat)), none] [aI (fwB (mShadeB (gg 4 0 1) (mOH gg p) x y = true))] (fwUc h 42 0 (fwFu (h 42 0) (mTop (gg 17 0) (gg 4 0 4) (gg 4 0 1).toNat).toNat (((gg 17 0) (mTop (gg 17 0) (gg 4 0 4) (gg 4 0 1).toNat).toNat) + (p : Int)))) Q
  refine w_istore [some (aR 12 0), some (aI (p : Int)), some (aI x), some (aI y), some (aI (mTop (gg 17 0) (gg 4 0 4) (gg 4 0 1).toNat)), some (aI (fwB (mShadeB (gg 4 0 1) (mOH gg p) x y = true)))] dX12_wasDark_23 rfl (by decide) ?_
  refine w_aload_n dX12_wasDark_25 rfl ?_
  refine w_getr 42 0 dX12_wasDark_26 fl_X12_34 rfl (by decide) ?_
  refine w_iload dX12_wasDark_29 rfl ?_
  refine w_dup2 dX12_wasDark_31 rfl rfl ?_
  refine w_ialdE (v := (mOH gg p) (mTop (gg 17 0) (gg 4 0 4) (gg 4 0 1).toNat).toNat) dX12_wasDark_32 rfl (by decide) (by omega) (by omega) (hA16 _ (by omega)) ?_
  refine w_iload_n dX12_wasDark_33 rfl ?_
  refine w_isub dX12_wasDark_34 ?_
  refine w_iast dX12_wasDark_35 rfl (by decide) (by omega) (by omega) ?_
  rw [show (fwUp (fwUc h 42 0 (fwFu (h 42 0) (mTop (gg 17 0) (gg 4 0 4) (gg 4 0 1).toNat).toNat (((gg 17 0) (mTop (gg 17 0) (gg 4 0 4) (gg 4 0 1).toNat).toNat) + (p : Int)))) 42 0 (mTop (gg 17 0) (gg 4 0 4) (gg 4 0 1).toNat).toNat (((mOH gg p) (mTop (gg 17 0) (gg 4 0 4) (gg 4 0 1).toNat).toNat) - (p : Int))) = (fwUc h 42 0 (fwFu (fwFu (h 42 0) (mTop (gg 17 0) (gg 4 0 4) (gg 4 0 1).toNat).toNat (((gg 17 0) (mTop (gg 17 0) (gg 4 0 4) (gg 4 0 1).toNat).toNat) + (p : Int))) (mTop (gg 17 0) (gg 4 0 4) (gg 4 0 1).toNat).toNat (((mOH gg p) (mTop (gg 17 0) (gg 4 0 4) (gg 4 0 1).toNat).toNat) - (p : Int)))) from by rw [fwUp_fu]; rw [fwUc_uc]; rfl]
  have hA35 := hiR_fu hA16 (mTop (gg 17 0) (gg 4 0 4) (gg 4 0 1).toNat).toNat (((mOH gg p) (mTop (gg 17 0) (gg 4 0 4) (gg 4 0 1).toNat).toNat) - (p : Int))
  have e35 : fwFu (mOH gg p) (mTop (gg 17 0) (gg 4 0 4) (gg 4 0 1).toNat).toNat (((mOH gg p) (mTop (gg 17 0) (gg 4 0 4) (gg 4 0 1).toNat).toNat) - (p : Int)) = gg 17 0 := fwFu_kk (gg 17 0) (mTop (gg 17 0) (gg 4 0 4) (gg 4 0 1).toNat).toNat (p : Int)
  rw [e35] at hA35
  refine w_iload dX12_wasDark_36 rfl ?_
  exact w_zret dX12_wasDark_38 rfl (fwB_01 _) (k _ hA35)
set_option maxRecDepth 100000 in
set_option maxHeartbeats 4000000 in
theorem c_X12_asksOld {d : Nat} {h gg : fwH} {Q : Option fwV → fwH → Prop} (x : Int) (J : cOk gg) (R : jF gg h) (K : jA gg h) (S : jS gg h) (hx : -2147483648 ≤ x ∧ x < 2147483648) (k : (¬ mLd gg x → Q (some (aI (mLdR gg x))) h) ∧ (mLd gg x → ∀ A, hiR (gg 4 0 1) A (gg 17 0) → Q (some (aI 0)) (fwUc h 42 0 A))) : fwCt mX12_asksOld (d + 6) [aR 12 0, aI x] h Q := by
  refine fwCt_of [some (aR 12 0), some (aI x), none] rfl rfl rfl ?_
  obtain ⟨hl, hP, hG, hM0, htd, hut, hlw, hhc, ha, hs, hT, hsc⟩ := id J
  have hb17 : hB (gg 17 0) := fun c hc => by have := hM0 c hc; omega
  obtain ⟨⟨g1, g2⟩, ⟨g3, g4⟩, ⟨g5, g6⟩, g7, -⟩ := id hG
  have h17_99 : ∀ c : Nat, (c : Int) < gg 4 0 1 → gg 17 0 c ≤ 99 := fun c hc => (hM0 c (by omega)).2
  have hpz := hP.1
  have hrs1 := R.2.2.2.2.2.2.2.2.2.2.2
  refine w_iload_n dX12_asksOld_0 rfl ?_
  refine w_callS (d := d + 5) (S := []) [aI x] dX12_asksOld_1 ml_X12_357 ok_X12_isSlot st_X12_isSlot rfl (Nat.le_of_ble_eq_true rfl) ?_
  refine c_X12_isSlot (d := (d + 4)) x (by omega) ?_
  show fwWP mX12_asksOld (d + 6) 4 [some (aR 12 0), some (aI x), none] [aI (fwB (0 ≤ x ∧ x ≤ 3))] h Q
  refine w_ifB_eq 14 dX12_asksOld_4 (by decide) (fun c4 => ?_) (fun c4 => ?_)
  · refine w_bipush dX12_asksOld_14 rfl ?_
    exact w_iretE dX12_asksOld_16 rfl (by unfold mLdR; rw [if_neg (by omega)]) (k.1 (fun q0 => by have q1 := q0.1; have q2 := q0.2.1; omega))
  · refine w_aload_n dX12_asksOld_7 rfl ?_
    refine w_callV (d := d + 5) (S := []) [] dX12_asksOld_8 ml_X12_73 ok_X12_isMount vi_X12_isMount rfl rfl (by decide) rfl (Nat.le_of_ble_eq_true rfl) ?_
    refine c_X12_isMount (d := (d + 5)) J R ?_
    show fwWP mX12_asksOld (d + 6) 11 [some (aR 12 0), some (aI x), none] [aI (fwB (0 < gg 3 0 6))] h Q
    refine w_ifB_ne 17 dX12_asksOld_11 (by decide) (fun c11 => ?_) (fun c11 => ?_)
    · obtain ⟨s, rfl⟩ : ∃ s : Nat, x = (s : Int) := ⟨x.toNat, by omega⟩
      have hs35 := (hs s (by omega)).1
      refine w_aload_n dX12_asksOld_17 rfl ?_
      refine w_getr 46 0 dX12_asksOld_18 fl_X12_47 rfl (by decide) ?_
      refine w_iload_n dX12_asksOld_21 rfl ?_
      refine w_ialdE (v := gg 35 0 s) dX12_asksOld_22 rfl (by decide) (by omega) (by omega) (S s (by omega)).1 ?_
      refine w_iconst dX12_asksOld_23 ?_
      refine w_icmp_ne 30 dX12_asksOld_24 (by decide) (by omega) (by omega) (fun c24 => ?_) (fun c24 => ?_)
      · refine w_aload_n dX12_asksOld_30 rfl ?_
        refine w_getr 46 0 dX12_asksOld_31 fl_X12_47 rfl (by decide) ?_
        refine w_iload_n dX12_asksOld_34 rfl ?_
        refine w_ialdE (v := gg 35 0 s) dX12_asksOld_35 rfl (by decide) (by omega) (by omega) (S s (by omega)).1 ?_
        refine w_iconst dX12_asksOld_36 ?_
        have hrm : fwRem (gg 35 0 s) 3 = gg 35 0 s % 3 := fwRem_nn (by omega) (by omega)
        refine w_irem dX12_asksOld_37 (by omega) (by omega) ?_
        rw [hrm]
        refine w_if_eq 44 dX12_asksOld_38 (by decide) (by omega) (fun c38 => ?_) (fun c38 => ?_)
        · refine w_iconst dX12_asksOld_44 ?_
          refine w_istore_n [some (aR 12 0), some (aI (s : Int)), some (aI 0)] dX12_asksOld_45 rfl (by decide) ?_
          have lp46 : ∀ c : Nat, c ≤ (gg 35 0 s / 3).toNat → ∀ (y46  : Int), y46 = 3 * (c : Int) → (mAll (mSiP (gg 33 s) (gg 4 0 1)) c = true) → fwWP mX12_asksOld (d + 6) 46 [some (aR 12 0), some (aI (s : Int)), some (aI y46)] [] h Q := by
            refine fw_up (fun c hc46 ih46 => ?_)
            intro y46  ey46 iv46_0
            subst ey46
            show fwWP mX12_asksOld (d + 6) 46 [some (aR 12 0), some (aI (s : Int)), some (aI (3 * (c : Int)))] [] h Q
            refine w_iload_n dX12_asksOld_46 rfl ?_
            refine w_aload_n dX12_asksOld_47 rfl ?_
            refine w_getr 46 0 dX12_asksOld_48 fl_X12_47 rfl (by decide) ?_
            refine w_iload_n dX12_asksOld_51 rfl ?_
            refine w_ialdE (v := gg 35 0 s) dX12_asksOld_52 rfl (by decide) (by omega) (by omega) (S s (by omega)).1 ?_
            refine w_icmp_ge 108 dX12_asksOld_53 (by decide) (by omega) (by omega) (fun c53 => ?_) (fun c53 => ?_)
            · have ec46 : (gg 35 0 s / 3).toNat = c := by omega
              subst ec46
              refine w_aload_n dX12_asksOld_108 rfl ?_
              refine w_callV (d := d + 5) (S := []) [] dX12_asksOld_109 ml_X12_240 ok_X12_asItIs vi_X12_asItIs rfl rfl (by decide) rfl (Nat.le_of_ble_eq_true rfl) ?_
              refine c_X12_asItIs (d := d) J R K (show 1 ≤ gg 4 0 1 by omega) (show 1 ≤ gg 4 0 3 by omega) ?_
              intro A109_6 hA109_6
              show fwWP mX12_asksOld (d + 6) 112 [some (aR 12 0), some (aI (s : Int)), some (aI (3 * (((gg 35 0 s / 3).toNat : Nat) : Int)))] [] (fwUc h 42 0 A109_6) Q
              refine w_iconst dX12_asksOld_112 ?_
              exact w_iret dX12_asksOld_113 rfl (k.2 ⟨by omega, by omega, c24, by show gg 35 0 s % 3 = 0; omega, iv46_0⟩ _ hA109_6)
            · refine w_aload_n dX12_asksOld_56 rfl ?_
              refine w_aload_n dX12_asksOld_57 rfl ?_
              refine w_iload_n dX12_asksOld_58 rfl ?_
              refine w_iload_n dX12_asksOld_59 rfl ?_
              refine w_callV (d := d + 5) (S := [aR 12 0]) [aI (s : Int), aI (3 * (c : Int))] dX12_asksOld_60 ml_X12_360 ok_X12_numberAt vi_X12_numberAt rfl rfl (by decide) rfl (Nat.le_of_ble_eq_true rfl) ?_
              refine c_naE (d := (d + 5)) s (3 * c) (s : Int) (3 * (c : Int)) S (by omega) (by omega) (by omega) (by omega) ?_
              show fwWP mX12_asksOld (d + 6) 63 [some (aR 12 0), some (aI (s : Int)), some (aI (3 * (c : Int)))] [aJ (gg 33 s (3 * c)), aR 12 0] h Q
              have hl7 := (hs s (by omega)).2.2 (3 * c) (by omega)
              refine w_callV (d := d + 5) (S := []) [aJ (gg 33 s (3 * c))] dX12_asksOld_63 ml_X12_203 ok_X12_isCell vi_X12_isCell rfl rfl (by decide) rfl (Nat.le_of_ble_eq_true rfl) ?_
              refine c_X12_isCell (d := (d + 4)) (gg 33 s (3 * c)) J R (by omega) ?_
              show fwWP mX12_asksOld (d + 6) 66 [some (aR 12 0), some (aI (s : Int)), some (aI (3 * (c : Int)))] [aI (fwB (0 ≤ (gg 33 s (3 * c)) ∧ (gg 33 s (3 * c)) ≤ gg 4 0 1 - 1))] h Q
              refine w_ifB_eq 99 dX12_asksOld_66 (by decide) (fun c66 => ?_) (fun c66 => ?_)
              · refine w_bipush dX12_asksOld_99 rfl ?_
                exact w_iretE dX12_asksOld_101 rfl (by unfold mLdR; rw [if_neg (fun q0 => c24 q0.2.2)]) (k.1 (fun q0 => by have q9 : mAll (mSiP (gg 33 s) (gg 4 0 1)) (gg 35 0 s / 3).toNat = true := q0.2.2.2.2; have q1 := of_decide_eq_true ((mAll_iff _ _).mp q9 c (by omega)); omega))
              · refine w_aload_n dX12_asksOld_69 rfl ?_
                refine w_iload_n dX12_asksOld_70 rfl ?_
                refine w_iload_n dX12_asksOld_71 rfl ?_
                refine w_iconst dX12_asksOld_72 ?_
                refine w_iadd dX12_asksOld_73 ?_
                refine w_callV (d := d + 5) (S := []) [aI (s : Int), aI ((3 * (c : Int)) + 1)] dX12_asksOld_74 ml_X12_360 ok_X12_numberAt vi_X12_numberAt rfl rfl (by decide) rfl (Nat.le_of_ble_eq_true rfl) ?_
                refine c_naE (d := (d + 5)) s ((3 * c) + 1) (s : Int) ((3 * (c : Int)) + 1) S (by omega) (by omega) (by omega) (by omega) ?_
                show fwWP mX12_asksOld (d + 6) 77 [some (aR 12 0), some (aI (s : Int)), some (aI (3 * (c : Int)))] [aJ (gg 33 s ((3 * c) + 1))] h Q
                have hl9 := (hs s (by omega)).2.2 ((3 * c) + 1) (by omega)
                refine w_callS (d := d + 5) (S := []) [aJ (gg 33 s ((3 * c) + 1))] dX12_asksOld_77 ml_X12_243 ok_X12_isHour st_X12_isHour rfl (Nat.le_of_ble_eq_true rfl) ?_
                refine c_X12_isHour (d := (d + 4)) (gg 33 s ((3 * c) + 1)) (by omega) ?_
                show fwWP mX12_asksOld (d + 6) 80 [some (aR 12 0), some (aI (s : Int)), some (aI (3 * (c : Int)))] [aI (fwB ((gg 33 s ((3 * c) + 1)) ≠ 0 ∧ -9 ≤ (gg 33 s ((3 * c) + 1)) ∧ (gg 33 s ((3 * c) + 1)) ≤ 9))] h Q
                refine w_ifB_eq 99 dX12_asksOld_80 (by decide) (fun c80 => ?_) (fun c80 => ?_)
                · refine w_bipush dX12_asksOld_99 rfl ?_
                  exact w_iretE dX12_asksOld_101 rfl (by unfold mLdR; rw [if_neg (fun q0 => c24 q0.2.2)]) (k.1 (fun q0 => by have q9 : mAll (mSiP (gg 33 s) (gg 4 0 1)) (gg 35 0 s / 3).toNat = true := q0.2.2.2.2; have q1 := of_decide_eq_true ((mAll_iff _ _).mp q9 c (by omega)); omega))
                · refine w_aload_n dX12_asksOld_83 rfl ?_
                  refine w_iload_n dX12_asksOld_84 rfl ?_
                  refine w_iload_n dX12_asksOld_85 rfl ?_
                  refine w_iconst dX12_asksOld_86 ?_
                  refine w_iadd dX12_asksOld_87 ?_
                  refine w_callV (d := d + 5) (S := []) [aI (s : Int), aI ((3 * (c : Int)) + 2)] dX12_asksOld_88 ml_X12_360 ok_X12_numberAt vi_X12_numberAt rfl rfl (by decide) rfl (Nat.le_of_ble_eq_true rfl) ?_
                  refine c_naE (d := (d + 5)) s ((3 * c) + 2) (s : Int) ((3 * (c : Int)) + 2) S (by omega) (by omega) (by omega) (by omega) ?_
                  show fwWP mX12_asksOld (d + 6) 91 [some (aR 12 0), some (aI (s : Int)), some (aI (3 * (c : Int)))] [aJ (gg 33 s ((3 * c) + 2))] h Q
                  have hl11 := (hs s (by omega)).2.2 ((3 * c) + 2) (by omega)
                  refine w_lconst (z := 0) dX12_asksOld_91 rfl ?_
                  refine w_lconst (z := 1) dX12_asksOld_92 rfl ?_
                  refine w_callS (d := d + 5) (S := []) [aJ (gg 33 s ((3 * c) + 2)), aJ 0, aJ 1] dX12_asksOld_93 ml_X12_65 ok_X12_in st_X12_in rfl (Nat.le_of_ble_eq_true rfl) ?_
                  refine c_X12_in (d := (d + 5)) (gg 33 s ((3 * c) + 2)) 0 1 (by omega) (by omega) (by omega) ?_
                  show fwWP mX12_asksOld (d + 6) 96 [some (aR 12 0), some (aI (s : Int)), some (aI (3 * (c : Int)))] [aI (fwB (0 ≤ (gg 33 s ((3 * c) + 2)) ∧ (gg 33 s ((3 * c) + 2)) ≤ 1))] h Q
                  refine w_ifB_ne 102 dX12_asksOld_96 (by decide) (fun c96 => ?_) (fun c96 => ?_)
                  · refine w_iinc [some (aR 12 0), some (aI (s : Int)), some (aI ((3 * (c : Int)) + 3))] dX12_asksOld_102 rfl rfl (by decide) ?_
                    refine w_goto 46 dX12_asksOld_105 (by decide) ?_
                    refine ih46 (by omega) _ ?_ ?_
                    · exact (by omega)
                    · exact (by rw [mAll, iv46_0, Bool.true_and]; exact decide_eq_true (by omega))
                  · refine w_bipush dX12_asksOld_99 rfl ?_
                    exact w_iretE dX12_asksOld_101 rfl (by unfold mLdR; rw [if_neg (fun q0 => c24 q0.2.2)]) (k.1 (fun q0 => by have q9 : mAll (mSiP (gg 33 s) (gg 4 0 1)) (gg 35 0 s / 3).toNat = true := q0.2.2.2.2; have q1 := of_decide_eq_true ((mAll_iff _ _).mp q9 c (by omega)); omega))
          refine lp46 0 (Nat.zero_le _) _ ?_ ?_
          · exact (by omega)
          · exact rfl
        · refine w_bipush dX12_asksOld_41 rfl ?_
          exact w_iretE dX12_asksOld_43 rfl (by unfold mLdR; rw [if_neg (fun q0 => c24 q0.2.2)]) (k.1 (fun q0 => by have q1 : gg 35 0 s % 3 = 0 := q0.2.2.2.1; omega))
      · refine w_bipush dX12_asksOld_27 rfl ?_
        exact w_iretE dX12_asksOld_29 rfl (by unfold mLdR; rw [if_pos ⟨by omega, by omega, c24⟩]) (k.1 (fun q0 => q0.2.2.1 c24))
    · refine w_bipush dX12_asksOld_14 rfl ?_
      exact w_iretE dX12_asksOld_16 rfl (by unfold mLdR; rw [if_neg (by omega)]) (k.1 (fun q0 => by have q1 := q0.1; have q2 := q0.2.1; omega))
end
section
def fV (a b c p e : Int) (i : Nat) : Int := if i = 0 then a else if i = 1 then b else if i = 2 then c else if i = 3 then p else e
def fV8 (a b c p e : Int) (k : Nat) : Int := fwB8 (fwShr (fV a b c p e (k / 4)) (24 - 8 * ((k % 4 : Nat) : Int)))
def mF20 (B : Nat → Int) (s : Nat) (V : Nat → Int) : Nat → (Nat → Int)
  | 0 => B
  | k + 1 => fwFu (mF20 B s V k) (s + k) (V k)
set_option maxRecDepth 100000 in
theorem mF20_feed (B : Nat → Int) (s : Nat) (a b c p e : Int) : mF20 B s (fV8 a b c p e) 20 = mFeed B s a b c p e := by
  unfold mFeed
  simp only [mF20, mAdN]
  rfl
def fiv (g : Nat → Int) (a b c p e : Int) : Nat → Int := fwFu (fwFu (fwFu (fwFu (fwFu g 0 a) 1 b) 2 c) 3 p) 4 e
theorem fiv_at (g : Nat → Int) (a b c p e : Int) {i : Nat} (hi : i < 5) : fiv g a b c p e i = fV a b c p e i := by
  rcases (show i = 0 ∨ i = 1 ∨ i = 2 ∨ i = 3 ∨ i = 4 by omega) with rfl | rfl | rfl | rfl | rfl <;> rfl
set_option maxRecDepth 100000 in
set_option maxHeartbeats 4000000 in
theorem c_X12_feed {d : Nat} {h : fwH} {Q : Option fwV → fwH → Prop} (a b c0 p e : Int) (ht : 0 ≤ h 12 0 5 ∧ h 12 0 5 ≤ 900) (k : (h 12 0 5 ≤ 880 → Q (some (aI (h 12 0 5 + 20))) (fwUp (fwUc (fwUc h 40 0 (fiv (h 40 0) a b c0 p e)) 39 0 (mFeed (h 39 0) (h 12 0 5).toNat a b c0 p e)) 12 0 5 (h 12 0 5 + 20))) ∧ (¬ h 12 0 5 ≤ 880 → Q (some (aI (-1))) h)) : fwCt mX12_feed (d + 0) [aR 12 0, aI a, aI b, aI c0, aI p, aI e] h Q := by
  refine fwCt_of [some (aR 12 0), some (aI a), some (aI b), some (aI c0), some (aI p), some (aI e), none] rfl rfl rfl ?_
  refine w_aload_n dX12_feed_0 rfl ?_
  refine w_getiE (v := h 12 0 5) dX12_feed_1 fl_X12_81 rfl (by decide) rfl ?_
  refine w_bipush dX12_feed_4 rfl ?_
  refine w_iadd dX12_feed_6 ?_
  refine w_sipush dX12_feed_7 rfl ?_
  refine w_icmp_le 15 dX12_feed_10 (by decide) (by omega) (by omega) (fun c10 => ?_) (fun c10 => ?_)
  · refine w_aload_n dX12_feed_15 rfl ?_
    refine w_getr 40 0 dX12_feed_16 fl_X12_24 rfl (by decide) ?_
    refine w_iconst dX12_feed_19 ?_
    refine w_iload_n dX12_feed_20 rfl ?_
    refine w_iast dX12_feed_21 rfl (by decide) (by omega) (by omega) ?_
    refine w_aload_n dX12_feed_22 rfl ?_
    refine w_getr 40 0 dX12_feed_23 fl_X12_24 rfl (by decide) ?_
    refine w_iconst dX12_feed_26 ?_
    refine w_iload_n dX12_feed_27 rfl ?_
    refine w_iast dX12_feed_28 rfl (by decide) (by omega) (by omega) ?_
    refine w_aload_n dX12_feed_29 rfl ?_
    refine w_getr 40 0 dX12_feed_30 fl_X12_24 rfl (by decide) ?_
    refine w_iconst dX12_feed_33 ?_
    refine w_iload_n dX12_feed_34 rfl ?_
    refine w_iast dX12_feed_35 rfl (by decide) (by omega) (by omega) ?_
    refine w_aload_n dX12_feed_36 rfl ?_
    refine w_getr 40 0 dX12_feed_37 fl_X12_24 rfl (by decide) ?_
    refine w_iconst dX12_feed_40 ?_
    refine w_iload dX12_feed_41 rfl ?_
    refine w_iast dX12_feed_43 rfl (by decide) (by omega) (by omega) ?_
    refine w_aload_n dX12_feed_44 rfl ?_
    refine w_getr 40 0 dX12_feed_45 fl_X12_24 rfl (by decide) ?_
    refine w_iconst dX12_feed_48 ?_
    refine w_iload dX12_feed_49 rfl ?_
    refine w_iast dX12_feed_51 rfl (by decide) (by omega) (by omega) ?_
    rw [show (fwUp (fwUp (fwUp (fwUp (fwUp h 40 0 (Int.toNat 0) a) 40 0 (Int.toNat 1) b) 40 0 (Int.toNat 2) c0) 40 0 (Int.toNat 3) p) 40 0 (Int.toNat 4) e) = (fwUc h 40 0 (fiv (h 40 0) a b c0 p e)) from by rw [fwUp_fu h 40, fwUp_fu _ 40, fwUp_fu _ 40, fwUp_fu _ 40, fwUp_fu _ 40, fwUc_at, fwUc_uc, fwUc_at, fwUc_uc, fwUc_at, fwUc_uc, fwUc_at, fwUc_uc]; rfl]
    refine w_iconst dX12_feed_52 ?_
    refine w_istore [some (aR 12 0), some (aI a), some (aI b), some (aI c0), some (aI p), some (aI e), some (aI 0)] dX12_feed_53 rfl (by decide) ?_
    have lp55 : ∀ c : Nat, c ≤ 20 → ∀ (y55  : Int) (hh55 : fwH), y55 = (c : Int) → hh55 = (fwUc (fwUc h 40 0 (fiv (h 40 0) a b c0 p e)) 39 0 (mF20 (h 39 0) (h 12 0 5).toNat (fV8 a b c0 p e) c)) → fwWP mX12_feed (d + 0) 55 [some (aR 12 0), some (aI a), some (aI b), some (aI c0), some (aI p), some (aI e), some (aI y55)] [] hh55 Q := by
      refine fw_up (fun c hc55 ih55 => ?_)
      intro y55  hh55 ey55 eh55
      subst ey55
      subst eh55
      show fwWP mX12_feed (d + 0) 55 [some (aR 12 0), some (aI a), some (aI b), some (aI c0), some (aI p), some (aI e), some (aI (c : Int))] [] (fwUc (fwUc h 40 0 (fiv (h 40 0) a b c0 p e)) 39 0 (mF20 (h 39 0) (h 12 0 5).toNat (fV8 a b c0 p e) c)) Q
      refine w_iload dX12_feed_55 rfl ?_
      refine w_bipush dX12_feed_57 rfl ?_
      refine w_icmp_ge 101 dX12_feed_59 (by decide) (by omega) (by omega) (fun c59 => ?_) (fun c59 => ?_)
      · have ec55 : 20 = c := by omega
        subst ec55
        refine w_aload_n dX12_feed_101 rfl ?_
        refine w_dup dX12_feed_102 rfl ?_
        refine w_getiE (v := h 12 0 5) dX12_feed_103 fl_X12_81 rfl (by decide) rfl ?_
        refine w_bipush dX12_feed_106 rfl ?_
        refine w_iadd dX12_feed_108 ?_
        refine w_puti dX12_feed_109 fl_X12_81 fp_12_5 rfl (by decide) ?_
        refine w_aload_n dX12_feed_112 rfl ?_
        refine w_getiE (v := h 12 0 5 + 20) dX12_feed_113 fl_X12_81 rfl (by decide) rfl ?_
        rw [mF20_feed]
        exact w_iretE dX12_feed_116 rfl rfl (k.1 (by omega))
      · have hdv : fwDiv (c : Int) 4 = (c : Int) / 4 := fwDiv_nn (by omega) (by omega)
        have hrm : fwRem (c : Int) 4 = (c : Int) % 4 := fwRem_nn (by omega) (by omega)
        have hv8 := fwB8_rng (fwShr (fV a b c0 p e (c / 4)) (24 - 8 * fwRem (c : Int) 4))
        refine w_aload_n dX12_feed_62 rfl ?_
        refine w_getr 39 0 dX12_feed_63 fl_X12_20 rfl (by decide) ?_
        refine w_aload_n dX12_feed_66 rfl ?_
        refine w_getiE (v := h 12 0 5) dX12_feed_67 fl_X12_81 rfl (by decide) rfl ?_
        refine w_iload dX12_feed_70 rfl ?_
        refine w_iadd dX12_feed_72 ?_
        refine w_aload_n dX12_feed_73 rfl ?_
        refine w_getr 40 0 dX12_feed_74 fl_X12_24 rfl (by decide) ?_
        refine w_iload dX12_feed_77 rfl ?_
        refine w_iconst dX12_feed_79 ?_
        refine w_idiv dX12_feed_80 (by omega) (by omega) ?_
        refine w_ialdE (v := fV a b c0 p e (c / 4)) dX12_feed_81 rfl (by decide) (by rw [hdv]; omega) (by rw [hdv]; omega) (by rw [show ((fwDiv (c : Int) 4).toNat) = c / 4 by rw [hdv]; omega]; exact fiv_at _ _ _ _ _ _ (by omega)) ?_
        refine w_bipush dX12_feed_82 rfl ?_
        refine w_bipush dX12_feed_84 rfl ?_
        refine w_iload dX12_feed_86 rfl ?_
        refine w_iconst dX12_feed_88 ?_
        refine w_irem dX12_feed_89 (by omega) (by omega) ?_
        refine w_imul dX12_feed_90 ?_
        refine w_isub dX12_feed_91 ?_
        refine w_ishr dX12_feed_92 ?_
        refine w_i2b dX12_feed_93 ?_
        refine w_bast dX12_feed_94 rfl (by decide) (by omega) (by omega) (by first | omega | exact fwB_01 _) ?_
        refine w_iinc [some (aR 12 0), some (aI a), some (aI b), some (aI c0), some (aI p), some (aI e), some (aI ((c : Int) + 1))] dX12_feed_95 rfl rfl (by decide) ?_
        refine w_goto 55 dX12_feed_98 (by decide) ?_
        refine ih55 (by omega) _ _ ?_ ?_
        · exact (by omega)
        · exact (by rw [fwUp_uc, show (h 12 0 5 + (c : Int)).toNat = (h 12 0 5).toNat + c by omega, hrm, mF20]; rfl)
    refine lp55 0 (Nat.zero_le _) _ _ ?_ ?_
    · exact (by omega)
    · exact (fwUc_self _ 39 0).symm
  · refine w_iconst dX12_feed_13 ?_
    exact w_iretE dX12_feed_14 rfl rfl (k.2 (by omega))
end

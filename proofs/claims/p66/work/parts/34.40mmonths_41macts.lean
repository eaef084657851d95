section
theorem fwL_sub (x y : Int) : Int64.ofInt x - Int64.ofInt y = Int64.ofInt (x - y) := by
  apply Int64.toInt_inj.mp
  simp [Int64.toInt_sub, Int64.toInt_ofInt, Int64.size]
theorem fwLdiv_nn {x y : Int} (hx : 0 ≤ x ∧ x < 9223372036854775808) (hy : 0 < y ∧ y < 9223372036854775808) : fwLdiv x y = x / y := by
  unfold fwLdiv
  rw [Int64.toInt_div_of_ne_right, fwL_rt (by omega), fwL_rt (by omega), Int.tdiv_eq_ediv_of_nonneg hx.1]
  intro q
  have q1 := congrArg Int64.toInt q
  rw [fwL_rt (by omega), show (-1 : Int64).toInt = -1 from by decide] at q1
  omega
theorem fwLrem_nn {x y : Int} (hx : 0 ≤ x ∧ x < 9223372036854775808) (hy : 0 < y ∧ y < 9223372036854775808) : fwLrem x y = x % y := by
  have hd := fwLdiv_nn hx hy
  have e : Int64.ofInt x / Int64.ofInt y = Int64.ofInt (x / y) := by
    apply Int64.toInt_inj.mp
    have h1 : 0 ≤ x / y := Int.ediv_nonneg hx.1 (by omega)
    have h2 : x / y ≤ x := Int.ediv_le_self _ hx.1
    rw [fwL_rt (by omega)]
    exact hd
  unfold fwLrem
  have h3 := Int.emod_nonneg x (show y ≠ 0 by omega)
  have h4 := Int.emod_lt_of_pos x hy.1
  have h5 := Int.emod_def x y
  rw [e, fwL_mul, fwL_sub, Int.mul_comm (x / y) y, ← h5, fwL_rt (by omega)]
theorem fwLand_31 {x : Int} (hx : 0 ≤ x ∧ x < 9223372036854775808) : fwLand x 2147483647 = x % 2147483648 := by
  obtain ⟨a, rfl⟩ : ∃ a : Nat, x = a := ⟨x.toNat, by omega⟩
  have e : Int64.ofInt (a : Int) &&& Int64.ofInt 2147483647 = Int64.ofInt ((a % 2147483648 : Nat) : Int) := by
    apply Int64.toBitVec_inj.mp
    rw [Int64.toBitVec_and]
    apply BitVec.eq_of_toNat_eq
    rw [BitVec.toNat_and, Int64.toBitVec_ofInt, Int64.toBitVec_ofInt, Int64.toBitVec_ofInt, BitVec.toNat_ofInt, BitVec.toNat_ofInt, BitVec.toNat_ofInt]
    have h1 : ((a : Int) % ((2 ^ 64 : Nat) : Int)).toNat = a := by omega
    have h2 : ((2147483647 : Int) % ((2 ^ 64 : Nat) : Int)).toNat = 2 ^ 31 - 1 := by decide
    have h3 : (((a % 2147483648 : Nat) : Int) % ((2 ^ 64 : Nat) : Int)).toNat = a % 2 ^ 31 := by omega
    rw [h1, h2, h3, Nat.and_two_pow_sub_one_eq_mod]
  unfold fwLand
  rw [e, fwL_rt (by omega)]
  omega
theorem mNx_eq {x : Int} (hx : 0 ≤ x ∧ x < 2147483648) : fwLrem (1103515245 * x + 12345) 2147483648 = mNx x ∧ 0 ≤ mNx x ∧ mNx x < 2147483648 := by
  unfold mNx
  rw [fwLand_31 (by omega), fwLrem_nn (by omega) (by omega)]
  omega
theorem mDr_1 {h : fwH} {x0 : Int} (hx : 0 ≤ x0 ∧ x0 < 2147483648) : ∀ m : Nat, (0 ≤ (mDr h x0 m).1 ∧ (mDr h x0 m).1 < 2147483648) ∧ 0 ≤ (mDr h x0 m).2.1 ∧ (mDr h x0 m).2.1 ≤ m := by
  intro m
  induction m with
  | zero => rw [mDr]; dsimp only; omega
  | succ m ih =>
    have := (mNx_eq ih.1).2
    rw [mDr]
    split
    · dsimp only; omega
    · dsimp only; omega
theorem mDr_99 {h : fwH} (J : cOk h) (ht : 0 < h 3 0 6) (x0 : Int) : ∀ m : Nat, ∀ c : Nat, c < 10 → 0 ≤ (mDr h x0 m).2.2 c ∧ (mDr h x0 m).2.2 c ≤ 99 := by
  intro m
  induction m with
  | zero => exact J.2.2.2.1
  | succ m ih =>
    rw [mDr]
    split
    · exact mRs_rng J.2.2.1.1 (J.2.2.2.2.2.2.2.1 ht) (by omega) (mLow_rng (by have := J.2.2.1.1; omega) ih)
    · exact ih
theorem mWon_r {h : fwH} (J : cOk h) {x : Int} (hx : 0 ≤ x ∧ x < 2147483648) (hz : 0 < h 5 0 3) : (0 ≤ fwLrem (fwLdiv x 65536) (h 5 0 3) ∧ fwLrem (fwLdiv x 65536) (h 5 0 3) < 8) ∧ 0 ≤ mWon h x ∧ mWon h x < 256 := by
  have h8 := J.2.1.1
  have h1 : fwLdiv x 65536 = x / 65536 := fwLdiv_nn (by omega) (by omega)
  have h2 : fwLrem (x / 65536) (h 5 0 3) = (x / 65536) % (h 5 0 3) := fwLrem_nn (by omega) (by omega)
  have h3 := Int.emod_nonneg (x / 65536) (show h 5 0 3 ≠ 0 by omega)
  have h4 := Int.emod_lt_of_pos (x / 65536) hz
  unfold mWon
  rw [h1, h2]
  refine ⟨by omega, ?_⟩
  obtain ⟨n, en⟩ : ∃ n : Nat, (x / 65536) % (h 5 0 3) = n := ⟨((x / 65536) % (h 5 0 3)).toNat, by omega⟩
  rw [en]
  exact shl_7 (by omega)
set_option maxRecDepth 100000 in
set_option maxHeartbeats 4000000 in
theorem c_goM0 {d : Nat} {h gg : fwH} {Q : Option fwV → fwH → Prop} (x : Int) (m : Nat) (J : cOk gg) (R : jF gg h) (K : jA gg h) (ht : 0 < gg 3 0 6) (hz : gg 5 0 3 = 0) (hm : m ≤ 100) (k : ∀ A, hiR (gg 4 0 1) A (gg 17 0) → Q (some (aI 0)) (fwUc h 42 0 A)) : fwCt mX12_goMonths (d + 6) [aR 12 0, aJ x, aI (m : Int)] h Q := by
  refine fwCt_of [some (aR 12 0), some (aJ x), none, some (aI (m : Int)), none, none, none, none, none] rfl rfl rfl ?_
  obtain ⟨hl, hP, hG, hM0, htd, hut, hlw, hhc, ha, hs, hT, hsc⟩ := id J
  have hb17 : hB (gg 17 0) := fun c hc => by have := hM0 c hc; omega
  obtain ⟨⟨g1, g2⟩, ⟨g3, g4⟩, ⟨g5, g6⟩, g7, -⟩ := id hG
  have h17_99 : ∀ c : Nat, (c : Int) < gg 4 0 1 → gg 17 0 c ≤ 99 := fun c hc => (hM0 c (by omega)).2
  have hpz := hP.1
  have hrs1 := R.2.2.2.2.2.2.2.2.2.2.2
  refine w_aload_n dX12_goMonths_0 rfl ?_
  refine w_callV (d := d + 5) (S := []) [] dX12_goMonths_1 ml_X12_240 ok_X12_asItIs vi_X12_asItIs rfl rfl (by decide) rfl (Nat.le_of_ble_eq_true rfl) ?_
  refine c_X12_asItIs (d := d) J R K (show 1 ≤ gg 4 0 1 by omega) (show 1 ≤ gg 4 0 3 by omega) ?_
  intro A1_1 hA1_1
  show fwWP mX12_goMonths (d + 6) 4 [some (aR 12 0), some (aJ x), none, some (aI (m : Int)), none, none, none, none, none] [] (fwUc h 42 0 A1_1) Q
  refine w_lload_n dX12_goMonths_4 rfl ?_
  refine w_lstore [some (aR 12 0), some (aJ x), none, some (aI (m : Int)), some (aJ x), none, none, none, none] dX12_goMonths_5 rfl (by decide) ?_
  refine w_iconst dX12_goMonths_7 ?_
  refine w_istore [some (aR 12 0), some (aJ x), none, some (aI (m : Int)), some (aJ x), none, some (aI 0), none, none] dX12_goMonths_8 rfl (by decide) ?_
  refine w_iconst dX12_goMonths_10 ?_
  refine w_istore [some (aR 12 0), some (aJ x), none, some (aI (m : Int)), some (aJ x), none, some (aI 0), some (aI 0), none] dX12_goMonths_11 rfl (by decide) ?_
  have lp13 : ∀ c : Nat, c ≤ m → ∀ (y13 : Int) (A13 : Nat → Int), y13 = (c : Int) → hiR (gg 4 0 1) A13 (gg 17 0) → fwWP mX12_goMonths (d + 6) 13 [some (aR 12 0), some (aJ x), none, some (aI (m : Int)), some (aJ x), none, some (aI 0), some (aI y13), none] [] (fwUc h 42 0 A13) Q := by
    refine fw_up (fun c hc13 ih13 => ?_)
    intro y13 A13 ey13 hA13
    subst ey13
    show fwWP mX12_goMonths (d + 6) 13 [some (aR 12 0), some (aJ x), none, some (aI (m : Int)), some (aJ x), none, some (aI 0), some (aI (c : Int)), none] [] (fwUc h 42 0 A13) Q
    refine w_iload dX12_goMonths_13 rfl ?_
    refine w_iload_n dX12_goMonths_15 rfl ?_
    refine w_icmp_ge 117 dX12_goMonths_16 (by decide) (by omega) (by omega) (fun c16 => ?_) (fun c16 => ?_)
    · have ec13 : m = c := by omega
      subst ec13
      refine w_iload dX12_goMonths_117 rfl ?_
      exact w_iret dX12_goMonths_119 rfl (k _ hA13)
    · refine w_iconst dX12_goMonths_19 ?_
      refine w_istore [some (aR 12 0), some (aJ x), none, some (aI (m : Int)), some (aJ x), none, some (aI 0), some (aI (c : Int)), some (aI 0)] dX12_goMonths_20 rfl (by decide) ?_
      refine w_aload_n dX12_goMonths_22 rfl ?_
      refine w_getr 36 0 dX12_goMonths_23 fl_X12_9 rfl (by decide) ?_
      refine w_bipush dX12_goMonths_26 rfl ?_
      refine w_ialdE (v := gg 5 0 3) dX12_goMonths_28 rfl (by decide) (by omega) (by omega) R.2.2.2.2.2.2.1 ?_
      refine w_if_le 68 dX12_goMonths_29 (by decide) (by omega) (fun c29 => ?_) (fun c29 => ?_)
      · refine w_aload_n dX12_goMonths_68 rfl ?_
        refine w_aload_n dX12_goMonths_69 rfl ?_
        refine w_aload_n dX12_goMonths_70 rfl ?_
        refine w_callV (d := d + 5) (S := [aR 12 0, aR 12 0]) [] dX12_goMonths_71 ml_X12_263 ok_X12_willingSet vi_X12_willingSet rfl rfl (by decide) rfl (Nat.le_of_ble_eq_true rfl) ?_
        refine c_X12_willingSet (d := d) (gg 17 0) J R hA13 hb17 (show 1 ≤ gg 4 0 1 by omega) ?_
        intro A71_4 hA71_4
        show fwWP mX12_goMonths (d + 6) 74 [some (aR 12 0), some (aJ x), none, some (aI (m : Int)), some (aJ x), none, some (aI 0), some (aI (c : Int)), some (aI 0)] [aI (mGers (gg 4 0 1) (gg 17 0) (gg 4 0 2) (gg 4 0 4) (gg 18 0) (gg 5 0 3).toNat (-1)), aR 12 0, aR 12 0] (fwUc (fwUc h 42 0 A13) 42 0 A71_4) Q
        rw [show (fwUc (fwUc h 42 0 A13) 42 0 A71_4) = (fwUc h 42 0 A71_4) from by funext a b; simp only [fwUc]; (repeat' split); all_goals first | rfl | (exfalso; omega)]
        have hwr4 := mGers_r (gg 4 0 1) (gg 17 0) (gg 4 0 2) (gg 4 0 4) (gg 18 0) (m := (gg 5 0 3).toNat) (-1) (by omega)
        have hw8_5 := mGers_8 (gg 4 0 1) (gg 17 0) (gg 4 0 2) (gg 4 0 4) (gg 18 0) (m := (gg 5 0 3).toNat) (-1) (by omega)
        change fwWP _ _ _ _ (aI (mWil gg 0) :: _) _ _
        have hw8 : 0 ≤ mWil gg 0 ∧ mWil gg 0 < 256 := hw8_5
        refine w_iload dX12_goMonths_74 rfl ?_
        refine w_ior dX12_goMonths_76 ?_
        have ho8 := or_rg hw8 (y := 0) (by omega)
        refine w_iconst dX12_goMonths_77 ?_
        refine w_callV (d := d + 5) (S := [aR 12 0]) [aI (fwOr (mWil gg 0) 0), aI 0] dX12_goMonths_78 ml_X12_270 ok_X12_signing vi_X12_signing rfl rfl (by decide) rfl (Nat.le_of_ble_eq_true rfl) ?_
        refine c_sgE (d := (d + 4)) (fwOr (mWil gg 0) 0) 0 J R (by omega) (by omega) ?_
        show fwWP mX12_goMonths (d + 6) 81 [some (aR 12 0), some (aJ x), none, some (aI (m : Int)), some (aJ x), none, some (aI 0), some (aI (c : Int)), some (aI 0)] [aI (mSign (gg 18 0) (gg 5 0 3).toNat (fwOr (mWil gg 0) 0) 0), aR 12 0] (fwUc h 42 0 A71_4) Q
        have hno : ¬ gg 3 0 4 ≤ mNames (gg 18 0) (mSign (gg 18 0) (gg 5 0 3).toNat (fwOr (mWil gg 0) 0) 0) (gg 5 0 3).toNat := by rw [show (gg 5 0 3).toNat = 0 by omega]; show ¬ gg 3 0 4 ≤ 0; omega
        refine w_callV (d := d + 5) (S := []) [aI (mSign (gg 18 0) (gg 5 0 3).toNat (fwOr (mWil gg 0) 0) 0)] dX12_goMonths_81 ml_X12_273 ok_X12_isEnough vi_X12_isEnough rfl rfl (by decide) rfl (Nat.le_of_ble_eq_true rfl) ?_
        refine c_X12_isEnough (d := (d + 3)) (mSign (gg 18 0) (gg 5 0 3).toNat (fwOr (mWil gg 0) 0) 0) J R ?_
        show fwWP mX12_goMonths (d + 6) 84 [some (aR 12 0), some (aJ x), none, some (aI (m : Int)), some (aJ x), none, some (aI 0), some (aI (c : Int)), some (aI 0)] [aI (fwB (gg 3 0 4 ≤ mNames (gg 18 0) (mSign (gg 18 0) (gg 5 0 3).toNat (fwOr (mWil gg 0) 0) 0) (gg 5 0 3).toNat))] (fwUc h 42 0 A71_4) Q
        refine w_ifB_eq 111 dX12_goMonths_84 (by decide) (fun c84 => ?_) (fun c84 => ?_)
        · refine w_iinc [some (aR 12 0), some (aJ x), none, some (aI (m : Int)), some (aJ x), none, some (aI 0), some (aI ((c : Int) + 1)), some (aI 0)] dX12_goMonths_111 rfl rfl (by decide) ?_
          refine w_goto 13 dX12_goMonths_114 (by decide) ?_
          refine w_drop [8] [some (aR 12 0), some (aJ x), none, some (aI (m : Int)), some (aJ x), none, some (aI 0), some (aI ((c : Int) + 1)), none] rfl ?_
          refine ih13 (by omega) _ _ ?_ ?_
          · exact (by omega)
          · exact hA71_4
        · exact absurd c84 hno
      · (exfalso; omega)
  have z13 := lp13 0 (Nat.zero_le _) _ A1_1 (by exact (show 0 = ((0 : Nat) : Int) by omega))  hA1_1
  exact z13
set_option maxRecDepth 100000 in
set_option maxHeartbeats 4000000 in
theorem c_goM1 {d : Nat} {h gg : fwH} {Q : Option fwV → fwH → Prop} (x : Int) (m : Nat) (J : cOk gg) (R : jF gg h) (K : jA gg h) (ht : 0 < gg 3 0 6) (hz : 0 < gg 5 0 3) (hm : m ≤ 100) (hx : 0 ≤ x ∧ x < 2147483648) (k : ∀ A, hiR (gg 4 0 1) A (mDr gg x m).2.2 → Q (some (aI (mDr gg x m).2.1)) (fwUc h 42 0 A)) : fwCt mX12_goMonths (d + 6) [aR 12 0, aJ x, aI (m : Int)] h Q := by
  refine fwCt_of [some (aR 12 0), some (aJ x), none, some (aI (m : Int)), none, none, none, none, none] rfl rfl rfl ?_
  obtain ⟨hl, hP, hG, hM0, htd, hut, hlw, hhc, ha, hs, hT, hsc⟩ := id J
  have hb17 : hB (gg 17 0) := fun c hc => by have := hM0 c hc; omega
  obtain ⟨⟨g1, g2⟩, ⟨g3, g4⟩, ⟨g5, g6⟩, g7, -⟩ := id hG
  have h17_99 : ∀ c : Nat, (c : Int) < gg 4 0 1 → gg 17 0 c ≤ 99 := fun c hc => (hM0 c (by omega)).2
  have hpz := hP.1
  have hrs1 := R.2.2.2.2.2.2.2.2.2.2.2
  have hhc1 := hhc ht
  refine w_aload_n dX12_goMonths_0 rfl ?_
  refine w_callV (d := d + 5) (S := []) [] dX12_goMonths_1 ml_X12_240 ok_X12_asItIs vi_X12_asItIs rfl rfl (by decide) rfl (Nat.le_of_ble_eq_true rfl) ?_
  refine c_X12_asItIs (d := d) J R K (show 1 ≤ gg 4 0 1 by omega) (show 1 ≤ gg 4 0 3 by omega) ?_
  intro A1_1 hA1_1
  show fwWP mX12_goMonths (d + 6) 4 [some (aR 12 0), some (aJ x), none, some (aI (m : Int)), none, none, none, none, none] [] (fwUc h 42 0 A1_1) Q
  refine w_lload_n dX12_goMonths_4 rfl ?_
  refine w_lstore [some (aR 12 0), some (aJ x), none, some (aI (m : Int)), some (aJ x), none, none, none, none] dX12_goMonths_5 rfl (by decide) ?_
  refine w_iconst dX12_goMonths_7 ?_
  refine w_istore [some (aR 12 0), some (aJ x), none, some (aI (m : Int)), some (aJ x), none, some (aI 0), none, none] dX12_goMonths_8 rfl (by decide) ?_
  refine w_iconst dX12_goMonths_10 ?_
  refine w_istore [some (aR 12 0), some (aJ x), none, some (aI (m : Int)), some (aJ x), none, some (aI 0), some (aI 0), none] dX12_goMonths_11 rfl (by decide) ?_
  have lp13 : ∀ c : Nat, c ≤ m → ∀ (y13 xv fv : Int) (A13 : Nat → Int), y13 = (c : Int) → xv = (mDr gg x c).1 → fv = (mDr gg x c).2.1 → hiR (gg 4 0 1) A13 (mDr gg x c).2.2 → fwWP mX12_goMonths (d + 6) 13 [some (aR 12 0), some (aJ x), none, some (aI (m : Int)), some (aJ xv), none, some (aI fv), some (aI y13), none] [] (fwUc h 42 0 A13) Q := by
    refine fw_up (fun c hc13 ih13 => ?_)
    intro y13 xv fv A13 ey13 e_xv e_fv hA13
    subst ey13
    subst e_xv
    subst e_fv
    show fwWP mX12_goMonths (d + 6) 13 [some (aR 12 0), some (aJ x), none, some (aI (m : Int)), some (aJ ((mDr gg x c).1)), none, some (aI ((mDr gg x c).2.1)), some (aI (c : Int)), none] [] (fwUc h 42 0 A13) Q
    refine w_iload dX12_goMonths_13 rfl ?_
    refine w_iload_n dX12_goMonths_15 rfl ?_
    refine w_icmp_ge 117 dX12_goMonths_16 (by decide) (by omega) (by omega) (fun c16 => ?_) (fun c16 => ?_)
    · have ec13 : m = c := by omega
      subst ec13
      refine w_iload dX12_goMonths_117 rfl ?_
      exact w_iret dX12_goMonths_119 rfl (k _ hA13)
    · have hb9 := mDr_99 J ht x c
      have hbl : hB (mDr gg x c).2.2 := fun c2 hc2 => by have := hb9 c2 hc2; omega
      have hd1 := mDr_1 (h := gg) hx c
      have hnx := mNx_eq hd1.1
      have hwn := mWon_r J hnx.2 hz
      refine w_iconst dX12_goMonths_19 ?_
      refine w_istore [some (aR 12 0), some (aJ x), none, some (aI (m : Int)), some (aJ ((mDr gg x c).1)), none, some (aI ((mDr gg x c).2.1)), some (aI (c : Int)), some (aI 0)] dX12_goMonths_20 rfl (by decide) ?_
      refine w_aload_n dX12_goMonths_22 rfl ?_
      refine w_getr 36 0 dX12_goMonths_23 fl_X12_9 rfl (by decide) ?_
      refine w_bipush dX12_goMonths_26 rfl ?_
      refine w_ialdE (v := gg 5 0 3) dX12_goMonths_28 rfl (by decide) (by omega) (by omega) R.2.2.2.2.2.2.1 ?_
      refine w_if_le 68 dX12_goMonths_29 (by decide) (by omega) (fun c29 => ?_) (fun c29 => ?_)
      · (exfalso; omega)
      · refine w_ldc2 (n := 1103515245) dX12_goMonths_32 cs_X12_390 ?_
        refine w_lload dX12_goMonths_35 rfl ?_
        refine w_lmul dX12_goMonths_37 ?_
        refine w_ldc2 (n := 12345) dX12_goMonths_38 cs_X12_392 ?_
        refine w_ladd dX12_goMonths_41 ?_
        refine w_ldc2 (n := 2147483648) dX12_goMonths_42 cs_X12_394 ?_
        refine w_lrem dX12_goMonths_45 (by omega) (by omega) ?_
        rw [hnx.1]
        refine w_lstore [some (aR 12 0), some (aJ x), none, some (aI (m : Int)), some (aJ (mNx (mDr gg x c).1)), none, some (aI ((mDr gg x c).2.1)), some (aI (c : Int)), some (aI 0)] dX12_goMonths_46 rfl (by decide) ?_
        refine w_iconst dX12_goMonths_48 ?_
        refine w_lload dX12_goMonths_49 rfl ?_
        refine w_ldc2 (n := 65536) dX12_goMonths_51 cs_X12_396 ?_
        refine w_ldiv dX12_goMonths_54 (by omega) (by omega) ?_
        refine w_aload_n dX12_goMonths_55 rfl ?_
        refine w_getr 36 0 dX12_goMonths_56 fl_X12_9 rfl (by decide) ?_
        refine w_bipush dX12_goMonths_59 rfl ?_
        refine w_ialdE (v := gg 5 0 3) dX12_goMonths_61 rfl (by decide) (by omega) (by omega) R.2.2.2.2.2.2.1 ?_
        refine w_i2l dX12_goMonths_62 (by omega) ?_
        refine w_lrem dX12_goMonths_63 (by omega) (by omega) ?_
        refine w_l2i dX12_goMonths_64 ?_
        refine w_ishl dX12_goMonths_65 ?_
        change fwWP _ _ _ _ [aI (mWon gg (mNx (mDr gg x c).1))] _ _
        refine w_istore [some (aR 12 0), some (aJ x), none, some (aI (m : Int)), some (aJ (mNx (mDr gg x c).1)), none, some (aI ((mDr gg x c).2.1)), some (aI (c : Int)), some (aI (mWon gg (mNx (mDr gg x c).1)))] dX12_goMonths_66 rfl (by decide) ?_
        refine w_aload_n dX12_goMonths_68 rfl ?_
        refine w_aload_n dX12_goMonths_69 rfl ?_
        refine w_aload_n dX12_goMonths_70 rfl ?_
        refine w_callV (d := d + 5) (S := [aR 12 0, aR 12 0]) [] dX12_goMonths_71 ml_X12_263 ok_X12_willingSet vi_X12_willingSet rfl rfl (by decide) rfl (Nat.le_of_ble_eq_true rfl) ?_
        refine c_X12_willingSet (d := d) (mDr gg x c).2.2 J R hA13 hbl (show 1 ≤ gg 4 0 1 by omega) ?_
        intro A71_4 hA71_4
        show fwWP mX12_goMonths (d + 6) 74 [some (aR 12 0), some (aJ x), none, some (aI (m : Int)), some (aJ (mNx (mDr gg x c).1)), none, some (aI ((mDr gg x c).2.1)), some (aI (c : Int)), some (aI (mWon gg (mNx (mDr gg x c).1)))] [aI (mGers (gg 4 0 1) (mDr gg x c).2.2 (gg 4 0 2) (gg 4 0 4) (gg 18 0) (gg 5 0 3).toNat (-1)), aR 12 0, aR 12 0] (fwUc (fwUc h 42 0 A13) 42 0 A71_4) Q
        rw [show (fwUc (fwUc h 42 0 A13) 42 0 A71_4) = (fwUc h 42 0 A71_4) from by funext a b; simp only [fwUc]; (repeat' split); all_goals first | rfl | (exfalso; omega)]
        have hwr4 := mGers_r (gg 4 0 1) (mDr gg x c).2.2 (gg 4 0 2) (gg 4 0 4) (gg 18 0) (m := (gg 5 0 3).toNat) (-1) (by omega)
        have hw8_5 := mGers_8 (gg 4 0 1) (mDr gg x c).2.2 (gg 4 0 2) (gg 4 0 4) (gg 18 0) (m := (gg 5 0 3).toNat) (-1) (by omega)
        refine w_iload dX12_goMonths_74 rfl ?_
        have ho8 := or_rg (x := mGers (gg 4 0 1) (mDr gg x c).2.2 (gg 4 0 2) (gg 4 0 4) (gg 18 0) (gg 5 0 3).toNat (-1)) (y := mWon gg (mNx (mDr gg x c).1)) (by omega) (by omega)
        refine w_ior dX12_goMonths_76 ?_
        refine w_iconst dX12_goMonths_77 ?_
        refine w_callV (d := d + 5) (S := [aR 12 0]) [aI (fwOr (mGers (gg 4 0 1) (mDr gg x c).2.2 (gg 4 0 2) (gg 4 0 4) (gg 18 0) (gg 5 0 3).toNat (-1)) (mWon gg (mNx (mDr gg x c).1))), aI 0] dX12_goMonths_78 ml_X12_270 ok_X12_signing vi_X12_signing rfl rfl (by decide) rfl (Nat.le_of_ble_eq_true rfl) ?_
        refine c_sgE (d := (d + 4)) (fwOr (mGers (gg 4 0 1) (mDr gg x c).2.2 (gg 4 0 2) (gg 4 0 4) (gg 18 0) (gg 5 0 3).toNat (-1)) (mWon gg (mNx (mDr gg x c).1))) 0 J R (by omega) (by omega) ?_
        show fwWP mX12_goMonths (d + 6) 81 [some (aR 12 0), some (aJ x), none, some (aI (m : Int)), some (aJ (mNx (mDr gg x c).1)), none, some (aI ((mDr gg x c).2.1)), some (aI (c : Int)), some (aI (mWon gg (mNx (mDr gg x c).1)))] [aI (mSign (gg 18 0) (gg 5 0 3).toNat (fwOr (mGers (gg 4 0 1) (mDr gg x c).2.2 (gg 4 0 2) (gg 4 0 4) (gg 18 0) (gg 5 0 3).toNat (-1)) (mWon gg (mNx (mDr gg x c).1))) 0), aR 12 0] (fwUc h 42 0 A71_4) Q
        refine w_callV (d := d + 5) (S := []) [aI (mSign (gg 18 0) (gg 5 0 3).toNat (fwOr (mGers (gg 4 0 1) (mDr gg x c).2.2 (gg 4 0 2) (gg 4 0 4) (gg 18 0) (gg 5 0 3).toNat (-1)) (mWon gg (mNx (mDr gg x c).1))) 0)] dX12_goMonths_81 ml_X12_273 ok_X12_isEnough vi_X12_isEnough rfl rfl (by decide) rfl (Nat.le_of_ble_eq_true rfl) ?_
        refine c_X12_isEnough (d := (d + 3)) (mSign (gg 18 0) (gg 5 0 3).toNat (fwOr (mGers (gg 4 0 1) (mDr gg x c).2.2 (gg 4 0 2) (gg 4 0 4) (gg 18 0) (gg 5 0 3).toNat (-1)) (mWon gg (mNx (mDr gg x c).1))) 0) J R ?_
        show fwWP mX12_goMonths (d + 6) 84 [some (aR 12 0), some (aJ x), none, some (aI (m : Int)), some (aJ (mNx (mDr gg x c).1)), none, some (aI ((mDr gg x c).2.1)), some (aI (c : Int)), some (aI (mWon gg (mNx (mDr gg x c).1)))] [aI (fwB (gg 3 0 4 ≤ mNames (gg 18 0) (mSign (gg 18 0) (gg 5 0 3).toNat (fwOr (mGers (gg 4 0 1) (mDr gg x c).2.2 (gg 4 0 2) (gg 4 0 4) (gg 18 0) (gg 5 0 3).toNat (-1)) (mWon gg (mNx (mDr gg x c).1))) 0) (gg 5 0 3).toNat))] (fwUc h 42 0 A71_4) Q
        refine w_ifB_eq 111 dX12_goMonths_84 (by decide) (fun c84 => ?_) (fun c84 => ?_)
        · refine w_iinc [some (aR 12 0), some (aJ x), none, some (aI (m : Int)), some (aJ (mNx (mDr gg x c).1)), none, some (aI ((mDr gg x c).2.1)), some (aI ((c : Int) + 1)), some (aI (mWon gg (mNx (mDr gg x c).1)))] dX12_goMonths_111 rfl rfl (by decide) ?_
          refine w_goto 13 dX12_goMonths_114 (by decide) ?_
          refine w_drop [8] [some (aR 12 0), some (aJ x), none, some (aI (m : Int)), some (aJ (mNx (mDr gg x c).1)), none, some (aI ((mDr gg x c).2.1)), some (aI ((c : Int) + 1)), none] rfl ?_
          refine ih13 (by omega) _ _ _ _ ?_ ?_ ?_ ?_
          · exact (by omega)
          · exact (by rw [mDr.eq_2, if_neg (show ¬ mDrOk gg (mNx (mDr gg x c).1) (mDr gg x c).2.2 = true from fun q0 => c84 (of_decide_eq_true q0).1)])
          · exact (by rw [mDr.eq_2, if_neg (show ¬ mDrOk gg (mNx (mDr gg x c).1) (mDr gg x c).2.2 = true from fun q0 => c84 (of_decide_eq_true q0).1)])
          · exact (by rw [mDr.eq_2, if_neg (show ¬ mDrOk gg (mNx (mDr gg x c).1) (mDr gg x c).2.2 = true from fun q0 => c84 (of_decide_eq_true q0).1)]; exact hA71_4)
        · refine w_aload_n dX12_goMonths_87 rfl ?_
          refine w_callV (d := d + 5) (S := []) [] dX12_goMonths_88 ml_X12_194 ok_X12_take0 vi_X12_take0 rfl rfl (by decide) rfl (Nat.le_of_ble_eq_true rfl) ?_
          refine c_X12_take0 (d := (d + 4)) (mDr gg x c).2.2 J R hA71_4 hbl (show 1 ≤ gg 4 0 1 by omega) ?_
          intro A88_7 hA88_7
          show fwWP mX12_goMonths (d + 6) 91 [some (aR 12 0), some (aJ x), none, some (aI (m : Int)), some (aJ (mNx (mDr gg x c).1)), none, some (aI ((mDr gg x c).2.1)), some (aI (c : Int)), some (aI (mWon gg (mNx (mDr gg x c).1)))] [aI (fwB (0 < (gg 4 0 1).toNat ∧ (mDr gg x c).2.2 (mTop (mDr gg x c).2.2 (gg 4 0 4) (gg 4 0 1).toNat).toNat ≠ 0))] (fwUc (fwUc h 42 0 A71_4) 42 0 A88_7) Q
          rw [show (fwUc (fwUc h 42 0 A71_4) 42 0 A88_7) = (fwUc h 42 0 A88_7) from by funext a b; simp only [fwUc]; (repeat' split); all_goals first | rfl | (exfalso; omega)]
          refine w_ifB_ne 97 dX12_goMonths_91 (by decide) (fun c91 => ?_) (fun c91 => ?_)
          · have h99 : ∀ c2 : Nat, (c2 : Int) < gg 4 0 1 → mLow (gg 4 0 1).toNat (mDr gg x c).2.2 (gg 4 0 4) c2 ≤ 99 := fun c2 hc2 => (mLow_rng (by omega) hb9 c2 (by omega)).2
            have hbl2 : hB (mLow (gg 4 0 1).toNat (mDr gg x c).2.2 (gg 4 0 4)) := mLow_rng (by omega) hbl
            refine w_iinc [some (aR 12 0), some (aJ x), none, some (aI (m : Int)), some (aJ (mNx (mDr gg x c).1)), none, some (aI (((mDr gg x c).2.1) + 1)), some (aI (c : Int)), some (aI (mWon gg (mNx (mDr gg x c).1)))] dX12_goMonths_97 rfl rfl (by decide) ?_
            refine w_aload_n dX12_goMonths_100 rfl ?_
            refine w_aload_n dX12_goMonths_101 rfl ?_
            refine w_getr 36 0 dX12_goMonths_102 fl_X12_9 rfl (by decide) ?_
            refine w_iconst dX12_goMonths_105 ?_
            refine w_ialdE (v := gg 3 0 5) dX12_goMonths_106 rfl (by decide) (by omega) (by omega) R.2.2.2.2.2.1 ?_
            refine w_callV (d := d + 5) (S := []) [aI (gg 3 0 5)] dX12_goMonths_107 ml_X12_197 ok_X12_heap0 vi_X12_heap0 rfl rfl (by decide) rfl (Nat.le_of_ble_eq_true rfl) ?_
            refine c_X12_heap0 (d := (d + 1)) (gg 3 0 5) (mLow (gg 4 0 1).toNat (mDr gg x c).2.2 (gg 4 0 4)) J R hA88_7 hbl2 h99 (show 1 ≤ gg 4 0 3 by omega) (show 0 ≤ (gg 3 0 5) ∧ (gg 3 0 5) < gg 4 0 1 by omega) ?_
            intro A107_9 hA107_9
            show fwWP mX12_goMonths (d + 6) 110 [some (aR 12 0), some (aJ x), none, some (aI (m : Int)), some (aJ (mNx (mDr gg x c).1)), none, some (aI (((mDr gg x c).2.1) + 1)), some (aI (c : Int)), some (aI (mWon gg (mNx (mDr gg x c).1)))] [aI (mStay (gg 4 0 1) (mLow (gg 4 0 1).toNat (mDr gg x c).2.2 (gg 4 0 4)) (gg 4 0 3) (gg 3 0 5))] (fwUc (fwUc h 42 0 A88_7) 42 0 A107_9) Q
            rw [show (fwUc (fwUc h 42 0 A88_7) 42 0 A107_9) = (fwUc h 42 0 A107_9) from by funext a b; simp only [fwUc]; (repeat' split); all_goals first | rfl | (exfalso; omega)]
            refine w_pop dX12_goMonths_110 rfl ?_
            refine w_iinc [some (aR 12 0), some (aJ x), none, some (aI (m : Int)), some (aJ (mNx (mDr gg x c).1)), none, some (aI (((mDr gg x c).2.1) + 1)), some (aI ((c : Int) + 1)), some (aI (mWon gg (mNx (mDr gg x c).1)))] dX12_goMonths_111 rfl rfl (by decide) ?_
            refine w_goto 13 dX12_goMonths_114 (by decide) ?_
            refine w_drop [8] [some (aR 12 0), some (aJ x), none, some (aI (m : Int)), some (aJ (mNx (mDr gg x c).1)), none, some (aI (((mDr gg x c).2.1) + 1)), some (aI ((c : Int) + 1)), none] rfl ?_
            refine ih13 (by omega) _ _ _ _ ?_ ?_ ?_ ?_
            · exact (by omega)
            · exact (by rw [mDr.eq_2, if_pos (show mDrOk gg (mNx (mDr gg x c).1) (mDr gg x c).2.2 = true from decide_eq_true ⟨c84, c91⟩)])
            · exact (by rw [mDr.eq_2, if_pos (show mDrOk gg (mNx (mDr gg x c).1) (mDr gg x c).2.2 = true from decide_eq_true ⟨c84, c91⟩)])
            · exact (by rw [mDr.eq_2, if_pos (show mDrOk gg (mNx (mDr gg x c).1) (mDr gg x c).2.2 = true from decide_eq_true ⟨c84, c91⟩)]; exact hA107_9)
          · refine w_goto 111 dX12_goMonths_94 (by decide) ?_
            refine w_iinc [some (aR 12 0), some (aJ x), none, some (aI (m : Int)), some (aJ (mNx (mDr gg x c).1)), none, some (aI ((mDr gg x c).2.1)), some (aI ((c : Int) + 1)), some (aI (mWon gg (mNx (mDr gg x c).1)))] dX12_goMonths_111 rfl rfl (by decide) ?_
            refine w_goto 13 dX12_goMonths_114 (by decide) ?_
            refine w_drop [8] [some (aR 12 0), some (aJ x), none, some (aI (m : Int)), some (aJ (mNx (mDr gg x c).1)), none, some (aI ((mDr gg x c).2.1)), some (aI ((c : Int) + 1)), none] rfl ?_
            refine ih13 (by omega) _ _ _ _ ?_ ?_ ?_ ?_
            · exact (by omega)
            · exact (by rw [mDr.eq_2, if_neg (show ¬ mDrOk gg (mNx (mDr gg x c).1) (mDr gg x c).2.2 = true from fun q0 => c91 (of_decide_eq_true q0).2)])
            · exact (by rw [mDr.eq_2, if_neg (show ¬ mDrOk gg (mNx (mDr gg x c).1) (mDr gg x c).2.2 = true from fun q0 => c91 (of_decide_eq_true q0).2)])
            · exact (by rw [mDr.eq_2, if_neg (show ¬ mDrOk gg (mNx (mDr gg x c).1) (mDr gg x c).2.2 = true from fun q0 => c91 (of_decide_eq_true q0).2)]; have z0 : hiR (gg 4 0 1) _ (mLow (gg 4 0 1).toNat (mDr gg x c).2.2 (gg 4 0 4)) := hA88_7; rw [show mLow (gg 4 0 1).toNat (mDr gg x c).2.2 (gg 4 0 4) = (mDr gg x c).2.2 from if_neg c91] at z0; exact z0)
  have z13 := lp13 0 (Nat.zero_le _) _ _ _ A1_1 (by exact (show 0 = ((0 : Nat) : Int) by omega)) (by exact (show x = (mDr gg x 0).1 from rfl)) (by exact (show 0 = (mDr gg x 0).2.1 from rfl)) hA1_1
  exact z13
end
section
theorem c_goM {d : Nat} {h gg : fwH} {Q : Option fwV → fwH → Prop} (x : Int) (m : Nat) (J : cOk gg) (R : jF gg h) (K : jA gg h) (ht : 0 < gg 3 0 6) (hm : m ≤ 100) (hx : 0 ≤ x ∧ x < 2147483648) (k : ∀ A, hiR (gg 4 0 1) A (mDrawn gg x m).2 → Q (some (aI (mDrawn gg x m).1)) (fwUc h 42 0 A)) : fwCt mX12_goMonths (d + 6) [aR 12 0, aJ x, aI (m : Int)] h Q := by
  have hz := J.2.1.1
  unfold mDrawn at k
  by_cases e : gg 5 0 3 < 1
  · rw [if_pos e] at k
    exact c_goM0 x m J R K ht (by omega) hm k
  · rw [if_neg e] at k
    exact c_goM1 x m J R K ht (by omega) hm hx k
theorem mDrawn_99 {h : fwH} (J : cOk h) (ht : 0 < h 3 0 6) (x0 : Int) (m : Nat) : hB (mDrawn h x0 m).2 := by
  unfold mDrawn
  split
  · exact fun c hc => by have := J.2.2.2.1 c hc; exact ⟨this.1, by show h 17 0 c ≤ 1000; omega⟩
  · exact fun c hc => by have := mDr_99 J ht x0 m c hc; omega
set_option maxRecDepth 100000 in
set_option maxHeartbeats 4000000 in
theorem c_X12_drawn {d : Nat} {h gg : fwH} {Q : Option fwV → fwH → Prop} (x : Int) (y : Int) (z : Int) (J : cOk gg) (R : jF gg h) (K : jA gg h) (hsh : sc h) (hx : -2147483648 ≤ x ∧ x < 2147483648) (hy : -2147483648 ≤ y ∧ y < 2147483648) (hz : -2147483648 ≤ z ∧ z < 2147483648) (k : ∀ g, scr h g → Q (some (aI (an_drawn gg x y z))) g) : fwCt mX12_drawn (d + 7) [aR 12 0, aI x, aI y, aI z] h Q := by
  refine fwCt_of [some (aR 12 0), some (aI x), some (aI y), some (aI z), none] rfl rfl rfl ?_
  obtain ⟨hl, hP, hG, hM0, htd, hut, hlw, hhc, ha, hs, hT, hsc⟩ := id J
  have hb17 : hB (gg 17 0) := fun c hc => by have := hM0 c hc; omega
  obtain ⟨⟨g1, g2⟩, ⟨g3, g4⟩, ⟨g5, g6⟩, g7, -⟩ := id hG
  have h17_99 : ∀ c : Nat, (c : Int) < gg 4 0 1 → gg 17 0 c ≤ 99 := fun c hc => (hM0 c (by omega)).2
  have hpz := hP.1
  have hrs1 := R.2.2.2.2.2.2.2.2.2.2.2
  refine w_aload_n dX12_drawn_0 rfl ?_
  refine w_iload_n dX12_drawn_1 rfl ?_
  refine w_iload_n dX12_drawn_2 rfl ?_
  refine w_callV (d := d + 6) (S := []) [aI x, aI y] dX12_drawn_3 ml_X12_400 ok_X12_areMonths vi_X12_areMonths rfl rfl (by decide) rfl (Nat.le_of_ble_eq_true rfl) ?_
  refine c_X12_areMonths (d := (d + 5)) x y J R (by omega) (by omega) ?_
  show fwWP mX12_drawn (d + 7) 6 [some (aR 12 0), some (aI x), some (aI y), some (aI z), none] [aI (fwB (0 < gg 3 0 6 ∧ (0 ≤ x ∧ x ≤ 2000000000) ∧ 0 ≤ y ∧ y ≤ 40))] h Q
  refine w_ifB_eq 21 dX12_drawn_6 (by decide) (fun c6 => ?_) (fun c6 => ?_)
  · refine w_bipush dX12_drawn_21 rfl ?_
    exact w_iretE dX12_drawn_23 rfl (by unfold an_drawn; first | (rw [if_neg (by omega)]; done) | (rw [if_pos (by omega), if_pos (by omega)]; rfl) | (rw [if_pos (by omega), if_neg (by omega), if_pos (by omega)]; show _ = mMax (mDrawn gg x u).2 _; rw [mMax_top (ls := gg 4 0 4) (gg 4 0 1).toNat (by omega) (fun c hc => (mDrawn_99 J (by omega) x u c (by omega)).1)]; done) | (rw [if_pos (by omega), if_neg (by omega), if_neg (by omega)]; rfl)) (k _ (scr_rf hsh))
  · refine w_iload_n dX12_drawn_9 rfl ?_
    refine w_i2l dX12_drawn_10 (by omega) ?_
    refine w_lconst (z := 0) dX12_drawn_11 rfl ?_
    refine w_ldc2 (n := 2) dX12_drawn_12 cs_X12_63 ?_
    refine w_callS (d := d + 6) (S := []) [aJ z, aJ 0, aJ 2] dX12_drawn_15 ml_X12_65 ok_X12_in st_X12_in rfl (Nat.le_of_ble_eq_true rfl) ?_
    refine c_X12_in (d := (d + 6)) z 0 2 (by omega) (by omega) (by omega) ?_
    show fwWP mX12_drawn (d + 7) 18 [some (aR 12 0), some (aI x), some (aI y), some (aI z), none] [aI (fwB (0 ≤ z ∧ z ≤ 2))] h Q
    refine w_ifB_ne 24 dX12_drawn_18 (by decide) (fun c18 => ?_) (fun c18 => ?_)
    · obtain ⟨u, rfl⟩ : ∃ u : Nat, y = (u : Int) := ⟨y.toNat, by omega⟩
      refine w_aload_n dX12_drawn_24 rfl ?_
      refine w_iload_n dX12_drawn_25 rfl ?_
      refine w_i2l dX12_drawn_26 (by omega) ?_
      refine w_iload_n dX12_drawn_27 rfl ?_
      refine w_callV (d := d + 6) (S := []) [aJ x, aI (u : Int)] dX12_drawn_28 ml_X12_403 ok_X12_goMonths vi_X12_goMonths rfl rfl (by decide) rfl (Nat.le_of_ble_eq_true rfl) ?_
      refine c_goM (d := d) x u J R K (show 0 < gg 3 0 6 by omega) (by omega) (by omega) ?_
      intro A28_3 hA28_3
      show fwWP mX12_drawn (d + 7) 31 [some (aR 12 0), some (aI x), some (aI (u : Int)), some (aI z), none] [aI ((mDrawn gg x u).1)] (fwUc h 42 0 A28_3) Q
      have hdr3 := mDrawn_rng gg x u
      refine w_istore [some (aR 12 0), some (aI x), some (aI (u : Int)), some (aI z), some (aI ((mDrawn gg x u).1))] dX12_drawn_31 rfl (by decide) ?_
      refine w_iload_n dX12_drawn_33 rfl ?_
      refine w_if_ne 42 dX12_drawn_34 (by decide) (by omega) (fun c34 => ?_) (fun c34 => ?_)
      · refine w_iload_n dX12_drawn_42 rfl ?_
        refine w_iconst dX12_drawn_43 ?_
        refine w_icmp_ne 59 dX12_drawn_44 (by decide) (by omega) (by omega) (fun c44 => ?_) (fun c44 => ?_)
        · refine w_aload_n dX12_drawn_59 rfl ?_
          refine w_callV (d := d + 6) (S := []) [] dX12_drawn_60 ml_X12_251 ok_X12_gainOfAll vi_X12_gainOfAll rfl rfl (by decide) rfl (Nat.le_of_ble_eq_true rfl) ?_
          refine c_X12_gainOfAll (d := (d + 1)) (mDrawn gg x u).2 J R hA28_3 (mDrawn_99 J (by omega) x u) (show 1 ≤ gg 4 0 1 by omega) ?_
          show fwWP mX12_drawn (d + 7) 63 [some (aR 12 0), some (aI x), some (aI (u : Int)), some (aI z), some (aI ((mDrawn gg x u).1))] [aI (mSum (mGain (gg 4 0 1) (mDrawn gg x u).2 (gg 4 0 2) (gg 18 0)) (gg 5 0 3).toNat)] (fwUc h 42 0 A28_3) Q
          have hga6 := mSum_r2 J (mDrawn_99 J (by omega) x u) (gg 5 0 3).toNat (by omega)
          exact w_iretE dX12_drawn_63 rfl (by unfold an_drawn; first | (rw [if_neg (by omega)]; done) | (rw [if_pos (by omega), if_pos (by omega)]; rfl) | (rw [if_pos (by omega), if_neg (by omega), if_pos (by omega)]; show _ = mMax (mDrawn gg x u).2 _; rw [mMax_top (ls := gg 4 0 4) (gg 4 0 1).toNat (by omega) (fun c hc => (mDrawn_99 J (by omega) x u c (by omega)).1)]; done) | (rw [if_pos (by omega), if_neg (by omega), if_neg (by omega)]; rfl)) (k _ (scr_uc (scr_rf hsh) rfl (by decide) (by decide) (by decide)))
        · refine w_aload_n dX12_drawn_47 rfl ?_
          refine w_getr 42 0 dX12_drawn_48 fl_X12_34 rfl (by decide) ?_
          refine w_aload_n dX12_drawn_51 rfl ?_
          refine w_callV (d := d + 6) (S := [aR 42 0]) [] dX12_drawn_52 ml_X12_200 ok_X12_topCell vi_X12_topCell rfl rfl (by decide) rfl (Nat.le_of_ble_eq_true rfl) ?_
          refine c_X12_topCell (d := (d + 6)) (mDrawn gg x u).2 J R hA28_3 (mDrawn_99 J (by omega) x u) (show 1 ≤ gg 4 0 1 by omega) ?_
          show fwWP mX12_drawn (d + 7) 55 [some (aR 12 0), some (aI x), some (aI (u : Int)), some (aI z), some (aI ((mDrawn gg x u).1))] [aI (mTop (mDrawn gg x u).2 (gg 4 0 4) (gg 4 0 1).toNat), aR 42 0] (fwUc h 42 0 A28_3) Q
          have htp7 := mTop_r2 (mDrawn gg x u).2 (gg 4 0 4) (gg 4 0 1).toNat (by omega)
          refine w_ialdE (v := (mDrawn gg x u).2 (mTop (mDrawn gg x u).2 (gg 4 0 4) (gg 4 0 1).toNat).toNat) dX12_drawn_55 rfl (by decide) (by omega) (by omega) (hA28_3 _ (by omega)) ?_
          refine w_goto 63 dX12_drawn_56 (by decide) ?_
          exact w_iretE dX12_drawn_63 rfl (by unfold an_drawn; first | (rw [if_neg (by omega)]; done) | (rw [if_pos (by omega), if_pos (by omega)]; rfl) | (rw [if_pos (by omega), if_neg (by omega), if_pos (by omega)]; show _ = mMax (mDrawn gg x u).2 _; rw [mMax_top (ls := gg 4 0 4) (gg 4 0 1).toNat (by omega) (fun c hc => (mDrawn_99 J (by omega) x u c (by omega)).1)]; done) | (rw [if_pos (by omega), if_neg (by omega), if_neg (by omega)]; rfl)) (k _ (scr_uc (scr_rf hsh) rfl (by decide) (by decide) (by decide)))
      · refine w_iload dX12_drawn_37 rfl ?_
        refine w_goto 63 dX12_drawn_39 (by decide) ?_
        exact w_iretE dX12_drawn_63 rfl (by unfold an_drawn; first | (rw [if_neg (by omega)]; done) | (rw [if_pos (by omega), if_pos (by omega)]; rfl) | (rw [if_pos (by omega), if_neg (by omega), if_pos (by omega)]; show _ = mMax (mDrawn gg x u).2 _; rw [mMax_top (ls := gg 4 0 4) (gg 4 0 1).toNat (by omega) (fun c hc => (mDrawn_99 J (by omega) x u c (by omega)).1)]; done) | (rw [if_pos (by omega), if_neg (by omega), if_neg (by omega)]; rfl)) (k _ (scr_uc (scr_rf hsh) rfl (by decide) (by decide) (by decide)))
    · refine w_bipush dX12_drawn_21 rfl ?_
      exact w_iretE dX12_drawn_23 rfl (by unfold an_drawn; first | (rw [if_neg (by omega)]; done) | (rw [if_pos (by omega), if_pos (by omega)]; rfl) | (rw [if_pos (by omega), if_neg (by omega), if_pos (by omega)]; show _ = mMax (mDrawn gg x u).2 _; rw [mMax_top (ls := gg 4 0 4) (gg 4 0 1).toNat (by omega) (fun c hc => (mDrawn_99 J (by omega) x u c (by omega)).1)]; done) | (rw [if_pos (by omega), if_neg (by omega), if_neg (by omega)]; rfl)) (k _ (scr_rf hsh))
set_option maxRecDepth 100000 in
set_option maxHeartbeats 4000000 in
theorem c_X12_luck {d : Nat} {h gg : fwH} {Q : Option fwV → fwH → Prop} (x : Int) (y : Int) (z : Int) (J : cOk gg) (R : jF gg h) (K : jA gg h) (hsh : sc h) (hx : -2147483648 ≤ x ∧ x < 2147483648) (hy : -2147483648 ≤ y ∧ y < 2147483648) (hz : -2147483648 ≤ z ∧ z < 2147483648) (k : ∀ g, scr h g → Q (some (aI (an_luck gg x y z))) g) : fwCt mX12_luck (d + 7) [aR 12 0, aI x, aI y, aI z] h Q := by
  refine fwCt_of [some (aR 12 0), some (aI x), some (aI y), some (aI z), none, none] rfl rfl rfl ?_
  obtain ⟨hl, hP, hG, hM0, htd, hut, hlw, hhc, ha, hs, hT, hsc⟩ := id J
  have hb17 : hB (gg 17 0) := fun c hc => by have := hM0 c hc; omega
  obtain ⟨⟨g1, g2⟩, ⟨g3, g4⟩, ⟨g5, g6⟩, g7, -⟩ := id hG
  have h17_99 : ∀ c : Nat, (c : Int) < gg 4 0 1 → gg 17 0 c ≤ 99 := fun c hc => (hM0 c (by omega)).2
  have hpz := hP.1
  have hrs1 := R.2.2.2.2.2.2.2.2.2.2.2
  refine w_aload_n dX12_luck_0 rfl ?_
  refine w_iload_n dX12_luck_1 rfl ?_
  refine w_iload_n dX12_luck_2 rfl ?_
  refine w_callV (d := d + 6) (S := []) [aI x, aI z] dX12_luck_3 ml_X12_400 ok_X12_areMonths vi_X12_areMonths rfl rfl (by decide) rfl (Nat.le_of_ble_eq_true rfl) ?_
  refine c_X12_areMonths (d := (d + 5)) x z J R (by omega) (by omega) ?_
  show fwWP mX12_luck (d + 7) 6 [some (aR 12 0), some (aI x), some (aI y), some (aI z), none, none] [aI (fwB (0 < gg 3 0 6 ∧ (0 ≤ x ∧ x ≤ 2000000000) ∧ 0 ≤ z ∧ z ≤ 40))] h Q
  refine w_ifB_eq 21 dX12_luck_6 (by decide) (fun c6 => ?_) (fun c6 => ?_)
  · refine w_bipush dX12_luck_21 rfl ?_
    exact w_iretE dX12_luck_23 rfl (by unfold an_luck; first | (rw [if_neg (by omega)]; done) | (rw [if_pos (by omega)]; rfl)) (k _ (scr_rf hsh))
  · refine w_iload_n dX12_luck_9 rfl ?_
    refine w_i2l dX12_luck_10 (by omega) ?_
    refine w_lconst (z := 1) dX12_luck_11 rfl ?_
    refine w_ldc2 (n := 20) dX12_luck_12 cs_X12_246 ?_
    refine w_callS (d := d + 6) (S := []) [aJ y, aJ 1, aJ 20] dX12_luck_15 ml_X12_65 ok_X12_in st_X12_in rfl (Nat.le_of_ble_eq_true rfl) ?_
    refine c_X12_in (d := (d + 6)) y 1 20 (by omega) (by omega) (by omega) ?_
    show fwWP mX12_luck (d + 7) 18 [some (aR 12 0), some (aI x), some (aI y), some (aI z), none, none] [aI (fwB (1 ≤ y ∧ y ≤ 20))] h Q
    refine w_ifB_ne 24 dX12_luck_18 (by decide) (fun c18 => ?_) (fun c18 => ?_)
    · obtain ⟨m, rfl⟩ : ∃ m : Nat, y = (m : Int) := ⟨y.toNat, by omega⟩
      obtain ⟨u, rfl⟩ : ∃ u : Nat, z = (u : Int) := ⟨z.toNat, by omega⟩
      refine w_iconst dX12_luck_24 ?_
      refine w_istore [some (aR 12 0), some (aI x), some (aI (m : Int)), some (aI (u : Int)), some (aI 0), none] dX12_luck_25 rfl (by decide) ?_
      refine w_iconst dX12_luck_27 ?_
      refine w_istore [some (aR 12 0), some (aI x), some (aI (m : Int)), some (aI (u : Int)), some (aI 0), some (aI 0)] dX12_luck_28 rfl (by decide) ?_
      have lp30 : ∀ c : Nat, c ≤ m → ∀ (y30 lv : Int) (A30 : Nat → Int), y30 = (c : Int) → lv = mLuck gg x u c → fwWP mX12_luck (d + 7) 30 [some (aR 12 0), some (aI x), some (aI (m : Int)), some (aI (u : Int)), some (aI lv), some (aI y30)] [] (fwUc h 42 0 A30) Q := by
        refine fw_up (fun c hc30 ih30 => ?_)
        intro y30 lv A30 ey30 e_lv
        subst ey30
        subst e_lv
        show fwWP mX12_luck (d + 7) 30 [some (aR 12 0), some (aI x), some (aI (m : Int)), some (aI (u : Int)), some (aI (mLuck gg x u c)), some (aI (c : Int))] [] (fwUc h 42 0 A30) Q
        refine w_iload dX12_luck_30 rfl ?_
        refine w_iload_n dX12_luck_32 rfl ?_
        refine w_icmp_ge 66 dX12_luck_33 (by decide) (by omega) (by omega) (fun c33 => ?_) (fun c33 => ?_)
        · have ec30 : m = c := by omega
          subst ec30
          refine w_iload dX12_luck_66 rfl ?_
          exact w_iretE dX12_luck_68 rfl (by unfold an_luck; first | (rw [if_neg (by omega)]; done) | (rw [if_pos (by omega)]; rfl)) (k _ (scr_uc (scr_rf hsh) rfl (by decide) (by decide) (by decide)))
        · have hlk := mLuck_rng gg x u c
          refine w_iload dX12_luck_36 rfl ?_
          refine w_aload_n dX12_luck_38 rfl ?_
          refine w_iload_n dX12_luck_39 rfl ?_
          refine w_i2l dX12_luck_40 (by omega) ?_
          refine w_iload dX12_luck_41 rfl ?_
          refine w_i2l dX12_luck_43 (by omega) ?_
          refine w_ladd dX12_luck_44 ?_
          refine w_iload_n dX12_luck_45 rfl ?_
          refine w_callV (d := d + 6) (S := [aI (mLuck gg x u c)]) [aJ (x + (c : Int)), aI (u : Int)] dX12_luck_46 ml_X12_403 ok_X12_goMonths vi_X12_goMonths rfl rfl (by decide) rfl (Nat.le_of_ble_eq_true rfl) ?_
          refine c_goM (d := d) (x + (c : Int)) u J R K (show 0 < gg 3 0 6 by omega) (by omega) (by omega) ?_
          intro A46_4 hA46_4
          show fwWP mX12_luck (d + 7) 49 [some (aR 12 0), some (aI x), some (aI (m : Int)), some (aI (u : Int)), some (aI (mLuck gg x u c)), some (aI (c : Int))] [aI ((mDrawn gg (x + (c : Int)) u).1), aI (mLuck gg x u c)] (fwUc (fwUc h 42 0 A30) 42 0 A46_4) Q
          rw [show (fwUc (fwUc h 42 0 A30) 42 0 A46_4) = (fwUc h 42 0 A46_4) from by funext a b; simp only [fwUc]; (repeat' split); all_goals first | rfl | (exfalso; omega)]
          have hdr4 := mDrawn_rng gg (x + (c : Int)) u
          refine w_if_le 56 dX12_luck_49 (by decide) (by omega) (fun c49 => ?_) (fun c49 => ?_)
          · refine w_iconst dX12_luck_56 ?_
            refine w_iadd dX12_luck_57 ?_
            refine w_istore [some (aR 12 0), some (aI x), some (aI (m : Int)), some (aI (u : Int)), some (aI ((mLuck gg x u c) + 0)), some (aI (c : Int))] dX12_luck_58 rfl (by decide) ?_
            refine w_iinc [some (aR 12 0), some (aI x), some (aI (m : Int)), some (aI (u : Int)), some (aI ((mLuck gg x u c) + 0)), some (aI ((c : Int) + 1))] dX12_luck_60 rfl rfl (by decide) ?_
            refine w_goto 30 dX12_luck_63 (by decide) ?_
            refine ih30 (by omega) _ _ _ ?_ ?_
            · exact (by omega)
            · exact (by rw [mLuck, if_neg (by omega)]; omega)
          · refine w_iconst dX12_luck_52 ?_
            refine w_goto 57 dX12_luck_53 (by decide) ?_
            refine w_iadd dX12_luck_57 ?_
            refine w_istore [some (aR 12 0), some (aI x), some (aI (m : Int)), some (aI (u : Int)), some (aI ((mLuck gg x u c) + 1)), some (aI (c : Int))] dX12_luck_58 rfl (by decide) ?_
            refine w_iinc [some (aR 12 0), some (aI x), some (aI (m : Int)), some (aI (u : Int)), some (aI ((mLuck gg x u c) + 1)), some (aI ((c : Int) + 1))] dX12_luck_60 rfl rfl (by decide) ?_
            refine w_goto 30 dX12_luck_63 (by decide) ?_
            refine ih30 (by omega) _ _ _ ?_ ?_
            · exact (by omega)
            · exact (by rw [mLuck, if_pos (by omega)])
      have z30 := lp30 0 (Nat.zero_le _) _ _ (h 42 0) (by exact (show 0 = ((0 : Nat) : Int) by omega)) (by exact (show 0 = mLuck gg x u 0 from rfl))
      rw [fwUc_self] at z30
      exact z30
    · refine w_bipush dX12_luck_21 rfl ?_
      exact w_iretE dX12_luck_23 rfl (by unfold an_luck; first | (rw [if_neg (by omega)]; done) | (rw [if_pos (by omega)]; rfl)) (k _ (scr_rf hsh))
end

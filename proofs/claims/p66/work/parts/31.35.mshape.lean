theorem c_sgE {d : Nat} {h gg : fwH} {Q : Option fwV → fwH → Prop} (x y : Int) (J : cOk gg) (R : jF gg h) (hx : 0 ≤ x ∧ x < 256) (hy : 0 ≤ y ∧ y < 256) (k : Q (some (aI (mSign (gg 18 0) (gg 5 0 3).toNat x y))) h) : fwCt mX12_signing (d + 1) [aR 12 0, aI x, aI y] h Q := by
  obtain ⟨a, rfl⟩ : ∃ a : Nat, x = a := ⟨x.toNat, by omega⟩
  obtain ⟨b, rfl⟩ : ∃ b : Nat, y = b := ⟨y.toNat, by omega⟩
  exact c_X12_signing a b J R (by omega) (by omega) k
theorem or_rg {x y : Int} (hx : 0 ≤ x ∧ x < 256) (hy : 0 ≤ y ∧ y < 256) : 0 ≤ fwOr x y ∧ fwOr x y < 256 := by
  obtain ⟨a, rfl⟩ : ∃ a : Nat, x = a := ⟨x.toNat, by omega⟩
  obtain ⟨b, rfl⟩ : ∃ b : Nat, y = b := ⟨y.toNat, by omega⟩
  rw [fwOr_nat (by omega) (by omega)]
  have := Nat.or_lt_two_pow (n := 8) (x := a) (y := b) (by omega) (by omega)
  omega
theorem mGers_8 (n : Int) (H : Nat → Int) (sl ls : Int) (F : Nat → Int) {m : Nat} (y : Int) (hn : m ≤ 8) : 0 ≤ mGers n H sl ls F m y ∧ mGers n H sl ls F m y < 256 := by
  unfold mGers
  split
  · omega
  · obtain ⟨a, e, ha⟩ := mBits_n (p := fun f => decide (mGain n H sl F f < mGain n (fwFu H (mTop H ls n.toNat).toNat (H (mTop H ls n.toNat).toNat + y)) sl F f)) m (by omega)
    have : 2 ^ m ≤ 2 ^ 8 := Nat.pow_le_pow_right (by omega) hn
    rw [e]
    omega
theorem shl_8 {x : Int} (hx : 0 ≤ x ∧ x ≤ 8) : 1 ≤ fwShl 1 x ∧ fwShl 1 x ≤ 256 := by
  obtain ⟨n, rfl⟩ : ∃ n : Nat, x = n := ⟨x.toNat, by omega⟩
  have key : ∀ n : Nat, n ≤ 8 → 1 ≤ fwShl 1 (n : Int) ∧ fwShl 1 (n : Int) ≤ 256 := by decide +kernel
  exact key n (by omega)
theorem shl_7 {n : Nat} (hn : n < 8) : 0 ≤ fwShl 1 (n : Int) ∧ fwShl 1 (n : Int) < 256 := by
  have key : ∀ n : Nat, n < 8 → 0 ≤ fwShl 1 (n : Int) ∧ fwShl 1 (n : Int) < 256 := by decide +kernel
  exact key n hn
theorem mFew_2 (E : Int → Bool) : ∀ s : Nat, ((mFew E s).1 = -1 ∧ (mFew E s).2 = 9) ∨ ((0 ≤ (mFew E s).1 ∧ (mFew E s).1 < s) ∧ (mFew E s).2 = fwPop (mFew E s).1) := by
  intro s
  induction s with
  | zero => exact Or.inl ⟨rfl, rfl⟩
  | succ s ih =>
    rw [mFew]
    split
    · exact Or.inr ⟨by dsimp only; omega, rfl⟩
    · rcases ih with e | e
      · exact Or.inl e
      · exact Or.inr ⟨by omega, e.2⟩
set_option maxRecDepth 100000 in
set_option maxHeartbeats 4000000 in
theorem c_X12_signers {d : Nat} {h gg : fwH} {Q : Option fwV → fwH → Prop} (x : Int) (J : cOk gg) (R : jF gg h) (K : jA gg h) (hsh : sc h) (hx : -2147483648 ≤ x ∧ x < 2147483648) (k : ∀ g, scr h g → Q (some (aI (an_signers gg x))) g) : fwCt mX12_signers (d + 6) [aR 12 0, aI x] h Q := by
  refine fwCt_of [some (aR 12 0), some (aI x)] rfl rfl rfl ?_
  obtain ⟨hl, hP, hG, hM0, htd, hut, hlw, hhc, ha, hs, hT, hsc⟩ := id J
  have hb17 : hB (gg 17 0) := fun c hc => by have := hM0 c hc; omega
  obtain ⟨⟨g1, g2⟩, ⟨g3, g4⟩, ⟨g5, g6⟩, g7, -⟩ := id hG
  have h17_99 : ∀ c : Nat, (c : Int) < gg 4 0 1 → gg 17 0 c ≤ 99 := fun c hc => (hM0 c (by omega)).2
  have hpz := hP.1
  have hrs1 := R.2.2.2.2.2.2.2.2.2.2.2
  refine w_aload_n dX12_signers_0 rfl ?_
  refine w_iload_n dX12_signers_1 rfl ?_
  refine w_callV (d := d + 5) (S := []) [aI x] dX12_signers_2 ml_X12_266 ok_X12_isSet vi_X12_isSet rfl rfl (by decide) rfl (Nat.le_of_ble_eq_true rfl) ?_
  refine c_X12_isSet (d := (d + 4)) x J R (by omega) ?_
  show fwWP mX12_signers (d + 6) 5 [some (aR 12 0), some (aI x)] [aI (fwB (0 < gg 3 0 6 ∧ 0 ≤ x ∧ x ≤ fwShl 1 (gg 5 0 3) - 1))] h Q
  refine w_ifB_ne 11 dX12_signers_5 (by decide) (fun c5 => ?_) (fun c5 => ?_)
  · refine w_aload_n dX12_signers_11 rfl ?_
    refine w_callV (d := d + 5) (S := []) [] dX12_signers_12 ml_X12_240 ok_X12_asItIs vi_X12_asItIs rfl rfl (by decide) rfl (Nat.le_of_ble_eq_true rfl) ?_
    refine c_X12_asItIs (d := d) J R K (show 1 ≤ gg 4 0 1 by omega) (show 1 ≤ gg 4 0 3 by omega) ?_
    intro A12_2 hA12_2
    show fwWP mX12_signers (d + 6) 15 [some (aR 12 0), some (aI x)] [] (fwUc h 42 0 A12_2) Q
    refine w_aload_n dX12_signers_15 rfl ?_
    refine w_aload_n dX12_signers_16 rfl ?_
    refine w_callV (d := d + 5) (S := [aR 12 0]) [] dX12_signers_17 ml_X12_263 ok_X12_willingSet vi_X12_willingSet rfl rfl (by decide) rfl (Nat.le_of_ble_eq_true rfl) ?_
    refine c_X12_willingSet (d := d) (gg 17 0) J R hA12_2 hb17 (show 1 ≤ gg 4 0 1 by omega) ?_
    intro A17_3 hA17_3
    show fwWP mX12_signers (d + 6) 20 [some (aR 12 0), some (aI x)] [aI (mGers (gg 4 0 1) (gg 17 0) (gg 4 0 2) (gg 4 0 4) (gg 18 0) (gg 5 0 3).toNat (-1)), aR 12 0] (fwUc (fwUc h 42 0 A12_2) 42 0 A17_3) Q
    rw [show (fwUc (fwUc h 42 0 A12_2) 42 0 A17_3) = (fwUc h 42 0 A17_3) from by funext a b; simp only [fwUc]; (repeat' split); all_goals first | rfl | (exfalso; omega)]
    have hwr3 := mGers_r (gg 4 0 1) (gg 17 0) (gg 4 0 2) (gg 4 0 4) (gg 18 0) (m := (gg 5 0 3).toNat) (-1) (by omega)
    have hw8_4 := mGers_8 (gg 4 0 1) (gg 17 0) (gg 4 0 2) (gg 4 0 4) (gg 18 0) (m := (gg 5 0 3).toNat) (-1) (by omega)
    change fwWP _ _ _ _ (aI (mWil gg 0) :: _) _ _
    have hw8 : 0 ≤ mWil gg 0 ∧ mWil gg 0 < 256 := hw8_4
    have hs8 := shl_8 (x := gg 5 0 3) (by omega)
    have ho8 := or_rg hw8 (y := x) (by omega)
    refine w_iload_n dX12_signers_20 rfl ?_
    refine w_ior dX12_signers_21 ?_
    refine w_iconst dX12_signers_22 ?_
    refine w_callV (d := d + 5) (S := []) [aI (fwOr (mWil gg 0) x), aI 0] dX12_signers_23 ml_X12_270 ok_X12_signing vi_X12_signing rfl rfl (by decide) rfl (Nat.le_of_ble_eq_true rfl) ?_
    refine c_sgE (d := (d + 4)) (fwOr (mWil gg 0) x) 0 J R (by omega) (by omega) ?_
    show fwWP mX12_signers (d + 6) 26 [some (aR 12 0), some (aI x)] [aI (mSign (gg 18 0) (gg 5 0 3).toNat (fwOr (mWil gg 0) x) 0)] (fwUc h 42 0 A17_3) Q
    exact w_iretE dX12_signers_26 rfl (by unfold an_signers; first | (rw [if_pos (by omega)]; done) | (rw [if_neg (by omega)]; done) | (rw [if_pos (by omega)]; rfl) | (rw [if_neg (by omega)]; rfl)) (k _ (scr_uc (scr_rf hsh) rfl (by decide) (by decide) (by decide)))
  · refine w_bipush dX12_signers_8 rfl ?_
    exact w_iretE dX12_signers_10 rfl (by unfold an_signers; first | (rw [if_pos (by omega)]; done) | (rw [if_neg (by omega)]; done) | (rw [if_pos (by omega)]; rfl) | (rw [if_neg (by omega)]; rfl)) (k _ (scr_rf hsh))
set_option maxRecDepth 100000 in
set_option maxHeartbeats 4000000 in
theorem c_X12_names {d : Nat} {h gg : fwH} {Q : Option fwV → fwH → Prop} (x : Int) (J : cOk gg) (R : jF gg h) (K : jA gg h) (hsh : sc h) (hx : -2147483648 ≤ x ∧ x < 2147483648) (k : ∀ g, scr h g → Q (some (aI (an_names gg x))) g) : fwCt mX12_names (d + 6) [aR 12 0, aI x] h Q := by
  refine fwCt_of [some (aR 12 0), some (aI x)] rfl rfl rfl ?_
  obtain ⟨hl, hP, hG, hM0, htd, hut, hlw, hhc, ha, hs, hT, hsc⟩ := id J
  have hb17 : hB (gg 17 0) := fun c hc => by have := hM0 c hc; omega
  obtain ⟨⟨g1, g2⟩, ⟨g3, g4⟩, ⟨g5, g6⟩, g7, -⟩ := id hG
  have h17_99 : ∀ c : Nat, (c : Int) < gg 4 0 1 → gg 17 0 c ≤ 99 := fun c hc => (hM0 c (by omega)).2
  have hpz := hP.1
  have hrs1 := R.2.2.2.2.2.2.2.2.2.2.2
  refine w_aload_n dX12_names_0 rfl ?_
  refine w_iload_n dX12_names_1 rfl ?_
  refine w_callV (d := d + 5) (S := []) [aI x] dX12_names_2 ml_X12_266 ok_X12_isSet vi_X12_isSet rfl rfl (by decide) rfl (Nat.le_of_ble_eq_true rfl) ?_
  refine c_X12_isSet (d := (d + 4)) x J R (by omega) ?_
  show fwWP mX12_names (d + 6) 5 [some (aR 12 0), some (aI x)] [aI (fwB (0 < gg 3 0 6 ∧ 0 ≤ x ∧ x ≤ fwShl 1 (gg 5 0 3) - 1))] h Q
  refine w_ifB_ne 11 dX12_names_5 (by decide) (fun c5 => ?_) (fun c5 => ?_)
  · refine w_aload_n dX12_names_11 rfl ?_
    refine w_callV (d := d + 5) (S := []) [] dX12_names_12 ml_X12_240 ok_X12_asItIs vi_X12_asItIs rfl rfl (by decide) rfl (Nat.le_of_ble_eq_true rfl) ?_
    refine c_X12_asItIs (d := d) J R K (show 1 ≤ gg 4 0 1 by omega) (show 1 ≤ gg 4 0 3 by omega) ?_
    intro A12_2 hA12_2
    show fwWP mX12_names (d + 6) 15 [some (aR 12 0), some (aI x)] [] (fwUc h 42 0 A12_2) Q
    refine w_aload_n dX12_names_15 rfl ?_
    refine w_aload_n dX12_names_16 rfl ?_
    refine w_aload_n dX12_names_17 rfl ?_
    refine w_callV (d := d + 5) (S := [aR 12 0, aR 12 0]) [] dX12_names_18 ml_X12_263 ok_X12_willingSet vi_X12_willingSet rfl rfl (by decide) rfl (Nat.le_of_ble_eq_true rfl) ?_
    refine c_X12_willingSet (d := d) (gg 17 0) J R hA12_2 hb17 (show 1 ≤ gg 4 0 1 by omega) ?_
    intro A18_3 hA18_3
    show fwWP mX12_names (d + 6) 21 [some (aR 12 0), some (aI x)] [aI (mGers (gg 4 0 1) (gg 17 0) (gg 4 0 2) (gg 4 0 4) (gg 18 0) (gg 5 0 3).toNat (-1)), aR 12 0, aR 12 0] (fwUc (fwUc h 42 0 A12_2) 42 0 A18_3) Q
    rw [show (fwUc (fwUc h 42 0 A12_2) 42 0 A18_3) = (fwUc h 42 0 A18_3) from by funext a b; simp only [fwUc]; (repeat' split); all_goals first | rfl | (exfalso; omega)]
    have hwr3 := mGers_r (gg 4 0 1) (gg 17 0) (gg 4 0 2) (gg 4 0 4) (gg 18 0) (m := (gg 5 0 3).toNat) (-1) (by omega)
    have hw8_4 := mGers_8 (gg 4 0 1) (gg 17 0) (gg 4 0 2) (gg 4 0 4) (gg 18 0) (m := (gg 5 0 3).toNat) (-1) (by omega)
    change fwWP _ _ _ _ (aI (mWil gg 0) :: _) _ _
    have hw8 : 0 ≤ mWil gg 0 ∧ mWil gg 0 < 256 := hw8_4
    have hs8 := shl_8 (x := gg 5 0 3) (by omega)
    have ho8 := or_rg hw8 (y := x) (by omega)
    refine w_iload_n dX12_names_21 rfl ?_
    refine w_ior dX12_names_22 ?_
    refine w_iconst dX12_names_23 ?_
    refine w_callV (d := d + 5) (S := [aR 12 0]) [aI (fwOr (mWil gg 0) x), aI 0] dX12_names_24 ml_X12_270 ok_X12_signing vi_X12_signing rfl rfl (by decide) rfl (Nat.le_of_ble_eq_true rfl) ?_
    refine c_sgE (d := (d + 4)) (fwOr (mWil gg 0) x) 0 J R (by omega) (by omega) ?_
    show fwWP mX12_names (d + 6) 27 [some (aR 12 0), some (aI x)] [aI (mSign (gg 18 0) (gg 5 0 3).toNat (fwOr (mWil gg 0) x) 0), aR 12 0] (fwUc h 42 0 A18_3) Q
    refine w_callV (d := d + 5) (S := []) [aI (mSign (gg 18 0) (gg 5 0 3).toNat (fwOr (mWil gg 0) x) 0)] dX12_names_27 ml_X12_260 ok_X12_namesOf vi_X12_namesOf rfl rfl (by decide) rfl (Nat.le_of_ble_eq_true rfl) ?_
    refine c_X12_namesOf (d := (d + 4)) (mSign (gg 18 0) (gg 5 0 3).toNat (fwOr (mWil gg 0) x) 0) J R ?_
    show fwWP mX12_names (d + 6) 30 [some (aR 12 0), some (aI x)] [aI (mNames (gg 18 0) (mSign (gg 18 0) (gg 5 0 3).toNat (fwOr (mWil gg 0) x) 0) (gg 5 0 3).toNat)] (fwUc h 42 0 A18_3) Q
    have hnr5 := mNames_r2 hP (mSign (gg 18 0) (gg 5 0 3).toNat (fwOr (mWil gg 0) x) 0)
    exact w_iretE dX12_names_30 rfl (by unfold an_names; first | (rw [if_pos (by omega)]; done) | (rw [if_neg (by omega)]; done) | (rw [if_pos (by omega)]; rfl) | (rw [if_neg (by omega)]; rfl)) (k _ (scr_uc (scr_rf hsh) rfl (by decide) (by decide) (by decide)))
  · refine w_bipush dX12_names_8 rfl ?_
    exact w_iretE dX12_names_10 rfl (by unfold an_names; first | (rw [if_pos (by omega)]; done) | (rw [if_neg (by omega)]; done) | (rw [if_pos (by omega)]; rfl) | (rw [if_neg (by omega)]; rfl)) (k _ (scr_rf hsh))
set_option maxRecDepth 100000 in
set_option maxHeartbeats 4000000 in
theorem c_X12_firstSet {d : Nat} {h gg : fwH} {Q : Option fwV → fwH → Prop}  (J : cOk gg) (R : jF gg h) (K : jA gg h) (ht : 0 < gg 3 0 6) (k : ∀ A, Q (some (aI ((mFew (mEnoB gg) (fwShl 1 (gg 5 0 3)).toNat).1))) (fwUc h 42 0 A)) : fwCt mX12_firstSet (d + 6) [aR 12 0] h Q := by
  refine fwCt_of [some (aR 12 0), none, none, none] rfl rfl rfl ?_
  obtain ⟨hl, hP, hG, hM0, htd, hut, hlw, hhc, ha, hs, hT, hsc⟩ := id J
  have hb17 : hB (gg 17 0) := fun c hc => by have := hM0 c hc; omega
  obtain ⟨⟨g1, g2⟩, ⟨g3, g4⟩, ⟨g5, g6⟩, g7, -⟩ := id hG
  have h17_99 : ∀ c : Nat, (c : Int) < gg 4 0 1 → gg 17 0 c ≤ 99 := fun c hc => (hM0 c (by omega)).2
  have hpz := hP.1
  have hrs1 := R.2.2.2.2.2.2.2.2.2.2.2
  refine w_aload_n dX12_firstSet_0 rfl ?_
  refine w_callV (d := d + 5) (S := []) [] dX12_firstSet_1 ml_X12_240 ok_X12_asItIs vi_X12_asItIs rfl rfl (by decide) rfl (Nat.le_of_ble_eq_true rfl) ?_
  refine c_X12_asItIs (d := d) J R K (show 1 ≤ gg 4 0 1 by omega) (show 1 ≤ gg 4 0 3 by omega) ?_
  intro A1_1 hA1_1
  show fwWP mX12_firstSet (d + 6) 4 [some (aR 12 0), none, none, none] [] (fwUc h 42 0 A1_1) Q
  refine w_aload_n dX12_firstSet_4 rfl ?_
  refine w_callV (d := d + 5) (S := []) [] dX12_firstSet_5 ml_X12_263 ok_X12_willingSet vi_X12_willingSet rfl rfl (by decide) rfl (Nat.le_of_ble_eq_true rfl) ?_
  refine c_X12_willingSet (d := d) (gg 17 0) J R hA1_1 hb17 (show 1 ≤ gg 4 0 1 by omega) ?_
  intro A5_2 hA5_2
  show fwWP mX12_firstSet (d + 6) 8 [some (aR 12 0), none, none, none] [aI (mGers (gg 4 0 1) (gg 17 0) (gg 4 0 2) (gg 4 0 4) (gg 18 0) (gg 5 0 3).toNat (-1))] (fwUc (fwUc h 42 0 A1_1) 42 0 A5_2) Q
  rw [show (fwUc (fwUc h 42 0 A1_1) 42 0 A5_2) = (fwUc h 42 0 A5_2) from by funext a b; simp only [fwUc]; (repeat' split); all_goals first | rfl | (exfalso; omega)]
  have hwr2 := mGers_r (gg 4 0 1) (gg 17 0) (gg 4 0 2) (gg 4 0 4) (gg 18 0) (m := (gg 5 0 3).toNat) (-1) (by omega)
  have hw8_3 := mGers_8 (gg 4 0 1) (gg 17 0) (gg 4 0 2) (gg 4 0 4) (gg 18 0) (m := (gg 5 0 3).toNat) (-1) (by omega)
  change fwWP _ _ _ _ (aI (mWil gg 0) :: _) _ _
  have hw8 : 0 ≤ mWil gg 0 ∧ mWil gg 0 < 256 := hw8_3
  have hs8 := shl_8 (x := gg 5 0 3) (by omega)
  refine w_istore_n [some (aR 12 0), some (aI (mWil gg 0)), none, none] dX12_firstSet_8 rfl (by decide) ?_
  refine w_iconst dX12_firstSet_9 ?_
  refine w_istore_n [some (aR 12 0), some (aI (mWil gg 0)), some (aI (-1)), none] dX12_firstSet_10 rfl (by decide) ?_
  refine w_iconst dX12_firstSet_11 ?_
  refine w_istore_n [some (aR 12 0), some (aI (mWil gg 0)), some (aI (-1)), some (aI 0)] dX12_firstSet_12 rfl (by decide) ?_
  have lp13 : ∀ c : Nat, c ≤ (fwShl 1 (gg 5 0 3)).toNat → ∀ (y13 be : Int), y13 = (c : Int) → be = (mFew (mEnoB gg) c).1 → fwWP mX12_firstSet (d + 6) 13 [some (aR 12 0), some (aI (mWil gg 0)), some (aI be), some (aI y13)] [] (fwUc h 42 0 A5_2) Q := by
    refine fw_up (fun c hc13 ih13 => ?_)
    intro y13 be ey13 e_be
    subst ey13
    subst e_be
    show fwWP mX12_firstSet (d + 6) 13 [some (aR 12 0), some (aI (mWil gg 0)), some (aI ((mFew (mEnoB gg) c).1)), some (aI (c : Int))] [] (fwUc h 42 0 A5_2) Q
    refine w_iload_n dX12_firstSet_13 rfl ?_
    refine w_aload_n dX12_firstSet_14 rfl ?_
    refine w_callV (d := d + 5) (S := [aI (c : Int)]) [] dX12_firstSet_15 ml_X12_77 ok_X12_all vi_X12_all rfl rfl (by decide) rfl (Nat.le_of_ble_eq_true rfl) ?_
    refine c_X12_all (d := (d + 5)) J R ?_
    show fwWP mX12_firstSet (d + 6) 18 [some (aR 12 0), some (aI (mWil gg 0)), some (aI ((mFew (mEnoB gg) c).1)), some (aI (c : Int))] [aI (fwShl 1 (gg 5 0 3) - 1), aI (c : Int)] (fwUc h 42 0 A5_2) Q
    have hsh4 := fwShl1_rng (x := gg 5 0 3) (by omega)
    refine w_icmp_gt 60 dX12_firstSet_18 (by decide) (by omega) (by omega) (fun c18 => ?_) (fun c18 => ?_)
    · have ec13 : (fwShl 1 (gg 5 0 3)).toNat = c := by omega
      subst ec13
      refine w_iload_n dX12_firstSet_60 rfl ?_
      exact w_iret dX12_firstSet_61 rfl (k _)
    · have hf2 := mFew_2 (mEnoB gg) c
      have ho8 := or_rg hw8 (y := (c : Int)) (by omega)
      have hp8 := (pop_8 c (by omega)).1
      refine w_iload_n dX12_firstSet_21 rfl ?_
      refine w_iconst dX12_firstSet_22 ?_
      refine w_icmp_eq 37 dX12_firstSet_23 (by decide) (by omega) (by omega) (fun c23 => ?_) (fun c23 => ?_)
      · refine w_aload_n dX12_firstSet_37 rfl ?_
        refine w_aload_n dX12_firstSet_38 rfl ?_
        refine w_iload_n dX12_firstSet_39 rfl ?_
        refine w_iload_n dX12_firstSet_40 rfl ?_
        refine w_ior dX12_firstSet_41 ?_
        refine w_iconst dX12_firstSet_42 ?_
        refine w_callV (d := d + 5) (S := [aR 12 0]) [aI (fwOr (mWil gg 0) (c : Int)), aI 0] dX12_firstSet_43 ml_X12_270 ok_X12_signing vi_X12_signing rfl rfl (by decide) rfl (Nat.le_of_ble_eq_true rfl) ?_
        refine c_sgE (d := (d + 4)) (fwOr (mWil gg 0) (c : Int)) 0 J R (by omega) (by omega) ?_
        show fwWP mX12_firstSet (d + 6) 46 [some (aR 12 0), some (aI (mWil gg 0)), some (aI ((mFew (mEnoB gg) c).1)), some (aI (c : Int))] [aI (mSign (gg 18 0) (gg 5 0 3).toNat (fwOr (mWil gg 0) (c : Int)) 0), aR 12 0] (fwUc h 42 0 A5_2) Q
        refine w_callV (d := d + 5) (S := []) [aI (mSign (gg 18 0) (gg 5 0 3).toNat (fwOr (mWil gg 0) (c : Int)) 0)] dX12_firstSet_46 ml_X12_273 ok_X12_isEnough vi_X12_isEnough rfl rfl (by decide) rfl (Nat.le_of_ble_eq_true rfl) ?_
        refine c_X12_isEnough (d := (d + 3)) (mSign (gg 18 0) (gg 5 0 3).toNat (fwOr (mWil gg 0) (c : Int)) 0) J R ?_
        show fwWP mX12_firstSet (d + 6) 49 [some (aR 12 0), some (aI (mWil gg 0)), some (aI ((mFew (mEnoB gg) c).1)), some (aI (c : Int))] [aI (fwB (gg 3 0 4 ≤ mNames (gg 18 0) (mSign (gg 18 0) (gg 5 0 3).toNat (fwOr (mWil gg 0) (c : Int)) 0) (gg 5 0 3).toNat))] (fwUc h 42 0 A5_2) Q
        refine w_ifB_eq 54 dX12_firstSet_49 (by decide) (fun c49 => ?_) (fun c49 => ?_)
        · refine w_iinc [some (aR 12 0), some (aI (mWil gg 0)), some (aI ((mFew (mEnoB gg) c).1)), some (aI ((c : Int) + 1))] dX12_firstSet_54 rfl rfl (by decide) ?_
          refine w_goto 13 dX12_firstSet_57 (by decide) ?_
          refine ih13 (by omega) _ _ ?_ ?_
          · exact (by omega)
          · exact (by rw [mFew, if_neg (fun z => c49 (of_decide_eq_true z.2))])
        · refine w_iload_n dX12_firstSet_52 rfl ?_
          refine w_istore_n [some (aR 12 0), some (aI (mWil gg 0)), some (aI (c : Int)), some (aI (c : Int))] dX12_firstSet_53 rfl (by decide) ?_
          refine w_iinc [some (aR 12 0), some (aI (mWil gg 0)), some (aI (c : Int)), some (aI ((c : Int) + 1))] dX12_firstSet_54 rfl rfl (by decide) ?_
          refine w_goto 13 dX12_firstSet_57 (by decide) ?_
          refine ih13 (by omega) _ _ ?_ ?_
          · exact (by omega)
          · exact (by rw [mFew, if_pos ⟨by omega, decide_eq_true c49⟩])
      · refine w_iload_n dX12_firstSet_26 rfl ?_
        refine w_callS (d := d + 5) (S := []) [aI (c : Int)] dX12_firstSet_27 ml_X12_229 ok_X12_bits st_X12_bits rfl (Nat.le_of_ble_eq_true rfl) ?_
        refine c_bitsP (d := (d + 5)) (c : Int) (by first | assumption | omega | decide) ?_
        show fwWP mX12_firstSet (d + 6) 30 [some (aR 12 0), some (aI (mWil gg 0)), some (aI ((mFew (mEnoB gg) c).1)), some (aI (c : Int))] [aI (fwPop (c : Int))] (fwUc h 42 0 A5_2) Q
        have hpp8 := fwPop_rng (c : Int)
        refine w_iload_n dX12_firstSet_30 rfl ?_
        refine w_callS (d := d + 5) (S := [aI (fwPop (c : Int))]) [aI ((mFew (mEnoB gg) c).1)] dX12_firstSet_31 ml_X12_229 ok_X12_bits st_X12_bits rfl (Nat.le_of_ble_eq_true rfl) ?_
        refine c_bitsP (d := (d + 5)) ((mFew (mEnoB gg) c).1) (by first | assumption | omega | decide) ?_
        show fwWP mX12_firstSet (d + 6) 34 [some (aR 12 0), some (aI (mWil gg 0)), some (aI ((mFew (mEnoB gg) c).1)), some (aI (c : Int))] [aI (fwPop ((mFew (mEnoB gg) c).1)), aI (fwPop (c : Int))] (fwUc h 42 0 A5_2) Q
        have hpp9 := fwPop_rng ((mFew (mEnoB gg) c).1)
        refine w_icmp_ge 54 dX12_firstSet_34 (by decide) (by omega) (by omega) (fun c34 => ?_) (fun c34 => ?_)
        · refine w_iinc [some (aR 12 0), some (aI (mWil gg 0)), some (aI ((mFew (mEnoB gg) c).1)), some (aI ((c : Int) + 1))] dX12_firstSet_54 rfl rfl (by decide) ?_
          refine w_goto 13 dX12_firstSet_57 (by decide) ?_
          refine ih13 (by omega) _ _ ?_ ?_
          · exact (by omega)
          · exact (by rw [mFew, if_neg (fun z => by have := z.1; omega)])
        · refine w_aload_n dX12_firstSet_37 rfl ?_
          refine w_aload_n dX12_firstSet_38 rfl ?_
          refine w_iload_n dX12_firstSet_39 rfl ?_
          refine w_iload_n dX12_firstSet_40 rfl ?_
          refine w_ior dX12_firstSet_41 ?_
          refine w_iconst dX12_firstSet_42 ?_
          refine w_callV (d := d + 5) (S := [aR 12 0]) [aI (fwOr (mWil gg 0) (c : Int)), aI 0] dX12_firstSet_43 ml_X12_270 ok_X12_signing vi_X12_signing rfl rfl (by decide) rfl (Nat.le_of_ble_eq_true rfl) ?_
          refine c_sgE (d := (d + 4)) (fwOr (mWil gg 0) (c : Int)) 0 J R (by omega) (by omega) ?_
          show fwWP mX12_firstSet (d + 6) 46 [some (aR 12 0), some (aI (mWil gg 0)), some (aI ((mFew (mEnoB gg) c).1)), some (aI (c : Int))] [aI (mSign (gg 18 0) (gg 5 0 3).toNat (fwOr (mWil gg 0) (c : Int)) 0), aR 12 0] (fwUc h 42 0 A5_2) Q
          refine w_callV (d := d + 5) (S := []) [aI (mSign (gg 18 0) (gg 5 0 3).toNat (fwOr (mWil gg 0) (c : Int)) 0)] dX12_firstSet_46 ml_X12_273 ok_X12_isEnough vi_X12_isEnough rfl rfl (by decide) rfl (Nat.le_of_ble_eq_true rfl) ?_
          refine c_X12_isEnough (d := (d + 3)) (mSign (gg 18 0) (gg 5 0 3).toNat (fwOr (mWil gg 0) (c : Int)) 0) J R ?_
          show fwWP mX12_firstSet (d + 6) 49 [some (aR 12 0), some (aI (mWil gg 0)), some (aI ((mFew (mEnoB gg) c).1)), some (aI (c : Int))] [aI (fwB (gg 3 0 4 ≤ mNames (gg 18 0) (mSign (gg 18 0) (gg 5 0 3).toNat (fwOr (mWil gg 0) (c : Int)) 0) (gg 5 0 3).toNat))] (fwUc h 42 0 A5_2) Q
          refine w_ifB_eq 54 dX12_firstSet_49 (by decide) (fun c49 => ?_) (fun c49 => ?_)
          · refine w_iinc [some (aR 12 0), some (aI (mWil gg 0)), some (aI ((mFew (mEnoB gg) c).1)), some (aI ((c : Int) + 1))] dX12_firstSet_54 rfl rfl (by decide) ?_
            refine w_goto 13 dX12_firstSet_57 (by decide) ?_
            refine ih13 (by omega) _ _ ?_ ?_
            · exact (by omega)
            · exact (by rw [mFew, if_neg (fun z => c49 (of_decide_eq_true z.2))])
          · refine w_iload_n dX12_firstSet_52 rfl ?_
            refine w_istore_n [some (aR 12 0), some (aI (mWil gg 0)), some (aI (c : Int)), some (aI (c : Int))] dX12_firstSet_53 rfl (by decide) ?_
            refine w_iinc [some (aR 12 0), some (aI (mWil gg 0)), some (aI (c : Int)), some (aI ((c : Int) + 1))] dX12_firstSet_54 rfl rfl (by decide) ?_
            refine w_goto 13 dX12_firstSet_57 (by decide) ?_
            refine ih13 (by omega) _ _ ?_ ?_
            · exact (by omega)
            · exact (by rw [mFew, if_pos ⟨by omega, decide_eq_true c49⟩])
  refine lp13 0 (Nat.zero_le _) _ _ ?_ ?_
  · exact (by omega)
  · exact rfl
set_option maxRecDepth 100000 in
set_option maxHeartbeats 4000000 in
theorem c_X12_firsts {d : Nat} {h gg : fwH} {Q : Option fwV → fwH → Prop}  (J : cOk gg) (R : jF gg h) (K : jA gg h) (hsh : sc h)  (k : ∀ g, scr h g → Q (some (aI (an_firsts gg ))) g) : fwCt mX12_firsts (d + 7) [aR 12 0] h Q := by
  refine fwCt_of [some (aR 12 0)] rfl rfl rfl ?_
  obtain ⟨hl, hP, hG, hM0, htd, hut, hlw, hhc, ha, hs, hT, hsc⟩ := id J
  have hb17 : hB (gg 17 0) := fun c hc => by have := hM0 c hc; omega
  obtain ⟨⟨g1, g2⟩, ⟨g3, g4⟩, ⟨g5, g6⟩, g7, -⟩ := id hG
  have h17_99 : ∀ c : Nat, (c : Int) < gg 4 0 1 → gg 17 0 c ≤ 99 := fun c hc => (hM0 c (by omega)).2
  have hpz := hP.1
  have hrs1 := R.2.2.2.2.2.2.2.2.2.2.2
  refine w_aload_n dX12_firsts_0 rfl ?_
  refine w_callV (d := d + 6) (S := []) [] dX12_firsts_1 ml_X12_73 ok_X12_isMount vi_X12_isMount rfl rfl (by decide) rfl (Nat.le_of_ble_eq_true rfl) ?_
  refine c_X12_isMount (d := (d + 6)) J R ?_
  show fwWP mX12_firsts (d + 7) 4 [some (aR 12 0)] [aI (fwB (0 < gg 3 0 6))] h Q
  refine w_ifB_eq 14 dX12_firsts_4 (by decide) (fun c4 => ?_) (fun c4 => ?_)
  · refine w_bipush dX12_firsts_14 rfl ?_
    exact w_iretE dX12_firsts_16 rfl (by unfold an_firsts; first | (rw [if_pos (by omega)]; done) | (rw [if_neg (by omega)]; done) | (rw [if_pos (by omega)]; rfl) | (rw [if_neg (by omega)]; rfl)) (k _ (scr_rf hsh))
  · refine w_aload_n dX12_firsts_7 rfl ?_
    refine w_callV (d := d + 6) (S := []) [] dX12_firsts_8 ml_X12_276 ok_X12_firstSet vi_X12_firstSet rfl rfl (by decide) rfl (Nat.le_of_ble_eq_true rfl) ?_
    refine c_X12_firstSet (d := d) J R K (by omega) ?_
    intro A8_2
    show fwWP mX12_firsts (d + 7) 11 [some (aR 12 0)] [aI ((mFew (mEnoB gg) (fwShl 1 (gg 5 0 3)).toNat).1)] (fwUc h 42 0 A8_2) Q
    have hf2 := mFew_2 (mEnoB gg) (fwShl 1 (gg 5 0 3)).toNat
    have hs8 := shl_8 (x := gg 5 0 3) (by omega)
    refine w_goto 16 dX12_firsts_11 (by decide) ?_
    exact w_iretE dX12_firsts_16 rfl (by unfold an_firsts; first | (rw [if_pos (by omega)]; done) | (rw [if_neg (by omega)]; done) | (rw [if_pos (by omega)]; rfl) | (rw [if_neg (by omega)]; rfl)) (k _ (scr_uc (scr_rf hsh) rfl (by decide) (by decide) (by decide)))
set_option maxRecDepth 100000 in
set_option maxHeartbeats 4000000 in
theorem c_X12_first {d : Nat} {h gg : fwH} {Q : Option fwV → fwH → Prop}  (J : cOk gg) (R : jF gg h) (K : jA gg h) (hsh : sc h)  (k : ∀ g, scr h g → Q (some (aI (an_first gg ))) g) : fwCt mX12_first (d + 7) [aR 12 0] h Q := by
  refine fwCt_of [some (aR 12 0), none] rfl rfl rfl ?_
  obtain ⟨hl, hP, hG, hM0, htd, hut, hlw, hhc, ha, hs, hT, hsc⟩ := id J
  have hb17 : hB (gg 17 0) := fun c hc => by have := hM0 c hc; omega
  obtain ⟨⟨g1, g2⟩, ⟨g3, g4⟩, ⟨g5, g6⟩, g7, -⟩ := id hG
  have h17_99 : ∀ c : Nat, (c : Int) < gg 4 0 1 → gg 17 0 c ≤ 99 := fun c hc => (hM0 c (by omega)).2
  have hpz := hP.1
  have hrs1 := R.2.2.2.2.2.2.2.2.2.2.2
  refine w_aload_n dX12_first_0 rfl ?_
  refine w_callV (d := d + 6) (S := []) [] dX12_first_1 ml_X12_73 ok_X12_isMount vi_X12_isMount rfl rfl (by decide) rfl (Nat.le_of_ble_eq_true rfl) ?_
  refine c_X12_isMount (d := (d + 6)) J R ?_
  show fwWP mX12_first (d + 7) 4 [some (aR 12 0), none] [aI (fwB (0 < gg 3 0 6))] h Q
  refine w_ifB_ne 10 dX12_first_4 (by decide) (fun c4 => ?_) (fun c4 => ?_)
  · refine w_aload_n dX12_first_10 rfl ?_
    refine w_callV (d := d + 6) (S := []) [] dX12_first_11 ml_X12_276 ok_X12_firstSet vi_X12_firstSet rfl rfl (by decide) rfl (Nat.le_of_ble_eq_true rfl) ?_
    refine c_X12_firstSet (d := d) J R K (by omega) ?_
    intro A11_2
    show fwWP mX12_first (d + 7) 14 [some (aR 12 0), none] [aI ((mFew (mEnoB gg) (fwShl 1 (gg 5 0 3)).toNat).1)] (fwUc h 42 0 A11_2) Q
    have hf2 := mFew_2 (mEnoB gg) (fwShl 1 (gg 5 0 3)).toNat
    have hs8 := shl_8 (x := gg 5 0 3) (by omega)
    refine w_istore_n [some (aR 12 0), some (aI ((mFew (mEnoB gg) (fwShl 1 (gg 5 0 3)).toNat).1))] dX12_first_14 rfl (by decide) ?_
    refine w_iload_n dX12_first_15 rfl ?_
    refine w_iconst dX12_first_16 ?_
    refine w_icmp_ne 24 dX12_first_17 (by decide) (by omega) (by omega) (fun c17 => ?_) (fun c17 => ?_)
    · refine w_iload_n dX12_first_24 rfl ?_
      refine w_callS (d := d + 6) (S := []) [aI ((mFew (mEnoB gg) (fwShl 1 (gg 5 0 3)).toNat).1)] dX12_first_25 ml_X12_229 ok_X12_bits st_X12_bits rfl (Nat.le_of_ble_eq_true rfl) ?_
      refine c_bitsP (d := (d + 6)) ((mFew (mEnoB gg) (fwShl 1 (gg 5 0 3)).toNat).1) (by first | assumption | omega | decide) ?_
      show fwWP mX12_first (d + 7) 28 [some (aR 12 0), some (aI ((mFew (mEnoB gg) (fwShl 1 (gg 5 0 3)).toNat).1))] [aI (fwPop ((mFew (mEnoB gg) (fwShl 1 (gg 5 0 3)).toNat).1))] (fwUc h 42 0 A11_2) Q
      have hpp4 := fwPop_rng ((mFew (mEnoB gg) (fwShl 1 (gg 5 0 3)).toNat).1)
      exact w_iretE dX12_first_28 rfl (by unfold an_first; first | (rw [if_neg (by omega)]; done) | (rw [if_pos (by omega), if_pos (by omega)]; done) | (rw [if_pos (by omega), if_neg (by omega)]; done)) (k _ (scr_uc (scr_rf hsh) rfl (by decide) (by decide) (by decide)))
    · refine w_iconst dX12_first_20 ?_
      refine w_goto 28 dX12_first_21 (by decide) ?_
      exact w_iretE dX12_first_28 rfl (by unfold an_first; first | (rw [if_neg (by omega)]; done) | (rw [if_pos (by omega), if_pos (by omega)]; done) | (rw [if_pos (by omega), if_neg (by omega)]; done)) (k _ (scr_uc (scr_rf hsh) rfl (by decide) (by decide) (by decide)))
  · refine w_bipush dX12_first_7 rfl ?_
    exact w_iretE dX12_first_9 rfl (by unfold an_first; first | (rw [if_neg (by omega)]; done) | (rw [if_pos (by omega), if_pos (by omega)]; done) | (rw [if_pos (by omega), if_neg (by omega)]; done)) (k _ (scr_rf hsh))
set_option maxRecDepth 100000 in
set_option maxHeartbeats 4000000 in
theorem c_X12_next {d : Nat} {h gg : fwH} {Q : Option fwV → fwH → Prop} (x : Int) (J : cOk gg) (R : jF gg h) (K : jA gg h) (hsh : sc h) (hx : -2147483648 ≤ x ∧ x < 2147483648) (k : ∀ g, scr h g → Q (some (aI (an_next gg x))) g) : fwCt mX12_next (d + 6) [aR 12 0, aI x] h Q := by
  refine fwCt_of [some (aR 12 0), some (aI x), none, none, none, none, none] rfl rfl rfl ?_
  obtain ⟨hl, hP, hG, hM0, htd, hut, hlw, hhc, ha, hs, hT, hsc⟩ := id J
  have hb17 : hB (gg 17 0) := fun c hc => by have := hM0 c hc; omega
  obtain ⟨⟨g1, g2⟩, ⟨g3, g4⟩, ⟨g5, g6⟩, g7, -⟩ := id hG
  have h17_99 : ∀ c : Nat, (c : Int) < gg 4 0 1 → gg 17 0 c ≤ 99 := fun c hc => (hM0 c (by omega)).2
  have hpz := hP.1
  have hrs1 := R.2.2.2.2.2.2.2.2.2.2.2
  refine w_aload_n dX12_next_0 rfl ?_
  refine w_iload_n dX12_next_1 rfl ?_
  refine w_callV (d := d + 5) (S := []) [aI x] dX12_next_2 ml_X12_266 ok_X12_isSet vi_X12_isSet rfl rfl (by decide) rfl (Nat.le_of_ble_eq_true rfl) ?_
  refine c_X12_isSet (d := (d + 4)) x J R (by omega) ?_
  show fwWP mX12_next (d + 6) 5 [some (aR 12 0), some (aI x), none, none, none, none, none] [aI (fwB (0 < gg 3 0 6 ∧ 0 ≤ x ∧ x ≤ fwShl 1 (gg 5 0 3) - 1))] h Q
  refine w_ifB_ne 11 dX12_next_5 (by decide) (fun c5 => ?_) (fun c5 => ?_)
  · refine w_aload_n dX12_next_11 rfl ?_
    refine w_callV (d := d + 5) (S := []) [] dX12_next_12 ml_X12_240 ok_X12_asItIs vi_X12_asItIs rfl rfl (by decide) rfl (Nat.le_of_ble_eq_true rfl) ?_
    refine c_X12_asItIs (d := d) J R K (show 1 ≤ gg 4 0 1 by omega) (show 1 ≤ gg 4 0 3 by omega) ?_
    intro A12_2 hA12_2
    show fwWP mX12_next (d + 6) 15 [some (aR 12 0), some (aI x), none, none, none, none, none] [] (fwUc h 42 0 A12_2) Q
    refine w_aload_n dX12_next_15 rfl ?_
    refine w_callV (d := d + 5) (S := []) [] dX12_next_16 ml_X12_263 ok_X12_willingSet vi_X12_willingSet rfl rfl (by decide) rfl (Nat.le_of_ble_eq_true rfl) ?_
    refine c_X12_willingSet (d := d) (gg 17 0) J R hA12_2 hb17 (show 1 ≤ gg 4 0 1 by omega) ?_
    intro A16_3 hA16_3
    show fwWP mX12_next (d + 6) 19 [some (aR 12 0), some (aI x), none, none, none, none, none] [aI (mGers (gg 4 0 1) (gg 17 0) (gg 4 0 2) (gg 4 0 4) (gg 18 0) (gg 5 0 3).toNat (-1))] (fwUc (fwUc h 42 0 A12_2) 42 0 A16_3) Q
    rw [show (fwUc (fwUc h 42 0 A12_2) 42 0 A16_3) = (fwUc h 42 0 A16_3) from by funext a b; simp only [fwUc]; (repeat' split); all_goals first | rfl | (exfalso; omega)]
    have hwr3 := mGers_r (gg 4 0 1) (gg 17 0) (gg 4 0 2) (gg 4 0 4) (gg 18 0) (m := (gg 5 0 3).toNat) (-1) (by omega)
    have hw8_4 := mGers_8 (gg 4 0 1) (gg 17 0) (gg 4 0 2) (gg 4 0 4) (gg 18 0) (m := (gg 5 0 3).toNat) (-1) (by omega)
    change fwWP _ _ _ _ (aI (mWil gg 0) :: _) _ _
    have hw8 : 0 ≤ mWil gg 0 ∧ mWil gg 0 < 256 := hw8_4
    have hs8 := shl_8 (x := gg 5 0 3) (by omega)
    have ho8 := or_rg hw8 (y := x) (by omega)
    refine w_iload_n dX12_next_19 rfl ?_
    refine w_ior dX12_next_20 ?_
    refine w_istore_n [some (aR 12 0), some (aI x), some (aI (fwOr (mWil gg 0) x)), none, none, none, none] dX12_next_21 rfl (by decide) ?_
    refine w_aload_n dX12_next_22 rfl ?_
    refine w_aload_n dX12_next_23 rfl ?_
    refine w_iload_n dX12_next_24 rfl ?_
    refine w_iconst dX12_next_25 ?_
    refine w_callV (d := d + 5) (S := [aR 12 0]) [aI (fwOr (mWil gg 0) x), aI 0] dX12_next_26 ml_X12_270 ok_X12_signing vi_X12_signing rfl rfl (by decide) rfl (Nat.le_of_ble_eq_true rfl) ?_
    refine c_sgE (d := (d + 4)) (fwOr (mWil gg 0) x) 0 J R (by omega) (by omega) ?_
    show fwWP mX12_next (d + 6) 29 [some (aR 12 0), some (aI x), some (aI (fwOr (mWil gg 0) x)), none, none, none, none] [aI (mSign (gg 18 0) (gg 5 0 3).toNat (fwOr (mWil gg 0) x) 0), aR 12 0] (fwUc h 42 0 A16_3) Q
    refine w_callV (d := d + 5) (S := []) [aI (mSign (gg 18 0) (gg 5 0 3).toNat (fwOr (mWil gg 0) x) 0)] dX12_next_29 ml_X12_260 ok_X12_namesOf vi_X12_namesOf rfl rfl (by decide) rfl (Nat.le_of_ble_eq_true rfl) ?_
    refine c_X12_namesOf (d := (d + 4)) (mSign (gg 18 0) (gg 5 0 3).toNat (fwOr (mWil gg 0) x) 0) J R ?_
    show fwWP mX12_next (d + 6) 32 [some (aR 12 0), some (aI x), some (aI (fwOr (mWil gg 0) x)), none, none, none, none] [aI (mNames (gg 18 0) (mSign (gg 18 0) (gg 5 0 3).toNat (fwOr (mWil gg 0) x) 0) (gg 5 0 3).toNat)] (fwUc h 42 0 A16_3) Q
    have hnr5 := mNames_r2 hP (mSign (gg 18 0) (gg 5 0 3).toNat (fwOr (mWil gg 0) x) 0)
    refine w_istore_n [some (aR 12 0), some (aI x), some (aI (fwOr (mWil gg 0) x)), some (aI (mNames (gg 18 0) (mSign (gg 18 0) (gg 5 0 3).toNat (fwOr (mWil gg 0) x) 0) (gg 5 0 3).toNat)), none, none, none] dX12_next_32 rfl (by decide) ?_
    refine w_iconst dX12_next_33 ?_
    refine w_istore [some (aR 12 0), some (aI x), some (aI (fwOr (mWil gg 0) x)), some (aI (mNames (gg 18 0) (mSign (gg 18 0) (gg 5 0 3).toNat (fwOr (mWil gg 0) x) 0) (gg 5 0 3).toNat)), some (aI (-1)), none, none] dX12_next_34 rfl (by decide) ?_
    refine w_iconst dX12_next_36 ?_
    refine w_istore [some (aR 12 0), some (aI x), some (aI (fwOr (mWil gg 0) x)), some (aI (mNames (gg 18 0) (mSign (gg 18 0) (gg 5 0 3).toNat (fwOr (mWil gg 0) x) 0) (gg 5 0 3).toNat)), some (aI (-1)), some (aI 0), none] dX12_next_37 rfl (by decide) ?_
    have lp39 : ∀ c : Nat, c ≤ (gg 5 0 3).toNat → ∀ (y39 mo be : Int), y39 = (c : Int) → mo = (mBes gg x c).2 → be = (mBes gg x c).1 → fwWP mX12_next (d + 6) 39 [some (aR 12 0), some (aI x), some (aI (fwOr (mWil gg 0) x)), some (aI mo), some (aI be), some (aI y39), none] [] (fwUc h 42 0 A16_3) Q := by
      refine fw_up (fun c hc39 ih39 => ?_)
      intro y39 mo be ey39 e_mo e_be
      subst ey39
      subst e_mo
      subst e_be
      show fwWP mX12_next (d + 6) 39 [some (aR 12 0), some (aI x), some (aI (fwOr (mWil gg 0) x)), some (aI ((mBes gg x c).2)), some (aI ((mBes gg x c).1)), some (aI (c : Int)), none] [] (fwUc h 42 0 A16_3) Q
      refine w_iload dX12_next_39 rfl ?_
      refine w_aload_n dX12_next_41 rfl ?_
      refine w_getr 36 0 dX12_next_42 fl_X12_9 rfl (by decide) ?_
      refine w_bipush dX12_next_45 rfl ?_
      refine w_ialdE (v := gg 5 0 3) dX12_next_47 rfl (by decide) (by omega) (by omega) R.2.2.2.2.2.2.1 ?_
      refine w_icmp_ge 90 dX12_next_48 (by decide) (by omega) (by omega) (fun c48 => ?_) (fun c48 => ?_)
      · have ec39 : (gg 5 0 3).toNat = c := by omega
        subst ec39
        refine w_iload dX12_next_90 rfl ?_
        exact w_iretE dX12_next_92 rfl (by unfold an_next; first | (rw [if_pos (by omega)]; done) | (rw [if_neg (by omega)]; done) | (rw [if_pos (by omega)]; rfl) | (rw [if_neg (by omega)]; rfl)) (k _ (scr_uc (scr_rf hsh) rfl (by decide) (by decide) (by decide)))
      · have hsf := shl_7 (n := c) (by omega)
        have ho9 := or_rg ho8 hsf
        have hbr := mBes_rng hP x c
        refine w_aload_n dX12_next_51 rfl ?_
        refine w_aload_n dX12_next_52 rfl ?_
        refine w_iload_n dX12_next_53 rfl ?_
        refine w_iconst dX12_next_54 ?_
        refine w_iload dX12_next_55 rfl ?_
        refine w_ishl dX12_next_57 ?_
        refine w_ior dX12_next_58 ?_
        refine w_iconst dX12_next_59 ?_
        refine w_callV (d := d + 5) (S := [aR 12 0]) [aI (fwOr (fwOr (mWil gg 0) x) (fwShl 1 (c : Int))), aI 0] dX12_next_60 ml_X12_270 ok_X12_signing vi_X12_signing rfl rfl (by decide) rfl (Nat.le_of_ble_eq_true rfl) ?_
        refine c_sgE (d := (d + 4)) (fwOr (fwOr (mWil gg 0) x) (fwShl 1 (c : Int))) 0 J R (by omega) (by omega) ?_
        show fwWP mX12_next (d + 6) 63 [some (aR 12 0), some (aI x), some (aI (fwOr (mWil gg 0) x)), some (aI ((mBes gg x c).2)), some (aI ((mBes gg x c).1)), some (aI (c : Int)), none] [aI (mSign (gg 18 0) (gg 5 0 3).toNat (fwOr (fwOr (mWil gg 0) x) (fwShl 1 (c : Int))) 0), aR 12 0] (fwUc h 42 0 A16_3) Q
        refine w_callV (d := d + 5) (S := []) [aI (mSign (gg 18 0) (gg 5 0 3).toNat (fwOr (fwOr (mWil gg 0) x) (fwShl 1 (c : Int))) 0)] dX12_next_63 ml_X12_260 ok_X12_namesOf vi_X12_namesOf rfl rfl (by decide) rfl (Nat.le_of_ble_eq_true rfl) ?_
        refine c_X12_namesOf (d := (d + 4)) (mSign (gg 18 0) (gg 5 0 3).toNat (fwOr (fwOr (mWil gg 0) x) (fwShl 1 (c : Int))) 0) J R ?_
        show fwWP mX12_next (d + 6) 66 [some (aR 12 0), some (aI x), some (aI (fwOr (mWil gg 0) x)), some (aI ((mBes gg x c).2)), some (aI ((mBes gg x c).1)), some (aI (c : Int)), none] [aI (mNames (gg 18 0) (mSign (gg 18 0) (gg 5 0 3).toNat (fwOr (fwOr (mWil gg 0) x) (fwShl 1 (c : Int))) 0) (gg 5 0 3).toNat)] (fwUc h 42 0 A16_3) Q
        have hnr7 := mNames_r2 hP (mSign (gg 18 0) (gg 5 0 3).toNat (fwOr (fwOr (mWil gg 0) x) (fwShl 1 (c : Int))) 0)
        refine w_istore [some (aR 12 0), some (aI x), some (aI (fwOr (mWil gg 0) x)), some (aI ((mBes gg x c).2)), some (aI ((mBes gg x c).1)), some (aI (c : Int)), some (aI (mNames (gg 18 0) (mSign (gg 18 0) (gg 5 0 3).toNat (fwOr (fwOr (mWil gg 0) x) (fwShl 1 (c : Int))) 0) (gg 5 0 3).toNat))] dX12_next_66 rfl (by decide) ?_
        refine w_iload dX12_next_68 rfl ?_
        refine w_iload_n dX12_next_70 rfl ?_
        refine w_icmp_gt 77 dX12_next_71 (by decide) (by omega) (by omega) (fun c71 => ?_) (fun c71 => ?_)
        · refine w_iload dX12_next_77 rfl ?_
          refine w_istore_n [some (aR 12 0), some (aI x), some (aI (fwOr (mWil gg 0) x)), some (aI (mNames (gg 18 0) (mSign (gg 18 0) (gg 5 0 3).toNat (fwOr (fwOr (mWil gg 0) x) (fwShl 1 (c : Int))) 0) (gg 5 0 3).toNat)), some (aI ((mBes gg x c).1)), some (aI (c : Int)), some (aI (mNames (gg 18 0) (mSign (gg 18 0) (gg 5 0 3).toNat (fwOr (fwOr (mWil gg 0) x) (fwShl 1 (c : Int))) 0) (gg 5 0 3).toNat))] dX12_next_79 rfl (by decide) ?_
          refine w_iload dX12_next_80 rfl ?_
          refine w_istore [some (aR 12 0), some (aI x), some (aI (fwOr (mWil gg 0) x)), some (aI (mNames (gg 18 0) (mSign (gg 18 0) (gg 5 0 3).toNat (fwOr (fwOr (mWil gg 0) x) (fwShl 1 (c : Int))) 0) (gg 5 0 3).toNat)), some (aI (c : Int)), some (aI (c : Int)), some (aI (mNames (gg 18 0) (mSign (gg 18 0) (gg 5 0 3).toNat (fwOr (fwOr (mWil gg 0) x) (fwShl 1 (c : Int))) 0) (gg 5 0 3).toNat))] dX12_next_82 rfl (by decide) ?_
          refine w_iinc [some (aR 12 0), some (aI x), some (aI (fwOr (mWil gg 0) x)), some (aI (mNames (gg 18 0) (mSign (gg 18 0) (gg 5 0 3).toNat (fwOr (fwOr (mWil gg 0) x) (fwShl 1 (c : Int))) 0) (gg 5 0 3).toNat)), some (aI (c : Int)), some (aI ((c : Int) + 1)), some (aI (mNames (gg 18 0) (mSign (gg 18 0) (gg 5 0 3).toNat (fwOr (fwOr (mWil gg 0) x) (fwShl 1 (c : Int))) 0) (gg 5 0 3).toNat))] dX12_next_84 rfl rfl (by decide) ?_
          refine w_goto 39 dX12_next_87 (by decide) ?_
          refine w_drop [6] [some (aR 12 0), some (aI x), some (aI (fwOr (mWil gg 0) x)), some (aI (mNames (gg 18 0) (mSign (gg 18 0) (gg 5 0 3).toNat (fwOr (fwOr (mWil gg 0) x) (fwShl 1 (c : Int))) 0) (gg 5 0 3).toNat)), some (aI (c : Int)), some (aI ((c : Int) + 1)), none] rfl ?_
          refine ih39 (by omega) _ _ _ ?_ ?_ ?_
          · exact (by omega)
          · exact (by rw [mBes.eq_2, if_pos (show _ < mBesN gg x c by unfold mBesN; omega)]; try rfl)
          · exact (by rw [mBes.eq_2, if_pos (show _ < mBesN gg x c by unfold mBesN; omega)]; try rfl)
        · refine w_goto 84 dX12_next_74 (by decide) ?_
          refine w_iinc [some (aR 12 0), some (aI x), some (aI (fwOr (mWil gg 0) x)), some (aI ((mBes gg x c).2)), some (aI ((mBes gg x c).1)), some (aI ((c : Int) + 1)), some (aI (mNames (gg 18 0) (mSign (gg 18 0) (gg 5 0 3).toNat (fwOr (fwOr (mWil gg 0) x) (fwShl 1 (c : Int))) 0) (gg 5 0 3).toNat))] dX12_next_84 rfl rfl (by decide) ?_
          refine w_goto 39 dX12_next_87 (by decide) ?_
          refine w_drop [6] [some (aR 12 0), some (aI x), some (aI (fwOr (mWil gg 0) x)), some (aI ((mBes gg x c).2)), some (aI ((mBes gg x c).1)), some (aI ((c : Int) + 1)), none] rfl ?_
          refine ih39 (by omega) _ _ _ ?_ ?_ ?_
          · exact (by omega)
          · exact (by rw [mBes.eq_2, if_neg (show ¬ _ < mBesN gg x c by unfold mBesN; omega)])
          · exact (by rw [mBes.eq_2, if_neg (show ¬ _ < mBesN gg x c by unfold mBesN; omega)])
    refine lp39 0 (Nat.zero_le _) _ _ _ ?_ ?_ ?_
    · exact (by omega)
    · exact rfl
    · exact rfl
  · refine w_bipush dX12_next_8 rfl ?_
    exact w_iretE dX12_next_10 rfl (by unfold an_next; first | (rw [if_pos (by omega)]; done) | (rw [if_neg (by omega)]; done) | (rw [if_pos (by omega)]; rfl) | (rw [if_neg (by omega)]; rfl)) (k _ (scr_rf hsh))
set_option maxRecDepth 100000 in
set_option maxHeartbeats 4000000 in
theorem c_X12_needed {d : Nat} {h gg : fwH} {Q : Option fwV → fwH → Prop}  (J : cOk gg) (R : jF gg h) (K : jA gg h) (hsh : sc h)  (k : ∀ g, scr h g → Q (some (aI (an_needed gg ))) g) : fwCt mX12_needed (d + 6) [aR 12 0] h Q := by
  refine fwCt_of [some (aR 12 0), none, none, none] rfl rfl rfl ?_
  obtain ⟨hl, hP, hG, hM0, htd, hut, hlw, hhc, ha, hs, hT, hsc⟩ := id J
  have hb17 : hB (gg 17 0) := fun c hc => by have := hM0 c hc; omega
  obtain ⟨⟨g1, g2⟩, ⟨g3, g4⟩, ⟨g5, g6⟩, g7, -⟩ := id hG
  have h17_99 : ∀ c : Nat, (c : Int) < gg 4 0 1 → gg 17 0 c ≤ 99 := fun c hc => (hM0 c (by omega)).2
  have hpz := hP.1
  have hrs1 := R.2.2.2.2.2.2.2.2.2.2.2
  refine w_aload_n dX12_needed_0 rfl ?_
  refine w_callV (d := d + 5) (S := []) [] dX12_needed_1 ml_X12_73 ok_X12_isMount vi_X12_isMount rfl rfl (by decide) rfl (Nat.le_of_ble_eq_true rfl) ?_
  refine c_X12_isMount (d := (d + 5)) J R ?_
  show fwWP mX12_needed (d + 6) 4 [some (aR 12 0), none, none, none] [aI (fwB (0 < gg 3 0 6))] h Q
  refine w_ifB_ne 10 dX12_needed_4 (by decide) (fun c4 => ?_) (fun c4 => ?_)
  · refine w_aload_n dX12_needed_10 rfl ?_
    refine w_callV (d := d + 5) (S := []) [] dX12_needed_11 ml_X12_240 ok_X12_asItIs vi_X12_asItIs rfl rfl (by decide) rfl (Nat.le_of_ble_eq_true rfl) ?_
    refine c_X12_asItIs (d := d) J R K (show 1 ≤ gg 4 0 1 by omega) (show 1 ≤ gg 4 0 3 by omega) ?_
    intro A11_2 hA11_2
    show fwWP mX12_needed (d + 6) 14 [some (aR 12 0), none, none, none] [] (fwUc h 42 0 A11_2) Q
    refine w_aload_n dX12_needed_14 rfl ?_
    refine w_callV (d := d + 5) (S := []) [] dX12_needed_15 ml_X12_263 ok_X12_willingSet vi_X12_willingSet rfl rfl (by decide) rfl (Nat.le_of_ble_eq_true rfl) ?_
    refine c_X12_willingSet (d := d) (gg 17 0) J R hA11_2 hb17 (show 1 ≤ gg 4 0 1 by omega) ?_
    intro A15_3 hA15_3
    show fwWP mX12_needed (d + 6) 18 [some (aR 12 0), none, none, none] [aI (mGers (gg 4 0 1) (gg 17 0) (gg 4 0 2) (gg 4 0 4) (gg 18 0) (gg 5 0 3).toNat (-1))] (fwUc (fwUc h 42 0 A11_2) 42 0 A15_3) Q
    rw [show (fwUc (fwUc h 42 0 A11_2) 42 0 A15_3) = (fwUc h 42 0 A15_3) from by funext a b; simp only [fwUc]; (repeat' split); all_goals first | rfl | (exfalso; omega)]
    have hwr3 := mGers_r (gg 4 0 1) (gg 17 0) (gg 4 0 2) (gg 4 0 4) (gg 18 0) (m := (gg 5 0 3).toNat) (-1) (by omega)
    have hw8_4 := mGers_8 (gg 4 0 1) (gg 17 0) (gg 4 0 2) (gg 4 0 4) (gg 18 0) (m := (gg 5 0 3).toNat) (-1) (by omega)
    change fwWP _ _ _ _ (aI (mWil gg 0) :: _) _ _
    have hw8 : 0 ≤ mWil gg 0 ∧ mWil gg 0 < 256 := hw8_4
    have hs8 := shl_8 (x := gg 5 0 3) (by omega)
    refine w_istore_n [some (aR 12 0), some (aI (mWil gg 0)), none, none] dX12_needed_18 rfl (by decide) ?_
    refine w_aload_n dX12_needed_19 rfl ?_
    refine w_aload_n dX12_needed_20 rfl ?_
    refine w_iload_n dX12_needed_21 rfl ?_
    refine w_iconst dX12_needed_22 ?_
    refine w_callV (d := d + 5) (S := [aR 12 0]) [aI (mWil gg 0), aI 0] dX12_needed_23 ml_X12_270 ok_X12_signing vi_X12_signing rfl rfl (by decide) rfl (Nat.le_of_ble_eq_true rfl) ?_
    refine c_sgE (d := (d + 4)) (mWil gg 0) 0 J R (by omega) (by omega) ?_
    show fwWP mX12_needed (d + 6) 26 [some (aR 12 0), some (aI (mWil gg 0)), none, none] [aI (mSign (gg 18 0) (gg 5 0 3).toNat (mWil gg 0) 0), aR 12 0] (fwUc h 42 0 A15_3) Q
    refine w_callV (d := d + 5) (S := []) [aI (mSign (gg 18 0) (gg 5 0 3).toNat (mWil gg 0) 0)] dX12_needed_26 ml_X12_273 ok_X12_isEnough vi_X12_isEnough rfl rfl (by decide) rfl (Nat.le_of_ble_eq_true rfl) ?_
    refine c_X12_isEnough (d := (d + 3)) (mSign (gg 18 0) (gg 5 0 3).toNat (mWil gg 0) 0) J R ?_
    show fwWP mX12_needed (d + 6) 29 [some (aR 12 0), some (aI (mWil gg 0)), none, none] [aI (fwB (gg 3 0 4 ≤ mNames (gg 18 0) (mSign (gg 18 0) (gg 5 0 3).toNat (mWil gg 0) 0) (gg 5 0 3).toNat))] (fwUc h 42 0 A15_3) Q
    refine w_ifB_ne 34 dX12_needed_29 (by decide) (fun c29 => ?_) (fun c29 => ?_)
    · refine w_iconst dX12_needed_34 ?_
      refine w_istore_n [some (aR 12 0), some (aI (mWil gg 0)), some (aI 0), none] dX12_needed_35 rfl (by decide) ?_
      refine w_iconst dX12_needed_36 ?_
      refine w_istore_n [some (aR 12 0), some (aI (mWil gg 0)), some (aI 0), some (aI 0)] dX12_needed_37 rfl (by decide) ?_
      have lp38 : ∀ c : Nat, c ≤ (gg 5 0 3).toNat → ∀ (y38 se : Int), y38 = (c : Int) → se = mBits (mNeedB gg) c → fwWP mX12_needed (d + 6) 38 [some (aR 12 0), some (aI (mWil gg 0)), some (aI se), some (aI y38)] [] (fwUc h 42 0 A15_3) Q := by
        refine fw_up (fun c hc38 ih38 => ?_)
        intro y38 se ey38 e_se
        subst ey38
        subst e_se
        show fwWP mX12_needed (d + 6) 38 [some (aR 12 0), some (aI (mWil gg 0)), some (aI (mBits (mNeedB gg) c)), some (aI (c : Int))] [] (fwUc h 42 0 A15_3) Q
        refine w_iload_n dX12_needed_38 rfl ?_
        refine w_aload_n dX12_needed_39 rfl ?_
        refine w_getr 36 0 dX12_needed_40 fl_X12_9 rfl (by decide) ?_
        refine w_bipush dX12_needed_43 rfl ?_
        refine w_ialdE (v := gg 5 0 3) dX12_needed_45 rfl (by decide) (by omega) (by omega) R.2.2.2.2.2.2.1 ?_
        refine w_icmp_ge 80 dX12_needed_46 (by decide) (by omega) (by omega) (fun c46 => ?_) (fun c46 => ?_)
        · have ec38 : (gg 5 0 3).toNat = c := by omega
          subst ec38
          refine w_iload_n dX12_needed_80 rfl ?_
          exact w_iretE dX12_needed_81 rfl (by unfold an_needed; first | (rw [if_neg (by omega)]; done) | (rw [if_pos (by omega), mNeed, if_neg c29]; done) | (rw [if_pos (by omega), mNeed, if_pos c29]; done)) (k _ (scr_uc (scr_rf hsh) rfl (by decide) (by decide) (by decide)))
        · have hsf := shl_7 (n := c) (by omega)
          refine w_iload_n dX12_needed_49 rfl ?_
          refine w_aload_n dX12_needed_50 rfl ?_
          refine w_aload_n dX12_needed_51 rfl ?_
          refine w_iload_n dX12_needed_52 rfl ?_
          refine w_iconst dX12_needed_53 ?_
          refine w_iload_n dX12_needed_54 rfl ?_
          refine w_ishl dX12_needed_55 ?_
          refine w_callV (d := d + 5) (S := [aR 12 0, aI (mBits (mNeedB gg) c)]) [aI (mWil gg 0), aI (fwShl 1 (c : Int))] dX12_needed_56 ml_X12_270 ok_X12_signing vi_X12_signing rfl rfl (by decide) rfl (Nat.le_of_ble_eq_true rfl) ?_
          refine c_sgE (d := (d + 4)) (mWil gg 0) (fwShl 1 (c : Int)) J R (by omega) (by omega) ?_
          show fwWP mX12_needed (d + 6) 59 [some (aR 12 0), some (aI (mWil gg 0)), some (aI (mBits (mNeedB gg) c)), some (aI (c : Int))] [aI (mSign (gg 18 0) (gg 5 0 3).toNat (mWil gg 0) (fwShl 1 (c : Int))), aR 12 0, aI (mBits (mNeedB gg) c)] (fwUc h 42 0 A15_3) Q
          refine w_callV (d := d + 5) (S := [aI (mBits (mNeedB gg) c)]) [aI (mSign (gg 18 0) (gg 5 0 3).toNat (mWil gg 0) (fwShl 1 (c : Int)))] dX12_needed_59 ml_X12_273 ok_X12_isEnough vi_X12_isEnough rfl rfl (by decide) rfl (Nat.le_of_ble_eq_true rfl) ?_
          refine c_X12_isEnough (d := (d + 3)) (mSign (gg 18 0) (gg 5 0 3).toNat (mWil gg 0) (fwShl 1 (c : Int))) J R ?_
          show fwWP mX12_needed (d + 6) 62 [some (aR 12 0), some (aI (mWil gg 0)), some (aI (mBits (mNeedB gg) c)), some (aI (c : Int))] [aI (fwB (gg 3 0 4 ≤ mNames (gg 18 0) (mSign (gg 18 0) (gg 5 0 3).toNat (mWil gg 0) (fwShl 1 (c : Int))) (gg 5 0 3).toNat)), aI (mBits (mNeedB gg) c)] (fwUc h 42 0 A15_3) Q
          refine w_ifB_eq 69 dX12_needed_62 (by decide) (fun c62 => ?_) (fun c62 => ?_)
          · refine w_iconst dX12_needed_69 ?_
            refine w_iload_n dX12_needed_70 rfl ?_
            refine w_ishl dX12_needed_71 ?_
            refine w_ior dX12_needed_72 ?_
            refine w_istore_n [some (aR 12 0), some (aI (mWil gg 0)), some (aI (fwOr (mBits (mNeedB gg) c) (fwShl 1 (c : Int)))), some (aI (c : Int))] dX12_needed_73 rfl (by decide) ?_
            refine w_iinc [some (aR 12 0), some (aI (mWil gg 0)), some (aI (fwOr (mBits (mNeedB gg) c) (fwShl 1 (c : Int)))), some (aI ((c : Int) + 1))] dX12_needed_74 rfl rfl (by decide) ?_
            refine w_goto 38 dX12_needed_77 (by decide) ?_
            refine ih38 (by omega) _ _ ?_ ?_
            · exact (by omega)
            · exact (by rw [mBits, if_pos (show mNeedB gg c = true from decide_eq_true c62)])
          · refine w_iconst dX12_needed_65 ?_
            refine w_goto 72 dX12_needed_66 (by decide) ?_
            refine w_ior dX12_needed_72 ?_
            refine w_istore_n [some (aR 12 0), some (aI (mWil gg 0)), some (aI (fwOr (mBits (mNeedB gg) c) 0)), some (aI (c : Int))] dX12_needed_73 rfl (by decide) ?_
            refine w_iinc [some (aR 12 0), some (aI (mWil gg 0)), some (aI (fwOr (mBits (mNeedB gg) c) 0)), some (aI ((c : Int) + 1))] dX12_needed_74 rfl rfl (by decide) ?_
            refine w_goto 38 dX12_needed_77 (by decide) ?_
            refine ih38 (by omega) _ _ ?_ ?_
            · exact (by omega)
            · exact (by rw [mBits, if_neg (show ¬ mNeedB gg c = true from fun z => (of_decide_eq_true z) c62), fwOr_0 (mBits_rng _ _)])
      refine lp38 0 (Nat.zero_le _) _ _ ?_ ?_
      · exact (by omega)
      · exact rfl
    · refine w_iconst dX12_needed_32 ?_
      exact w_iretE dX12_needed_33 rfl (by unfold an_needed; first | (rw [if_neg (by omega)]; done) | (rw [if_pos (by omega), mNeed, if_neg c29]; done) | (rw [if_pos (by omega), mNeed, if_pos c29]; done)) (k _ (scr_uc (scr_rf hsh) rfl (by decide) (by decide) (by decide)))
  · refine w_bipush dX12_needed_7 rfl ?_
    exact w_iretE dX12_needed_9 rfl (by unfold an_needed; first | (rw [if_neg (by omega)]; done) | (rw [if_pos (by omega), mNeed, if_neg c29]; done) | (rw [if_pos (by omega), mNeed, if_pos c29]; done)) (k _ (scr_rf hsh))

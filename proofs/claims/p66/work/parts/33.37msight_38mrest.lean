section
/-- what stands between, seen from either side -/
def seP (H : Nat → Int) (x o k : Int) : Prop := (H (if x < o then x + k else x - k).toNat - H x.toNat) * (if x < o then o - x else x - o) ≤ (H o.toNat - H x.toNat) * k
theorem see_eq {H : Nat → Int} {x o : Nat} : mSeenB H x o = true ↔ ∀ k : Nat, 1 ≤ k → (k : Int) < (if (x : Int) < o then (o : Int) - x else (x : Int) - o) → seP H x o k := by
  unfold mSeenB
  by_cases h1 : x < o
  · rw [if_pos h1, if_pos (by omega), decide_eq_true_eq]
    unfold mSee
    rw [mAll_iff]
    constructor
    · intro q k hk1 hk2
      have := of_decide_eq_true (q (k - 1) (by omega))
      unfold seP
      rw [if_pos (by omega), if_pos (by omega)]
      rw [show x + 1 + (k - 1) = x + k by omega, show (x : Int) + 1 + ((k - 1 : Nat) : Int) - (x : Int) = (k : Int) by omega] at this
      rw [show ((x : Int) + (k : Int)).toNat = x + k by omega]
      exact this
    · intro q j hj
      have := q (j + 1) (by omega) (by omega)
      unfold seP at this
      rw [if_pos (by omega), if_pos (by omega)] at this
      apply decide_eq_true
      rw [show ((x : Int) + ((j + 1 : Nat) : Int)).toNat = x + 1 + j by omega] at this
      rw [show (x : Int) + 1 + (j : Int) - (x : Int) = ((j + 1 : Nat) : Int) by omega]
      exact this
  · rw [if_neg h1, if_neg (by omega), decide_eq_true_eq]
    unfold mSee
    rw [mAll_iff]
    have key : ∀ (a b c f k : Int), (a - b) * f ≤ (c - b) * (f - k) ↔ (a - c) * f ≤ (b - c) * k := by
      intro a b c f k
      simp only [Int.sub_mul, Int.mul_sub]
      constructor <;> intro z <;> omega
    constructor
    · intro q k hk1 hk2
      have := of_decide_eq_true (q (x - o - 1 - k) (by omega))
      unfold seP
      rw [if_neg (by omega), if_neg (by omega)]
      rw [show o + 1 + (x - o - 1 - k) = x - k by omega, show (o : Int) + 1 + ((x - o - 1 - k : Nat) : Int) - (o : Int) = ((x : Int) - (o : Int)) - (k : Int) by omega] at this
      rw [show ((x : Int) - (k : Int)).toNat = x - k by omega]
      exact (key _ _ _ _ _).mp this
    · intro q j hj
      have := q (x - o - 1 - j) (by omega) (by omega)
      unfold seP at this
      rw [if_neg (by omega), if_neg (by omega)] at this
      apply decide_eq_true
      rw [show ((x : Int) - ((x - o - 1 - j : Nat) : Int)).toNat = o + 1 + j by omega] at this
      rw [show (o : Int) + 1 + (j : Int) - (o : Int) = ((x : Int) - (o : Int)) - ((x - o - 1 - j : Nat) : Int) by omega]
      exact (key _ _ _ _ _).mpr this
theorem mul_r3 {a b : Int} (h1 : -1000 ≤ a ∧ a ≤ 1000) (h2 : 0 ≤ b ∧ b ≤ 20) : -20000 ≤ a * b ∧ a * b ≤ 20000 := by
  constructor
  · have := Int.mul_le_mul_of_nonneg_right h1.1 h2.1
    have := Int.mul_le_mul_of_nonneg_left h2.2 (show (0 : Int) ≤ 1000 by omega)
    omega
  · have := Int.mul_le_mul_of_nonneg_right h1.2 h2.1
    have := Int.mul_le_mul_of_nonneg_left h2.2 (show (0 : Int) ≤ 1000 by omega)
    omega
set_option maxRecDepth 100000 in
set_option maxHeartbeats 4000000 in
theorem c_X12_isSeen {d : Nat} {h gg : fwH} {Q : Option fwV → fwH → Prop} (x o : Nat) (H : Nat → Int) (J : cOk gg) (R : jF gg h) (hH : hiR (gg 4 0 1) (h 42 0) H) (hb : hB H) (hx : (x : Int) < gg 4 0 1) (ho : (o : Int) < gg 4 0 1) (k : Q (some (aI (fwB (mSeenB H x o = true)))) h) : fwCt mX12_isSeen (d + 1) [aR 12 0, aI (x : Int), aI (o : Int)] h Q := by
  refine fwCt_of [some (aR 12 0), some (aI (x : Int)), some (aI (o : Int)), none, none] rfl rfl rfl ?_
  have g2 : gg 4 0 1 ≤ 10 := J.2.2.1.1.2
  obtain ⟨fr, efr⟩ : ∃ fr : Int, fr = (if (x : Int) < (o : Int) then (o : Int) - (x : Int) else (x : Int) - (o : Int)) := ⟨_, rfl⟩
  have hfr : 0 ≤ fr ∧ fr ≤ 10 := by rw [efr]; split <;> omega
  refine w_iload_n dX12_isSeen_0 rfl ?_
  refine w_iload_n dX12_isSeen_1 rfl ?_
  refine w_isub dX12_isSeen_2 ?_
  refine w_abs (d := d + 0) (S := []) dX12_isSeen_3 ml_X12_214 (by omega) (Nat.le_of_ble_eq_true rfl) ?_
  rw [show (if 0 ≤ (o : Int) - (x : Int) then (o : Int) - (x : Int) else -((o : Int) - (x : Int))) = fr from by rw [efr]; split <;> split <;> omega]
  refine w_istore_n [some (aR 12 0), some (aI (x : Int)), some (aI (o : Int)), some (aI fr), none] dX12_isSeen_6 rfl (by decide) ?_
  refine w_iconst dX12_isSeen_7 ?_
  refine w_istore [some (aR 12 0), some (aI (x : Int)), some (aI (o : Int)), some (aI fr), some (aI 1)] dX12_isSeen_8 rfl (by decide) ?_
  have lp10 : ∀ c : Nat, c ≤ (fr - 1).toNat → ∀ (y10  : Int), y10 = (c : Int) + 1 → (∀ k : Nat, 1 ≤ k → k ≤ c → seP H x o k) → fwWP mX12_isSeen (d + 1) 10 [some (aR 12 0), some (aI (x : Int)), some (aI (o : Int)), some (aI fr), some (aI y10)] [] h Q := by
    refine fw_up (fun c hc10 ih10 => ?_)
    intro y10  ey10 iv10_0
    subst ey10
    show fwWP mX12_isSeen (d + 1) 10 [some (aR 12 0), some (aI (x : Int)), some (aI (o : Int)), some (aI fr), some (aI ((c : Int) + 1))] [] h Q
    refine w_iload dX12_isSeen_10 rfl ?_
    refine w_iload_n dX12_isSeen_12 rfl ?_
    refine w_icmp_ge 73 dX12_isSeen_13 (by decide) (by omega) (by omega) (fun c13 => ?_) (fun c13 => ?_)
    · refine w_iconst dX12_isSeen_73 ?_
      exact w_zretE (P := mSeenB H x o = true) dX12_isSeen_74 rfl (by rw [fwB_t (see_eq.mpr (fun k h1 h2 => iv10_0 k h1 (by rw [← efr] at h2; omega)))]) k
    · have hbx := hb x (by omega)
      have hbo := hb o (by omega)
      refine w_aload_n dX12_isSeen_16 rfl ?_
      refine w_getr 42 0 dX12_isSeen_17 fl_X12_34 rfl (by decide) ?_
      refine w_iload_n dX12_isSeen_20 rfl ?_
      refine w_iload_n dX12_isSeen_21 rfl ?_
      refine w_icmp_le 32 dX12_isSeen_22 (by decide) (by omega) (by omega) (fun c22 => ?_) (fun c22 => ?_)
      · have ef2 : fr = (x : Int) - (o : Int) := by rw [efr, if_neg (by omega)]
        refine w_iload_n dX12_isSeen_32 rfl ?_
        refine w_iload dX12_isSeen_33 rfl ?_
        refine w_isub dX12_isSeen_35 ?_
        have hbm := hb ((x : Int) - ((c : Int) + 1)).toNat (by omega)
        have hm1 := mul_r3 (a := H ((x : Int) - ((c : Int) + 1)).toNat - H x) (b := fr) (by omega) (by omega)
        have hm2 := mul_r3 (a := H o - H x) (b := (c : Int) + 1) (by omega) (by omega)
        refine w_ialdE (v := H ((x : Int) - ((c : Int) + 1)).toNat) dX12_isSeen_36 rfl (by decide) (by omega) (by omega) (hH _ (by omega)) ?_
        refine w_aload_n dX12_isSeen_37 rfl ?_
        refine w_getr 42 0 dX12_isSeen_38 fl_X12_34 rfl (by decide) ?_
        refine w_iload_n dX12_isSeen_41 rfl ?_
        refine w_ialdE (v := H x) dX12_isSeen_42 rfl (by decide) (by omega) (by omega) (hH _ (by omega)) ?_
        refine w_isub dX12_isSeen_43 ?_
        refine w_iload_n dX12_isSeen_44 rfl ?_
        refine w_imul dX12_isSeen_45 ?_
        refine w_aload_n dX12_isSeen_46 rfl ?_
        refine w_getr 42 0 dX12_isSeen_47 fl_X12_34 rfl (by decide) ?_
        refine w_iload_n dX12_isSeen_50 rfl ?_
        refine w_ialdE (v := H o) dX12_isSeen_51 rfl (by decide) (by omega) (by omega) (hH _ (by omega)) ?_
        refine w_aload_n dX12_isSeen_52 rfl ?_
        refine w_getr 42 0 dX12_isSeen_53 fl_X12_34 rfl (by decide) ?_
        refine w_iload_n dX12_isSeen_56 rfl ?_
        refine w_ialdE (v := H x) dX12_isSeen_57 rfl (by decide) (by omega) (by omega) (hH _ (by omega)) ?_
        refine w_isub dX12_isSeen_58 ?_
        refine w_iload dX12_isSeen_59 rfl ?_
        refine w_imul dX12_isSeen_61 ?_
        refine w_icmp_le 67 dX12_isSeen_62 (by decide) (by omega) (by omega) (fun c62 => ?_) (fun c62 => ?_)
        · refine w_iinc [some (aR 12 0), some (aI (x : Int)), some (aI (o : Int)), some (aI fr), some (aI (((c : Int) + 1) + 1))] dX12_isSeen_67 rfl rfl (by decide) ?_
          refine w_goto 10 dX12_isSeen_70 (by decide) ?_
          refine ih10 (by omega) _ ?_ ?_
          · exact (by omega)
          · exact (fun k h1 h2 => by rcases Nat.lt_or_ge c k with e0 | e0; (rw [show k = c + 1 by omega]; unfold seP; rw [if_neg (by omega), if_neg (by omega), ← ef2]; exact c62); exact iv10_0 k h1 e0)
        · refine w_iconst dX12_isSeen_65 ?_
          exact w_zretE (P := mSeenB H x o = true) dX12_isSeen_66 rfl (by rw [fwB_f]; intro q0; have q1 := see_eq.mp q0 (c + 1) (by omega) (by rw [← efr]; omega); unfold seP at q1; rw [if_neg (by omega), if_neg (by omega), ← ef2] at q1; have q2 : ((c + 1 : Nat) : Int) = (c : Int) + 1 := (by omega); rw [q2] at q1; exact absurd c62 (Int.not_lt.mpr q1)) k
      · have ef2 : fr = (o : Int) - (x : Int) := by rw [efr, if_pos (by omega)]
        refine w_iload_n dX12_isSeen_25 rfl ?_
        refine w_iload dX12_isSeen_26 rfl ?_
        refine w_iadd dX12_isSeen_28 ?_
        refine w_goto 36 dX12_isSeen_29 (by decide) ?_
        have hbm := hb ((x : Int) + ((c : Int) + 1)).toNat (by omega)
        have hm1 := mul_r3 (a := H ((x : Int) + ((c : Int) + 1)).toNat - H x) (b := fr) (by omega) (by omega)
        have hm2 := mul_r3 (a := H o - H x) (b := (c : Int) + 1) (by omega) (by omega)
        refine w_ialdE (v := H ((x : Int) + ((c : Int) + 1)).toNat) dX12_isSeen_36 rfl (by decide) (by omega) (by omega) (hH _ (by omega)) ?_
        refine w_aload_n dX12_isSeen_37 rfl ?_
        refine w_getr 42 0 dX12_isSeen_38 fl_X12_34 rfl (by decide) ?_
        refine w_iload_n dX12_isSeen_41 rfl ?_
        refine w_ialdE (v := H x) dX12_isSeen_42 rfl (by decide) (by omega) (by omega) (hH _ (by omega)) ?_
        refine w_isub dX12_isSeen_43 ?_
        refine w_iload_n dX12_isSeen_44 rfl ?_
        refine w_imul dX12_isSeen_45 ?_
        refine w_aload_n dX12_isSeen_46 rfl ?_
        refine w_getr 42 0 dX12_isSeen_47 fl_X12_34 rfl (by decide) ?_
        refine w_iload_n dX12_isSeen_50 rfl ?_
        refine w_ialdE (v := H o) dX12_isSeen_51 rfl (by decide) (by omega) (by omega) (hH _ (by omega)) ?_
        refine w_aload_n dX12_isSeen_52 rfl ?_
        refine w_getr 42 0 dX12_isSeen_53 fl_X12_34 rfl (by decide) ?_
        refine w_iload_n dX12_isSeen_56 rfl ?_
        refine w_ialdE (v := H x) dX12_isSeen_57 rfl (by decide) (by omega) (by omega) (hH _ (by omega)) ?_
        refine w_isub dX12_isSeen_58 ?_
        refine w_iload dX12_isSeen_59 rfl ?_
        refine w_imul dX12_isSeen_61 ?_
        refine w_icmp_le 67 dX12_isSeen_62 (by decide) (by omega) (by omega) (fun c62 => ?_) (fun c62 => ?_)
        · refine w_iinc [some (aR 12 0), some (aI (x : Int)), some (aI (o : Int)), some (aI fr), some (aI (((c : Int) + 1) + 1))] dX12_isSeen_67 rfl rfl (by decide) ?_
          refine w_goto 10 dX12_isSeen_70 (by decide) ?_
          refine ih10 (by omega) _ ?_ ?_
          · exact (by omega)
          · exact (fun k h1 h2 => by rcases Nat.lt_or_ge c k with e0 | e0; (rw [show k = c + 1 by omega]; unfold seP; rw [if_pos c22, if_pos c22, ← ef2]; exact c62); exact iv10_0 k h1 e0)
        · refine w_iconst dX12_isSeen_65 ?_
          exact w_zretE (P := mSeenB H x o = true) dX12_isSeen_66 rfl (by rw [fwB_f]; intro q0; have q1 := see_eq.mp q0 (c + 1) (by omega) (by rw [← efr]; omega); unfold seP at q1; rw [if_pos c22, if_pos c22, ← ef2] at q1; have q2 : ((c + 1 : Nat) : Int) = (c : Int) + 1 := (by omega); rw [q2] at q1; exact absurd c62 (Int.not_lt.mpr q1)) k
  refine lp10 0 (Nat.zero_le _) _ ?_ ?_
  · exact (by omega)
  · exact (fun k h1 h2 => by omega)
set_option maxRecDepth 100000 in
set_option maxHeartbeats 4000000 in
theorem c_X12_seenFrom {d : Nat} {h gg : fwH} {Q : Option fwV → fwH → Prop} (x : Nat) (H : Nat → Int) (J : cOk gg) (R : jF gg h) (hH : hiR (gg 4 0 1) (h 42 0) H) (hb : hB H) (hx : (x : Int) < gg 4 0 1) (k : Q (some (aI (mBits (mSeenB H x) (gg 4 0 1).toNat))) h) : fwCt mX12_seenFrom (d + 2) [aR 12 0, aI (x : Int)] h Q := by
  refine fwCt_of [some (aR 12 0), some (aI (x : Int)), none, none] rfl rfl rfl ?_
  obtain ⟨hl, hP, hG, -, -, -, hlw, -, ha, hs, -, hsc⟩ := id J
  obtain ⟨⟨g1, g2⟩, ⟨g3, g4⟩, ⟨g5, g6⟩, g7, -⟩ := id hG
  have hpz := hP.1
  refine w_iconst dX12_seenFrom_0 ?_
  refine w_istore_n [some (aR 12 0), some (aI (x : Int)), some (aI 0), none] dX12_seenFrom_1 rfl (by decide) ?_
  refine w_iconst dX12_seenFrom_2 ?_
  refine w_istore_n [some (aR 12 0), some (aI (x : Int)), some (aI 0), some (aI 0)] dX12_seenFrom_3 rfl (by decide) ?_
  have lp4 : ∀ c : Nat, c ≤ (gg 4 0 1).toNat → ∀ (y4 se : Int), y4 = (c : Int) → se = mBits (mSeenB H x) c → fwWP mX12_seenFrom (d + 2) 4 [some (aR 12 0), some (aI (x : Int)), some (aI se), some (aI y4)] [] h Q := by
    refine fw_up (fun c hc4 ih4 => ?_)
    intro y4 se ey4 e_se
    subst ey4
    subst e_se
    show fwWP mX12_seenFrom (d + 2) 4 [some (aR 12 0), some (aI (x : Int)), some (aI (mBits (mSeenB H x) c)), some (aI (c : Int))] [] h Q
    refine w_iload_n dX12_seenFrom_4 rfl ?_
    refine w_aload_n dX12_seenFrom_5 rfl ?_
    refine w_getr 36 0 dX12_seenFrom_6 fl_X12_9 rfl (by decide) ?_
    refine w_iconst dX12_seenFrom_9 ?_
    refine w_ialdE (v := gg 4 0 1) dX12_seenFrom_10 rfl (by decide) (by omega) (by omega) R.1 ?_
    refine w_icmp_ge 39 dX12_seenFrom_11 (by decide) (by omega) (by omega) (fun c11 => ?_) (fun c11 => ?_)
    · have ec4 : (gg 4 0 1).toNat = c := by omega
      subst ec4
      refine w_iload_n dX12_seenFrom_39 rfl ?_
      exact w_iretE dX12_seenFrom_40 rfl (by rfl) k
    · refine w_iload_n dX12_seenFrom_14 rfl ?_
      refine w_aload_n dX12_seenFrom_15 rfl ?_
      refine w_iload_n dX12_seenFrom_16 rfl ?_
      refine w_iload_n dX12_seenFrom_17 rfl ?_
      refine w_callV (d := d + 1) (S := [aI (mBits (mSeenB H x) c)]) [aI (x : Int), aI (c : Int)] dX12_seenFrom_18 ml_X12_326 ok_X12_isSeen vi_X12_isSeen rfl rfl (by decide) rfl (Nat.le_of_ble_eq_true rfl) ?_
      refine c_X12_isSeen (d := d) x c H J R hH hb (show (x : Int) < gg 4 0 1 by omega) (show (c : Int) < gg 4 0 1 by omega) ?_
      show fwWP mX12_seenFrom (d + 2) 21 [some (aR 12 0), some (aI (x : Int)), some (aI (mBits (mSeenB H x) c)), some (aI (c : Int))] [aI (fwB (mSeenB H x c = true)), aI (mBits (mSeenB H x) c)] h Q
      refine w_ifB_eq 30 dX12_seenFrom_21 (by decide) (fun c21 => ?_) (fun c21 => ?_)
      · refine w_iconst dX12_seenFrom_30 ?_
        refine w_ior dX12_seenFrom_31 ?_
        refine w_istore_n [some (aR 12 0), some (aI (x : Int)), some (aI (fwOr (mBits (mSeenB H x) c) 0)), some (aI (c : Int))] dX12_seenFrom_32 rfl (by decide) ?_
        refine w_iinc [some (aR 12 0), some (aI (x : Int)), some (aI (fwOr (mBits (mSeenB H x) c) 0)), some (aI ((c : Int) + 1))] dX12_seenFrom_33 rfl rfl (by decide) ?_
        refine w_goto 4 dX12_seenFrom_36 (by decide) ?_
        refine ih4 (by omega) _ _ ?_ ?_
        · exact (by omega)
        · exact (by rw [mBits, if_neg c21, fwOr_0 (mBits_rng _ _)])
      · refine w_iconst dX12_seenFrom_24 ?_
        refine w_iload_n dX12_seenFrom_25 rfl ?_
        refine w_ishl dX12_seenFrom_26 ?_
        refine w_goto 31 dX12_seenFrom_27 (by decide) ?_
        refine w_ior dX12_seenFrom_31 ?_
        refine w_istore_n [some (aR 12 0), some (aI (x : Int)), some (aI (fwOr (mBits (mSeenB H x) c) (fwShl 1 (c : Int)))), some (aI (c : Int))] dX12_seenFrom_32 rfl (by decide) ?_
        refine w_iinc [some (aR 12 0), some (aI (x : Int)), some (aI (fwOr (mBits (mSeenB H x) c) (fwShl 1 (c : Int)))), some (aI ((c : Int) + 1))] dX12_seenFrom_33 rfl rfl (by decide) ?_
        refine w_goto 4 dX12_seenFrom_36 (by decide) ?_
        refine ih4 (by omega) _ _ ?_ ?_
        · exact (by omega)
        · exact (by rw [mBits, if_pos c21])
  refine lp4 0 (Nat.zero_le _) _ _ ?_ ?_
  · exact (by omega)
  · exact rfl
theorem c_sfE {d : Nat} {h gg : fwH} {Q : Option fwV → fwH → Prop} (x : Nat) (y : Int) (H : Nat → Int) (J : cOk gg) (R : jF gg h) (hH : hiR (gg 4 0 1) (h 42 0) H) (hb : hB H) (ey : y = (x : Int)) (hx : (x : Int) < gg 4 0 1) (k : Q (some (aI (mBits (mSeenB H x) (gg 4 0 1).toNat))) h) : fwCt mX12_seenFrom (d + 2) [aR 12 0, aI y] h Q := by
  subst ey
  exact c_X12_seenFrom x H J R hH hb hx k
theorem mLook_2 (H : Nat → Int) (n : Nat) : ∀ c : Nat, ((mLook H n c).1 = -1 ∧ (mLook H n c).2 = 0) ∨ ((0 ≤ (mLook H n c).1 ∧ (mLook H n c).1 < c) ∧ (mLook H n c).2 = fwPop (mBits (mSeenB H (mLook H n c).1.toNat) n)) := by
  intro c
  induction c with
  | zero => exact Or.inl ⟨rfl, rfl⟩
  | succ c ih =>
    rw [mLook]
    split
    · exact Or.inr ⟨by dsimp only; omega, rfl⟩
    · rcases ih with e | e
      · exact Or.inl e
      · exact Or.inr ⟨by omega, e.2⟩
theorem pop_pos : ∀ a : Nat, a < 1024 → a ≠ 0 → 1 ≤ fwPop (a : Int) := by decide +kernel
theorem mBits_self {p : Nat → Bool} {c : Nat} (hc : p c = true) : ∀ n : Nat, c < n → n ≤ 10 → 1 ≤ mBits p n := by
  intro n
  induction n with
  | zero => intro h; omega
  | succ n ih =>
    intro h1 h2
    obtain ⟨a, e, ha⟩ := mBits_n (p := p) n (by omega)
    have hp : 2 ^ n ≤ 2 ^ 10 := Nat.pow_le_pow_right (by omega) (by omega)
    have key : ∀ z : Nat, z < 2 ^ n → 1 ≤ fwOr (z : Int) (fwShl 1 (n : Int)) ∧ (z : Int) ≤ fwOr (z : Int) (fwShl 1 (n : Int)) := by
      intro z hz
      rw [fwShl1_nat (by omega), fwOr_nat (by omega) (by omega)]
      have := Nat.left_le_or (n := z) (m := 2 ^ n)
      have := Nat.right_le_or (n := z) (m := 2 ^ n)
      have := Nat.two_pow_pos n
      omega
    rw [mBits]
    split
    · rw [e]; exact (key a ha).1
    · rename_i q
      rcases Nat.lt_or_ge c n with z | z
      · exact ih z (by omega)
      · rw [show n = c by omega] at q
        exact absurd hc q
theorem mLook_1 {H : Nat → Int} {n : Nat} (hn : n ≤ 10) : ∀ c : Nat, 1 ≤ c → c ≤ n → 0 ≤ (mLook H n c).1 := by
  intro c
  induction c with
  | zero => intro h; omega
  | succ c ih =>
    intro _ h2
    rw [mLook]
    split
    · dsimp only; omega
    · rename_i q
      rcases Nat.eq_zero_or_pos c with e | e
      · exfalso
        subst e
        have h3 : mSeenB H 0 0 = true := by unfold mSeenB; rw [if_neg (by omega)]; exact decide_eq_true rfl
        have h4 := mBits_self h3 n (by omega) hn
        have h5 := mBits_10 (p := mSeenB H 0) (n := n) hn
        obtain ⟨a, ea⟩ : ∃ a : Nat, mBits (mSeenB H 0) n = a := ⟨(mBits (mSeenB H 0) n).toNat, by omega⟩
        have h6 := pop_pos a (by omega) (by omega)
        apply q
        rw [ea, show (mLook H n 0).2 = 0 from rfl]
        omega
      · exact ih e (by omega)
set_option maxRecDepth 100000 in
set_option maxHeartbeats 4000000 in
theorem c_X12_sees {d : Nat} {h gg : fwH} {Q : Option fwV → fwH → Prop} (x : Int) (J : cOk gg) (R : jF gg h) (K : jA gg h) (hsh : sc h) (hx : -2147483648 ≤ x ∧ x < 2147483648) (k : ∀ g, scr h g → Q (some (aI (an_sees gg x))) g) : fwCt mX12_sees (d + 6) [aR 12 0, aI x] h Q := by
  refine fwCt_of [some (aR 12 0), some (aI x)] rfl rfl rfl ?_
  obtain ⟨hl, hP, hG, hM0, htd, hut, hlw, hhc, ha, hs, hT, hsc⟩ := id J
  have hb17 : hB (gg 17 0) := fun c hc => by have := hM0 c hc; omega
  obtain ⟨⟨g1, g2⟩, ⟨g3, g4⟩, ⟨g5, g6⟩, g7, -⟩ := id hG
  have h17_99 : ∀ c : Nat, (c : Int) < gg 4 0 1 → gg 17 0 c ≤ 99 := fun c hc => (hM0 c (by omega)).2
  have hpz := hP.1
  have hrs1 := R.2.2.2.2.2.2.2.2.2.2.2
  refine w_aload_n dX12_sees_0 rfl ?_
  refine w_iload_n dX12_sees_1 rfl ?_
  refine w_i2l dX12_sees_2 (by omega) ?_
  refine w_callV (d := d + 5) (S := []) [aJ x] dX12_sees_3 ml_X12_203 ok_X12_isCell vi_X12_isCell rfl rfl (by decide) rfl (Nat.le_of_ble_eq_true rfl) ?_
  refine c_X12_isCell (d := (d + 4)) x J R (by omega) ?_
  show fwWP mX12_sees (d + 6) 6 [some (aR 12 0), some (aI x)] [aI (fwB (0 ≤ x ∧ x ≤ gg 4 0 1 - 1))] h Q
  refine w_ifB_ne 12 dX12_sees_6 (by decide) (fun c6 => ?_) (fun c6 => ?_)
  · refine w_aload_n dX12_sees_12 rfl ?_
    refine w_callV (d := d + 5) (S := []) [] dX12_sees_13 ml_X12_240 ok_X12_asItIs vi_X12_asItIs rfl rfl (by decide) rfl (Nat.le_of_ble_eq_true rfl) ?_
    refine c_X12_asItIs (d := d) J R K (show 1 ≤ gg 4 0 1 by omega) (show 1 ≤ gg 4 0 3 by omega) ?_
    intro A13_2 hA13_2
    show fwWP mX12_sees (d + 6) 16 [some (aR 12 0), some (aI x)] [] (fwUc h 42 0 A13_2) Q
    refine w_aload_n dX12_sees_16 rfl ?_
    refine w_iload_n dX12_sees_17 rfl ?_
    obtain ⟨f, rfl⟩ : ∃ f : Nat, x = (f : Int) := ⟨x.toNat, by omega⟩
    refine w_callV (d := d + 5) (S := []) [aI (f : Int)] dX12_sees_18 ml_X12_329 ok_X12_seenFrom vi_X12_seenFrom rfl rfl (by decide) rfl (Nat.le_of_ble_eq_true rfl) ?_
    refine c_sfE (d := (d + 3)) f (f : Int) (gg 17 0) J R hA13_2 hb17 (by omega) (show ((f : Nat) : Int) < gg 4 0 1 by omega) ?_
    show fwWP mX12_sees (d + 6) 21 [some (aR 12 0), some (aI (f : Int))] [aI (mBits (mSeenB (gg 17 0) f) (gg 4 0 1).toNat)] (fwUc h 42 0 A13_2) Q
    have hmb3 := mBits_10 (p := mSeenB (gg 17 0) f) (n := (gg 4 0 1).toNat) (by omega)
    exact w_iretE dX12_sees_21 rfl (by unfold an_sees; first | (rw [if_pos (by omega)]; done) | (rw [if_neg (by omega)]; done) | (rw [if_pos (by omega)]; rfl) | (rw [if_neg (by omega)]; rfl)) (k _ (scr_uc (scr_rf hsh) rfl (by decide) (by decide) (by decide)))
  · refine w_bipush dX12_sees_9 rfl ?_
    exact w_iretE dX12_sees_11 rfl (by unfold an_sees; first | (rw [if_pos (by omega)]; done) | (rw [if_neg (by omega)]; done) | (rw [if_pos (by omega)]; rfl) | (rw [if_neg (by omega)]; rfl)) (k _ (scr_rf hsh))
set_option maxRecDepth 100000 in
set_option maxHeartbeats 4000000 in
theorem c_X12_lookout {d : Nat} {h gg : fwH} {Q : Option fwV → fwH → Prop}  (J : cOk gg) (R : jF gg h) (K : jA gg h) (hsh : sc h)  (k : ∀ g, scr h g → Q (some (aI (an_lookout gg ))) g) : fwCt mX12_lookout (d + 6) [aR 12 0] h Q := by
  refine fwCt_of [some (aR 12 0), none, none] rfl rfl rfl ?_
  obtain ⟨hl, hP, hG, hM0, htd, hut, hlw, hhc, ha, hs, hT, hsc⟩ := id J
  have hb17 : hB (gg 17 0) := fun c hc => by have := hM0 c hc; omega
  obtain ⟨⟨g1, g2⟩, ⟨g3, g4⟩, ⟨g5, g6⟩, g7, -⟩ := id hG
  have h17_99 : ∀ c : Nat, (c : Int) < gg 4 0 1 → gg 17 0 c ≤ 99 := fun c hc => (hM0 c (by omega)).2
  have hpz := hP.1
  have hrs1 := R.2.2.2.2.2.2.2.2.2.2.2
  refine w_aload_n dX12_lookout_0 rfl ?_
  refine w_callV (d := d + 5) (S := []) [] dX12_lookout_1 ml_X12_73 ok_X12_isMount vi_X12_isMount rfl rfl (by decide) rfl (Nat.le_of_ble_eq_true rfl) ?_
  refine c_X12_isMount (d := (d + 5)) J R ?_
  show fwWP mX12_lookout (d + 6) 4 [some (aR 12 0), none, none] [aI (fwB (0 < gg 3 0 6))] h Q
  refine w_ifB_ne 10 dX12_lookout_4 (by decide) (fun c4 => ?_) (fun c4 => ?_)
  · refine w_aload_n dX12_lookout_10 rfl ?_
    refine w_callV (d := d + 5) (S := []) [] dX12_lookout_11 ml_X12_240 ok_X12_asItIs vi_X12_asItIs rfl rfl (by decide) rfl (Nat.le_of_ble_eq_true rfl) ?_
    refine c_X12_asItIs (d := d) J R K (show 1 ≤ gg 4 0 1 by omega) (show 1 ≤ gg 4 0 3 by omega) ?_
    intro A11_2 hA11_2
    show fwWP mX12_lookout (d + 6) 14 [some (aR 12 0), none, none] [] (fwUc h 42 0 A11_2) Q
    refine w_iconst dX12_lookout_14 ?_
    refine w_istore_n [some (aR 12 0), some (aI 0), none] dX12_lookout_15 rfl (by decide) ?_
    refine w_iconst dX12_lookout_16 ?_
    refine w_istore_n [some (aR 12 0), some (aI 0), some (aI 1)] dX12_lookout_17 rfl (by decide) ?_
    have lp18 : ∀ c : Nat, c ≤ (gg 4 0 1).toNat - 1 → ∀ (y18 be : Int), y18 = (c : Int) + 1 → be = (mLook (gg 17 0) (gg 4 0 1).toNat (c + 1)).1 → fwWP mX12_lookout (d + 6) 18 [some (aR 12 0), some (aI be), some (aI y18)] [] (fwUc h 42 0 A11_2) Q := by
      refine fw_up (fun c hc18 ih18 => ?_)
      intro y18 be ey18 e_be
      subst ey18
      subst e_be
      have hl1 := mLook_1 (H := gg 17 0) (n := (gg 4 0 1).toNat) (by omega) (c + 1) (by omega) (by omega)
      have hl2 := (mLook_2 (gg 17 0) (gg 4 0 1).toNat (c + 1)).resolve_left (fun z => by omega)
      show fwWP mX12_lookout (d + 6) 18 [some (aR 12 0), some (aI ((mLook (gg 17 0) (gg 4 0 1).toNat (c + 1)).1)), some (aI ((c : Int) + 1))] [] (fwUc h 42 0 A11_2) Q
      refine w_iload_n dX12_lookout_18 rfl ?_
      refine w_aload_n dX12_lookout_19 rfl ?_
      refine w_getr 36 0 dX12_lookout_20 fl_X12_9 rfl (by decide) ?_
      refine w_iconst dX12_lookout_23 ?_
      refine w_ialdE (v := gg 4 0 1) dX12_lookout_24 rfl (by decide) (by omega) (by omega) R.1 ?_
      refine w_icmp_ge 59 dX12_lookout_25 (by decide) (by omega) (by omega) (fun c25 => ?_) (fun c25 => ?_)
      · refine w_iload_n dX12_lookout_59 rfl ?_
        exact w_iretE dX12_lookout_60 rfl (by unfold an_lookout; rw [if_pos (by omega)]; exact congrArg (fun z => (mLook (gg 17 0) (gg 4 0 1).toNat z).1) (show c + 1 = (gg 4 0 1).toNat by omega)) (k _ (scr_uc (scr_rf hsh) rfl (by decide) (by decide) (by decide)))
      · refine w_aload_n dX12_lookout_28 rfl ?_
        refine w_iload_n dX12_lookout_29 rfl ?_
        refine w_callV (d := d + 5) (S := []) [aI ((c : Int) + 1)] dX12_lookout_30 ml_X12_329 ok_X12_seenFrom vi_X12_seenFrom rfl rfl (by decide) rfl (Nat.le_of_ble_eq_true rfl) ?_
        refine c_sfE (d := (d + 3)) (c + 1) ((c : Int) + 1) (gg 17 0) J R hA11_2 hb17 (by omega) (show (((c + 1) : Nat) : Int) < gg 4 0 1 by omega) ?_
        show fwWP mX12_lookout (d + 6) 33 [some (aR 12 0), some (aI ((mLook (gg 17 0) (gg 4 0 1).toNat (c + 1)).1)), some (aI ((c : Int) + 1))] [aI (mBits (mSeenB (gg 17 0) (c + 1)) (gg 4 0 1).toNat)] (fwUc h 42 0 A11_2) Q
        have hmb4 := mBits_10 (p := mSeenB (gg 17 0) (c + 1)) (n := (gg 4 0 1).toNat) (by omega)
        refine w_callS (d := d + 5) (S := []) [aI (mBits (mSeenB (gg 17 0) (c + 1)) (gg 4 0 1).toNat)] dX12_lookout_33 ml_X12_229 ok_X12_bits st_X12_bits rfl (Nat.le_of_ble_eq_true rfl) ?_
        refine c_bitsP (d := (d + 5)) (mBits (mSeenB (gg 17 0) (c + 1)) (gg 4 0 1).toNat) (by first | assumption | omega | decide) ?_
        show fwWP mX12_lookout (d + 6) 36 [some (aR 12 0), some (aI ((mLook (gg 17 0) (gg 4 0 1).toNat (c + 1)).1)), some (aI ((c : Int) + 1))] [aI (fwPop (mBits (mSeenB (gg 17 0) (c + 1)) (gg 4 0 1).toNat))] (fwUc h 42 0 A11_2) Q
        have hpp5 := fwPop_rng (mBits (mSeenB (gg 17 0) (c + 1)) (gg 4 0 1).toNat)
        refine w_aload_n dX12_lookout_36 rfl ?_
        refine w_iload_n dX12_lookout_37 rfl ?_
        refine w_callV (d := d + 5) (S := [aI (fwPop (mBits (mSeenB (gg 17 0) (c + 1)) (gg 4 0 1).toNat))]) [aI ((mLook (gg 17 0) (gg 4 0 1).toNat (c + 1)).1)] dX12_lookout_38 ml_X12_329 ok_X12_seenFrom vi_X12_seenFrom rfl rfl (by decide) rfl (Nat.le_of_ble_eq_true rfl) ?_
        refine c_sfE (d := (d + 3)) ((mLook (gg 17 0) (gg 4 0 1).toNat (c + 1)).1).toNat ((mLook (gg 17 0) (gg 4 0 1).toNat (c + 1)).1) (gg 17 0) J R hA11_2 hb17 (by omega) (show ((((mLook (gg 17 0) (gg 4 0 1).toNat (c + 1)).1).toNat : Nat) : Int) < gg 4 0 1 by omega) ?_
        show fwWP mX12_lookout (d + 6) 41 [some (aR 12 0), some (aI ((mLook (gg 17 0) (gg 4 0 1).toNat (c + 1)).1)), some (aI ((c : Int) + 1))] [aI (mBits (mSeenB (gg 17 0) ((mLook (gg 17 0) (gg 4 0 1).toNat (c + 1)).1).toNat) (gg 4 0 1).toNat), aI (fwPop (mBits (mSeenB (gg 17 0) (c + 1)) (gg 4 0 1).toNat))] (fwUc h 42 0 A11_2) Q
        have hmb6 := mBits_10 (p := mSeenB (gg 17 0) ((mLook (gg 17 0) (gg 4 0 1).toNat (c + 1)).1).toNat) (n := (gg 4 0 1).toNat) (by omega)
        refine w_callS (d := d + 5) (S := [aI (fwPop (mBits (mSeenB (gg 17 0) (c + 1)) (gg 4 0 1).toNat))]) [aI (mBits (mSeenB (gg 17 0) ((mLook (gg 17 0) (gg 4 0 1).toNat (c + 1)).1).toNat) (gg 4 0 1).toNat)] dX12_lookout_41 ml_X12_229 ok_X12_bits st_X12_bits rfl (Nat.le_of_ble_eq_true rfl) ?_
        refine c_bitsP (d := (d + 5)) (mBits (mSeenB (gg 17 0) ((mLook (gg 17 0) (gg 4 0 1).toNat (c + 1)).1).toNat) (gg 4 0 1).toNat) (by first | assumption | omega | decide) ?_
        show fwWP mX12_lookout (d + 6) 44 [some (aR 12 0), some (aI ((mLook (gg 17 0) (gg 4 0 1).toNat (c + 1)).1)), some (aI ((c : Int) + 1))] [aI (fwPop (mBits (mSeenB (gg 17 0) ((mLook (gg 17 0) (gg 4 0 1).toNat (c + 1)).1).toNat) (gg 4 0 1).toNat)), aI (fwPop (mBits (mSeenB (gg 17 0) (c + 1)) (gg 4 0 1).toNat))] (fwUc h 42 0 A11_2) Q
        have hpp7 := fwPop_rng (mBits (mSeenB (gg 17 0) ((mLook (gg 17 0) (gg 4 0 1).toNat (c + 1)).1).toNat) (gg 4 0 1).toNat)
        refine w_icmp_le 51 dX12_lookout_44 (by decide) (by omega) (by omega) (fun c44 => ?_) (fun c44 => ?_)
        · refine w_iload_n dX12_lookout_51 rfl ?_
          refine w_istore_n [some (aR 12 0), some (aI ((mLook (gg 17 0) (gg 4 0 1).toNat (c + 1)).1)), some (aI ((c : Int) + 1))] dX12_lookout_52 rfl (by decide) ?_
          refine w_iinc [some (aR 12 0), some (aI ((mLook (gg 17 0) (gg 4 0 1).toNat (c + 1)).1)), some (aI (((c : Int) + 1) + 1))] dX12_lookout_53 rfl rfl (by decide) ?_
          refine w_goto 18 dX12_lookout_56 (by decide) ?_
          refine ih18 (by omega) _ _ ?_ ?_
          · exact (by omega)
          · exact (by rw [mLook.eq_2 (gg 17 0) (gg 4 0 1).toNat (c + 1), if_neg (by omega)])
        · refine w_iload_n dX12_lookout_47 rfl ?_
          refine w_goto 52 dX12_lookout_48 (by decide) ?_
          refine w_istore_n [some (aR 12 0), some (aI ((c : Int) + 1)), some (aI ((c : Int) + 1))] dX12_lookout_52 rfl (by decide) ?_
          refine w_iinc [some (aR 12 0), some (aI ((c : Int) + 1)), some (aI (((c : Int) + 1) + 1))] dX12_lookout_53 rfl rfl (by decide) ?_
          refine w_goto 18 dX12_lookout_56 (by decide) ?_
          refine ih18 (by omega) _ _ ?_ ?_
          · exact (by omega)
          · exact (by rw [mLook.eq_2 (gg 17 0) (gg 4 0 1).toNat (c + 1), if_pos (by omega)]; omega)
    refine lp18 0 (Nat.zero_le _) _ _ ?_ ?_
    · exact (by omega)
    · exact (by have z1 := mLook_1 (H := gg 17 0) (n := (gg 4 0 1).toNat) (by omega) 1 (by omega) (by omega); have z2 := (mLook_2 (gg 17 0) (gg 4 0 1).toNat 1).resolve_left (fun z => by omega); show (0 : Int) = (mLook (gg 17 0) (gg 4 0 1).toNat 1).1; omega)
  · refine w_bipush dX12_lookout_7 rfl ?_
    exact w_iretE dX12_lookout_9 rfl (by unfold an_lookout; rw [if_neg (by omega)]) (k _ (scr_rf hsh))
end
section
set_option maxRecDepth 100000 in
set_option maxHeartbeats 4000000 in
theorem c_X12_votesFor {d : Nat} {h gg : fwH} {Q : Option fwV → fwH → Prop} (x y : Nat) (J : cOk gg) (R : jF gg h) (hH : hiR (gg 4 0 1) (h 42 0) (gg 17 0)) (hx : (x : Int) < gg 4 0 1) (hy : (y : Int) < gg 4 0 1) (hx2 : 0 < gg 17 0 x) (hy2 : 0 < gg 17 0 y) (k : ∀ A, hiR (gg 4 0 1) A (gg 17 0) → Q (some (aI (mVo gg x y))) (fwUc h 42 0 A)) : fwCt mX12_votesFor (d + 5) [aR 12 0, aI (x : Int), aI (y : Int)] h Q := by
  refine fwCt_of [some (aR 12 0), some (aI (x : Int)), some (aI (y : Int)), none, none, none] rfl rfl rfl ?_
  obtain ⟨hl, hP, hG, -, -, -, hlw, -, ha, hs, -, hsc⟩ := id J
  obtain ⟨⟨g1, g2⟩, ⟨g3, g4⟩, ⟨g5, g6⟩, g7, -⟩ := id hG
  have hpz := hP.1
  have hb17 : hB (gg 17 0) := fun c hc => by have := J.2.2.2.1 c hc; omega
  have hbx := J.2.2.2.1 x (by omega)
  have hby := J.2.2.2.1 y (by omega)
  refine w_iconst dX12_votesFor_0 ?_
  refine w_istore_n [some (aR 12 0), some (aI (x : Int)), some (aI (y : Int)), some (aI 0), none, none] dX12_votesFor_1 rfl (by decide) ?_
  refine w_iconst dX12_votesFor_2 ?_
  refine w_istore [some (aR 12 0), some (aI (x : Int)), some (aI (y : Int)), some (aI 0), some (aI 0), none] dX12_votesFor_3 rfl (by decide) ?_
  have lp5 : ∀ c : Nat, c ≤ (gg 5 0 3).toNat → ∀ (y5 se : Int) (A5 : Nat → Int), y5 = (c : Int) → se = mBits (mVoB gg x y) c → hiR (gg 4 0 1) A5 (gg 17 0) → fwWP mX12_votesFor (d + 5) 5 [some (aR 12 0), some (aI (x : Int)), some (aI (y : Int)), some (aI se), some (aI y5), none] [] (fwUc h 42 0 A5) Q := by
    refine fw_up (fun c hc5 ih5 => ?_)
    intro y5 se A5 ey5 e_se hA5
    subst ey5
    subst e_se
    show fwWP mX12_votesFor (d + 5) 5 [some (aR 12 0), some (aI (x : Int)), some (aI (y : Int)), some (aI (mBits (mVoB gg x y) c)), some (aI (c : Int)), none] [] (fwUc h 42 0 A5) Q
    refine w_iload dX12_votesFor_5 rfl ?_
    refine w_aload_n dX12_votesFor_7 rfl ?_
    refine w_getr 36 0 dX12_votesFor_8 fl_X12_9 rfl (by decide) ?_
    refine w_bipush dX12_votesFor_11 rfl ?_
    refine w_ialdE (v := gg 5 0 3) dX12_votesFor_13 rfl (by decide) (by omega) (by omega) R.2.2.2.2.2.2.1 ?_
    refine w_icmp_ge 93 dX12_votesFor_14 (by decide) (by omega) (by omega) (fun c14 => ?_) (fun c14 => ?_)
    · have ec5 : (gg 5 0 3).toNat = c := by omega
      subst ec5
      refine w_iload_n dX12_votesFor_93 rfl ?_
      exact w_iret dX12_votesFor_94 rfl (k _ hA5)
    · refine w_aload_n dX12_votesFor_17 rfl ?_
      refine w_getr 42 0 dX12_votesFor_18 fl_X12_34 rfl (by decide) ?_
      refine w_iload_n dX12_votesFor_21 rfl ?_
      refine w_dup2 dX12_votesFor_22 rfl rfl ?_
      refine w_ialdE (v := (gg 17 0) x) dX12_votesFor_23 rfl (by decide) (by omega) (by omega) (hA5 _ (by omega)) ?_
      refine w_iconst dX12_votesFor_24 ?_
      refine w_isub dX12_votesFor_25 ?_
      refine w_iast dX12_votesFor_26 rfl (by decide) (by omega) (by omega) ?_
      rw [show (fwUp (fwUc h 42 0 A5) 42 0 ((x : Int)).toNat (((gg 17 0) x) - 1)) = (fwUc h 42 0 (fwFu A5 x (((gg 17 0) x) - 1))) from by rw [fwUp_fu]; rw [fwUc_uc]; rfl]
      have hA26 := hiR_fu hA5 x (((gg 17 0) x) - 1)
      have hb26 : hB (fwFu (gg 17 0) x (((gg 17 0) x) - 1)) := hB_fu hb17 (by omega)
      refine w_aload_n dX12_votesFor_27 rfl ?_
      refine w_iload dX12_votesFor_28 rfl ?_
      refine w_callV (d := d + 4) (S := []) [aI (c : Int)] dX12_votesFor_30 ml_X12_232 ok_X12_gainOf vi_X12_gainOf rfl rfl (by decide) rfl (Nat.le_of_ble_eq_true rfl) ?_
      refine c_X12_gainOf (d := d) c (fwFu (gg 17 0) x (((gg 17 0) x) - 1)) J R hA26 hb26 (show 1 ≤ gg 4 0 1 by omega) (show (c : Int) < gg 5 0 3 by omega) ?_
      show fwWP mX12_votesFor (d + 5) 33 [some (aR 12 0), some (aI (x : Int)), some (aI (y : Int)), some (aI (mBits (mVoB gg x y) c)), some (aI (c : Int)), none] [aI (mGain (gg 4 0 1) (fwFu (gg 17 0) x (((gg 17 0) x) - 1)) (gg 4 0 2) (gg 18 0) c)] (fwUc h 42 0 (fwFu A5 x (((gg 17 0) x) - 1))) Q
      have hgr2 := mGain_r2 J hb26 c (by omega)
      refine w_istore [some (aR 12 0), some (aI (x : Int)), some (aI (y : Int)), some (aI (mBits (mVoB gg x y) c)), some (aI (c : Int)), some (aI (mGain (gg 4 0 1) (fwFu (gg 17 0) x (((gg 17 0) x) - 1)) (gg 4 0 2) (gg 18 0) c))] dX12_votesFor_33 rfl (by decide) ?_
      refine w_aload_n dX12_votesFor_35 rfl ?_
      refine w_getr 42 0 dX12_votesFor_36 fl_X12_34 rfl (by decide) ?_
      refine w_iload_n dX12_votesFor_39 rfl ?_
      refine w_dup2 dX12_votesFor_40 rfl rfl ?_
      refine w_ialdE (v := (fwFu (gg 17 0) x (((gg 17 0) x) - 1)) x) dX12_votesFor_41 rfl (by decide) (by omega) (by omega) (hA26 _ (by omega)) ?_
      refine w_iconst dX12_votesFor_42 ?_
      refine w_iadd dX12_votesFor_43 ?_
      refine w_iast dX12_votesFor_44 rfl (by decide) (by omega) (by omega) ?_
      rw [show (fwUp (fwUc h 42 0 (fwFu A5 x (((gg 17 0) x) - 1))) 42 0 ((x : Int)).toNat (((fwFu (gg 17 0) x (((gg 17 0) x) - 1)) x) + 1)) = (fwUc h 42 0 (fwFu (fwFu A5 x (((gg 17 0) x) - 1)) x (((fwFu (gg 17 0) x (((gg 17 0) x) - 1)) x) + 1))) from by rw [fwUp_fu]; rw [fwUc_uc]; rfl]
      have hA44 := hiR_fu hA26 x (((fwFu (gg 17 0) x (((gg 17 0) x) - 1)) x) + 1)
      rw [fwFu_mp] at hA44
      refine w_aload_n dX12_votesFor_45 rfl ?_
      refine w_getr 42 0 dX12_votesFor_46 fl_X12_34 rfl (by decide) ?_
      refine w_iload_n dX12_votesFor_49 rfl ?_
      refine w_dup2 dX12_votesFor_50 rfl rfl ?_
      refine w_ialdE (v := (gg 17 0) y) dX12_votesFor_51 rfl (by decide) (by omega) (by omega) (hA44 _ (by omega)) ?_
      refine w_iconst dX12_votesFor_52 ?_
      refine w_isub dX12_votesFor_53 ?_
      refine w_iast dX12_votesFor_54 rfl (by decide) (by omega) (by omega) ?_
      rw [show (fwUp (fwUc h 42 0 (fwFu (fwFu A5 x (((gg 17 0) x) - 1)) x (((fwFu (gg 17 0) x (((gg 17 0) x) - 1)) x) + 1))) 42 0 ((y : Int)).toNat (((gg 17 0) y) - 1)) = (fwUc h 42 0 (fwFu (fwFu (fwFu A5 x (((gg 17 0) x) - 1)) x (((fwFu (gg 17 0) x (((gg 17 0) x) - 1)) x) + 1)) y (((gg 17 0) y) - 1))) from by rw [fwUp_fu]; rw [fwUc_uc]; rfl]
      have hA54 := hiR_fu hA44 y (((gg 17 0) y) - 1)
      have hb54 : hB (fwFu (gg 17 0) y (((gg 17 0) y) - 1)) := hB_fu hb17 (by omega)
      refine w_iload_n dX12_votesFor_55 rfl ?_
      refine w_iload dX12_votesFor_56 rfl ?_
      refine w_aload_n dX12_votesFor_58 rfl ?_
      refine w_iload dX12_votesFor_59 rfl ?_
      refine w_callV (d := d + 4) (S := [aI (mGain (gg 4 0 1) (fwFu (gg 17 0) x (((gg 17 0) x) - 1)) (gg 4 0 2) (gg 18 0) c), aI (mBits (mVoB gg x y) c)]) [aI (c : Int)] dX12_votesFor_61 ml_X12_232 ok_X12_gainOf vi_X12_gainOf rfl rfl (by decide) rfl (Nat.le_of_ble_eq_true rfl) ?_
      refine c_X12_gainOf (d := d) c (fwFu (gg 17 0) y (((gg 17 0) y) - 1)) J R hA54 hb54 (show 1 ≤ gg 4 0 1 by omega) (show (c : Int) < gg 5 0 3 by omega) ?_
      show fwWP mX12_votesFor (d + 5) 64 [some (aR 12 0), some (aI (x : Int)), some (aI (y : Int)), some (aI (mBits (mVoB gg x y) c)), some (aI (c : Int)), some (aI (mGain (gg 4 0 1) (fwFu (gg 17 0) x (((gg 17 0) x) - 1)) (gg 4 0 2) (gg 18 0) c))] [aI (mGain (gg 4 0 1) (fwFu (gg 17 0) y (((gg 17 0) y) - 1)) (gg 4 0 2) (gg 18 0) c), aI (mGain (gg 4 0 1) (fwFu (gg 17 0) x (((gg 17 0) x) - 1)) (gg 4 0 2) (gg 18 0) c), aI (mBits (mVoB gg x y) c)] (fwUc h 42 0 (fwFu (fwFu (fwFu A5 x (((gg 17 0) x) - 1)) x (((fwFu (gg 17 0) x (((gg 17 0) x) - 1)) x) + 1)) y (((gg 17 0) y) - 1))) Q
      have hgr3 := mGain_r2 J hb54 c (by omega)
      refine w_icmp_le 74 dX12_votesFor_64 (by decide) (by omega) (by omega) (fun c64 => ?_) (fun c64 => ?_)
      · refine w_iconst dX12_votesFor_74 ?_
        refine w_ior dX12_votesFor_75 ?_
        refine w_istore_n [some (aR 12 0), some (aI (x : Int)), some (aI (y : Int)), some (aI (fwOr (mBits (mVoB gg x y) c) 0)), some (aI (c : Int)), some (aI (mGain (gg 4 0 1) (fwFu (gg 17 0) x (((gg 17 0) x) - 1)) (gg 4 0 2) (gg 18 0) c))] dX12_votesFor_76 rfl (by decide) ?_
        refine w_aload_n dX12_votesFor_77 rfl ?_
        refine w_getr 42 0 dX12_votesFor_78 fl_X12_34 rfl (by decide) ?_
        refine w_iload_n dX12_votesFor_81 rfl ?_
        refine w_dup2 dX12_votesFor_82 rfl rfl ?_
        refine w_ialdE (v := (fwFu (gg 17 0) y (((gg 17 0) y) - 1)) y) dX12_votesFor_83 rfl (by decide) (by omega) (by omega) (hA54 _ (by omega)) ?_
        refine w_iconst dX12_votesFor_84 ?_
        refine w_iadd dX12_votesFor_85 ?_
        refine w_iast dX12_votesFor_86 rfl (by decide) (by omega) (by omega) ?_
        rw [show (fwUp (fwUc h 42 0 (fwFu (fwFu (fwFu A5 x (((gg 17 0) x) - 1)) x (((fwFu (gg 17 0) x (((gg 17 0) x) - 1)) x) + 1)) y (((gg 17 0) y) - 1))) 42 0 ((y : Int)).toNat (((fwFu (gg 17 0) y (((gg 17 0) y) - 1)) y) + 1)) = (fwUc h 42 0 (fwFu (fwFu (fwFu (fwFu A5 x (((gg 17 0) x) - 1)) x (((fwFu (gg 17 0) x (((gg 17 0) x) - 1)) x) + 1)) y (((gg 17 0) y) - 1)) y (((fwFu (gg 17 0) y (((gg 17 0) y) - 1)) y) + 1))) from by rw [fwUp_fu]; rw [fwUc_uc]; rfl]
        have hA86 := hiR_fu hA54 y (((fwFu (gg 17 0) y (((gg 17 0) y) - 1)) y) + 1)
        rw [fwFu_mp] at hA86
        refine w_iinc [some (aR 12 0), some (aI (x : Int)), some (aI (y : Int)), some (aI (fwOr (mBits (mVoB gg x y) c) 0)), some (aI ((c : Int) + 1)), some (aI (mGain (gg 4 0 1) (fwFu (gg 17 0) x (((gg 17 0) x) - 1)) (gg 4 0 2) (gg 18 0) c))] dX12_votesFor_87 rfl rfl (by decide) ?_
        refine w_goto 5 dX12_votesFor_90 (by decide) ?_
        refine w_drop [5] [some (aR 12 0), some (aI (x : Int)), some (aI (y : Int)), some (aI (fwOr (mBits (mVoB gg x y) c) 0)), some (aI ((c : Int) + 1)), none] rfl ?_
        refine ih5 (by omega) _ _ _ ?_ ?_ ?_
        · exact (by omega)
        · exact (by rw [mBits, if_neg (by unfold mVoB mGn; rw [decide_eq_true_eq, ← Int.sub_eq_add_neg, ← Int.sub_eq_add_neg]; omega), fwOr_0 (mBits_rng _ _)])
        · exact hA86
      · refine w_iconst dX12_votesFor_67 ?_
        refine w_iload dX12_votesFor_68 rfl ?_
        refine w_ishl dX12_votesFor_70 ?_
        refine w_goto 75 dX12_votesFor_71 (by decide) ?_
        refine w_ior dX12_votesFor_75 ?_
        refine w_istore_n [some (aR 12 0), some (aI (x : Int)), some (aI (y : Int)), some (aI (fwOr (mBits (mVoB gg x y) c) (fwShl 1 (c : Int)))), some (aI (c : Int)), some (aI (mGain (gg 4 0 1) (fwFu (gg 17 0) x (((gg 17 0) x) - 1)) (gg 4 0 2) (gg 18 0) c))] dX12_votesFor_76 rfl (by decide) ?_
        refine w_aload_n dX12_votesFor_77 rfl ?_
        refine w_getr 42 0 dX12_votesFor_78 fl_X12_34 rfl (by decide) ?_
        refine w_iload_n dX12_votesFor_81 rfl ?_
        refine w_dup2 dX12_votesFor_82 rfl rfl ?_
        refine w_ialdE (v := (fwFu (gg 17 0) y (((gg 17 0) y) - 1)) y) dX12_votesFor_83 rfl (by decide) (by omega) (by omega) (hA54 _ (by omega)) ?_
        refine w_iconst dX12_votesFor_84 ?_
        refine w_iadd dX12_votesFor_85 ?_
        refine w_iast dX12_votesFor_86 rfl (by decide) (by omega) (by omega) ?_
        rw [show (fwUp (fwUc h 42 0 (fwFu (fwFu (fwFu A5 x (((gg 17 0) x) - 1)) x (((fwFu (gg 17 0) x (((gg 17 0) x) - 1)) x) + 1)) y (((gg 17 0) y) - 1))) 42 0 ((y : Int)).toNat (((fwFu (gg 17 0) y (((gg 17 0) y) - 1)) y) + 1)) = (fwUc h 42 0 (fwFu (fwFu (fwFu (fwFu A5 x (((gg 17 0) x) - 1)) x (((fwFu (gg 17 0) x (((gg 17 0) x) - 1)) x) + 1)) y (((gg 17 0) y) - 1)) y (((fwFu (gg 17 0) y (((gg 17 0) y) - 1)) y) + 1))) from by rw [fwUp_fu]; rw [fwUc_uc]; rfl]
        have hA86 := hiR_fu hA54 y (((fwFu (gg 17 0) y (((gg 17 0) y) - 1)) y) + 1)
        rw [fwFu_mp] at hA86
        refine w_iinc [some (aR 12 0), some (aI (x : Int)), some (aI (y : Int)), some (aI (fwOr (mBits (mVoB gg x y) c) (fwShl 1 (c : Int)))), some (aI ((c : Int) + 1)), some (aI (mGain (gg 4 0 1) (fwFu (gg 17 0) x (((gg 17 0) x) - 1)) (gg 4 0 2) (gg 18 0) c))] dX12_votesFor_87 rfl rfl (by decide) ?_
        refine w_goto 5 dX12_votesFor_90 (by decide) ?_
        refine w_drop [5] [some (aR 12 0), some (aI (x : Int)), some (aI (y : Int)), some (aI (fwOr (mBits (mVoB gg x y) c) (fwShl 1 (c : Int)))), some (aI ((c : Int) + 1)), none] rfl ?_
        refine ih5 (by omega) _ _ _ ?_ ?_ ?_
        · exact (by omega)
        · exact (by rw [mBits, if_pos (show mVoB gg x y c = true from decide_eq_true (by unfold mGn; rw [← Int.sub_eq_add_neg, ← Int.sub_eq_add_neg]; omega))])
        · exact hA86
  have z5 := lp5 0 (Nat.zero_le _) _ _ (h 42 0) (by exact (show 0 = ((0 : Nat) : Int) by omega)) (by exact (show 0 = mBits (mVoB gg x y) 0 from rfl)) hH
  rw [fwUc_self] at z5
  exact z5
set_option maxRecDepth 100000 in
set_option maxHeartbeats 4000000 in
theorem c_X12_votes {d : Nat} {h gg : fwH} {Q : Option fwV → fwH → Prop} (x : Int) (y : Int) (J : cOk gg) (R : jF gg h) (K : jA gg h) (hsh : sc h) (hx : -2147483648 ≤ x ∧ x < 2147483648) (hy : -2147483648 ≤ y ∧ y < 2147483648) (k : ∀ g, scr h g → Q (some (aI (an_votes gg x y))) g) : fwCt mX12_votes (d + 6) [aR 12 0, aI x, aI y] h Q := by
  refine fwCt_of [some (aR 12 0), some (aI x), some (aI y)] rfl rfl rfl ?_
  obtain ⟨hl, hP, hG, hM0, htd, hut, hlw, hhc, ha, hs, hT, hsc⟩ := id J
  have hb17 : hB (gg 17 0) := fun c hc => by have := hM0 c hc; omega
  obtain ⟨⟨g1, g2⟩, ⟨g3, g4⟩, ⟨g5, g6⟩, g7, -⟩ := id hG
  have h17_99 : ∀ c : Nat, (c : Int) < gg 4 0 1 → gg 17 0 c ≤ 99 := fun c hc => (hM0 c (by omega)).2
  have hpz := hP.1
  have hrs1 := R.2.2.2.2.2.2.2.2.2.2.2
  refine w_aload_n dX12_votes_0 rfl ?_
  refine w_iload_n dX12_votes_1 rfl ?_
  refine w_i2l dX12_votes_2 (by omega) ?_
  refine w_callV (d := d + 5) (S := []) [aJ x] dX12_votes_3 ml_X12_203 ok_X12_isCell vi_X12_isCell rfl rfl (by decide) rfl (Nat.le_of_ble_eq_true rfl) ?_
  refine c_X12_isCell (d := (d + 4)) x J R (by omega) ?_
  show fwWP mX12_votes (d + 6) 6 [some (aR 12 0), some (aI x), some (aI y)] [aI (fwB (0 ≤ x ∧ x ≤ gg 4 0 1 - 1))] h Q
  refine w_ifB_eq 18 dX12_votes_6 (by decide) (fun c6 => ?_) (fun c6 => ?_)
  · refine w_bipush dX12_votes_18 rfl ?_
    exact w_iretE dX12_votes_20 rfl (by unfold an_votes; rw [if_pos (by by_cases q0 : 0 ≤ x ∧ x < gg 4 0 1; (right; unfold hOf; rw [if_neg (by omega)]); (left; unfold hOf; rw [if_neg q0]))]) (k _ (scr_rf hsh))
  · refine w_aload_n dX12_votes_9 rfl ?_
    refine w_iload_n dX12_votes_10 rfl ?_
    refine w_i2l dX12_votes_11 (by omega) ?_
    refine w_callV (d := d + 5) (S := []) [aJ y] dX12_votes_12 ml_X12_203 ok_X12_isCell vi_X12_isCell rfl rfl (by decide) rfl (Nat.le_of_ble_eq_true rfl) ?_
    refine c_X12_isCell (d := (d + 4)) y J R (by omega) ?_
    show fwWP mX12_votes (d + 6) 15 [some (aR 12 0), some (aI x), some (aI y)] [aI (fwB (0 ≤ y ∧ y ≤ gg 4 0 1 - 1))] h Q
    refine w_ifB_ne 21 dX12_votes_15 (by decide) (fun c15 => ?_) (fun c15 => ?_)
    · obtain ⟨f, rfl⟩ : ∃ f : Nat, x = (f : Int) := ⟨x.toNat, by omega⟩
      obtain ⟨u, rfl⟩ : ∃ u : Nat, y = (u : Int) := ⟨y.toNat, by omega⟩
      have hbf := hM0 f (by omega)
      have hbu := hM0 u (by omega)
      have ho1 : hOf (gg 4 0 1) (gg 17 0) (f : Int) = gg 17 0 f := hOf_p (by omega)
      have ho2 : hOf (gg 4 0 1) (gg 17 0) (u : Int) = gg 17 0 u := hOf_p (by omega)
      refine w_aload_n dX12_votes_21 rfl ?_
      refine w_callV (d := d + 5) (S := []) [] dX12_votes_22 ml_X12_240 ok_X12_asItIs vi_X12_asItIs rfl rfl (by decide) rfl (Nat.le_of_ble_eq_true rfl) ?_
      refine c_X12_asItIs (d := d) J R K (show 1 ≤ gg 4 0 1 by omega) (show 1 ≤ gg 4 0 3 by omega) ?_
      intro A22_3 hA22_3
      show fwWP mX12_votes (d + 6) 25 [some (aR 12 0), some (aI (f : Int)), some (aI (u : Int))] [] (fwUc h 42 0 A22_3) Q
      refine w_aload_n dX12_votes_25 rfl ?_
      refine w_getr 42 0 dX12_votes_26 fl_X12_34 rfl (by decide) ?_
      refine w_iload_n dX12_votes_29 rfl ?_
      refine w_ialdE (v := (gg 17 0) f) dX12_votes_30 rfl (by decide) (by omega) (by omega) (hA22_3 _ (by omega)) ?_
      refine w_if_eq 43 dX12_votes_31 (by decide) (by omega) (fun c31 => ?_) (fun c31 => ?_)
      · refine w_bipush dX12_votes_43 rfl ?_
        refine w_goto 54 dX12_votes_45 (by decide) ?_
        exact w_iretE dX12_votes_54 rfl (by unfold an_votes; first | (rw [if_pos (by omega)]; done) | (rw [if_neg (by omega)]; rfl)) (k _ (scr_uc (scr_rf hsh) rfl (by decide) (by decide) (by decide)))
      · refine w_aload_n dX12_votes_34 rfl ?_
        refine w_getr 42 0 dX12_votes_35 fl_X12_34 rfl (by decide) ?_
        refine w_iload_n dX12_votes_38 rfl ?_
        refine w_ialdE (v := (gg 17 0) u) dX12_votes_39 rfl (by decide) (by omega) (by omega) (hA22_3 _ (by omega)) ?_
        refine w_if_ne 48 dX12_votes_40 (by decide) (by omega) (fun c40 => ?_) (fun c40 => ?_)
        · refine w_aload_n dX12_votes_48 rfl ?_
          refine w_iload_n dX12_votes_49 rfl ?_
          refine w_iload_n dX12_votes_50 rfl ?_
          refine w_callV (d := d + 5) (S := []) [aI (f : Int), aI (u : Int)] dX12_votes_51 ml_X12_332 ok_X12_votesFor vi_X12_votesFor rfl rfl (by decide) rfl (Nat.le_of_ble_eq_true rfl) ?_
          refine c_X12_votesFor (d := d) f u J R hA22_3 (show (f : Int) < gg 4 0 1 by omega) (show (u : Int) < gg 4 0 1 by omega) (show 0 < gg 17 0 f by omega) (show 0 < gg 17 0 u by omega) ?_
          intro A51_6 hA51_6
          show fwWP mX12_votes (d + 6) 54 [some (aR 12 0), some (aI (f : Int)), some (aI (u : Int))] [aI (mVo gg f u)] (fwUc (fwUc h 42 0 A22_3) 42 0 A51_6) Q
          rw [show (fwUc (fwUc h 42 0 A22_3) 42 0 A51_6) = (fwUc h 42 0 A51_6) from by funext a b; simp only [fwUc]; (repeat' split); all_goals first | rfl | (exfalso; omega)]
          exact w_iretE dX12_votes_54 rfl (by unfold an_votes; first | (rw [if_pos (by omega)]; done) | (rw [if_neg (by omega)]; rfl)) (k _ (scr_uc (scr_rf hsh) rfl (by decide) (by decide) (by decide)))
        · refine w_bipush dX12_votes_43 rfl ?_
          refine w_goto 54 dX12_votes_45 (by decide) ?_
          exact w_iretE dX12_votes_54 rfl (by unfold an_votes; first | (rw [if_pos (by omega)]; done) | (rw [if_neg (by omega)]; rfl)) (k _ (scr_uc (scr_rf hsh) rfl (by decide) (by decide) (by decide)))
    · refine w_bipush dX12_votes_18 rfl ?_
      exact w_iretE dX12_votes_20 rfl (by unfold an_votes; rw [if_pos (by by_cases q0 : 0 ≤ x ∧ x < gg 4 0 1; (right; unfold hOf; rw [if_neg (by omega)]); (left; unfold hOf; rw [if_neg q0]))]) (k _ (scr_rf hsh))
end

/-! FootLower$Petition, but the play -/
def mWil (h : fwH) (g : Nat) : Int := mGers (h 4 g 1) (h 17 g) (h 4 g 2) (h 4 g 4) (h 18 0) (h 5 0 3).toNat (-1)
theorem c_willing0 {d : Nat} {h : fwH} {Q : Option fwV → fwH → Prop} (hP : pOk h 0) (hG : gOk h 0) (hn : 1 ≤ h 4 0 1) (hM : ∀ c : Nat, c < 10 → h 17 0 c ≤ 999) (k : ∀ A B, Q (some (aI (mWil h 0))) (fwUc (fwUc h 19 0 A) 20 0 B)) : fwCt mX3_gainersBy (d + 3) [aR 5 0, aR 4 0, aI (-1)] h Q := c_X3_gainersBy0 (-1) hP hG hn hM (Or.inr rfl) k
theorem c_willing5 {d : Nat} {h : fwH} {Q : Option fwV → fwH → Prop} (hP : pOk h 0) (hG : gOk h 5) (hn : 1 ≤ h 4 5 1) (hM : ∀ c : Nat, c < 10 → h 17 5 c ≤ 999) (k : ∀ A B, Q (some (aI (mWil h 5))) (fwUc (fwUc h 19 0 A) 20 0 B)) : fwCt mX3_gainersBy (d + 3) [aR 5 0, aR 4 5, aI (-1)] h Q := c_X3_gainersBy5 (-1) hP hG hn hM (Or.inr rfl) k
set_option maxRecDepth 100000 in
set_option maxHeartbeats 4000000 in
theorem c_X4_signersOfWon {d : Nat} {h : fwH} {Q : Option fwV → fwH → Prop} (x : Int) (hP : pOk h 0) (hG : gOk h 0) (hn : 1 ≤ h 4 0 1) (hM : ∀ c : Nat, c < 10 → h 17 0 c ≤ 999) (k : ∀ A B, Q (some (aI (mSign (h 18 0) (h 5 0 3).toNat (fwOr (mWil h 0) x) 0))) (fwUc (fwUc h 19 0 A) 20 0 B)) : fwCt mX4_signersOfWon (d + 4) [aR 6 0, aI x] h Q := by
  refine fwCt_of [some (aR 6 0), some (aI x)] rfl rfl rfl ?_
  refine w_aload_n dX4_signersOfWon_0 rfl ?_
  refine w_getr 3 0 dX4_signersOfWon_1 fl_X4_15 rfl (by decide) ?_
  refine w_getr 5 0 dX4_signersOfWon_4 fl_X4_19 rfl (by decide) ?_
  refine w_aload_n dX4_signersOfWon_7 rfl ?_
  refine w_getr 3 0 dX4_signersOfWon_8 fl_X4_15 rfl (by decide) ?_
  refine w_getr 5 0 dX4_signersOfWon_11 fl_X4_19 rfl (by decide) ?_
  refine w_aload_n dX4_signersOfWon_14 rfl ?_
  refine w_getr 3 0 dX4_signersOfWon_15 fl_X4_15 rfl (by decide) ?_
  refine w_getr 4 0 dX4_signersOfWon_18 fl_X4_25 rfl (by decide) ?_
  refine w_iconst dX4_signersOfWon_21 ?_
  refine w_callV (d := d + 3) (S := [aR 5 0]) [aR 4 0, aI (-1)] dX4_signersOfWon_22 ml_X4_29 ok_X3_gainersBy vi_X3_gainersBy rfl rfl (by decide) rfl (Nat.le_of_ble_eq_true rfl) ?_
  refine c_willing0 (d := d) (by first | assumption | omega | decide) (by first | assumption | omega | decide) (show 1 ≤ (h 4 0 1) by first | assumption | omega | decide) (by first | assumption | omega | decide) ?_
  intro A1 B2
  show fwWP mX4_signersOfWon (d + 4) 25 [some (aR 6 0), some (aI x)] [aI (mWil h 0), aR 5 0] (fwUc (fwUc h 19 0 A1) 20 0 B2) Q
  refine w_iload_n dX4_signersOfWon_25 rfl ?_
  refine w_ior dX4_signersOfWon_26 ?_
  refine w_iconst dX4_signersOfWon_27 ?_
  refine w_callV (d := d + 3) (S := []) [aI (fwOr (mWil h 0) x), aI 0] dX4_signersOfWon_28 ml_X4_35 ok_X3_signersOf vi_X3_signersOf rfl rfl (by decide) rfl (Nat.le_of_ble_eq_true rfl) ?_
  refine c_X3_signersOf (d := (d + 2)) 0 (fwOr (mWil h 0) x) 0 (by decide) (by first | assumption | omega | decide) ?_
  show fwWP mX4_signersOfWon (d + 4) 31 [some (aR 6 0), some (aI x)] [aI (mSign (h 18 0) (h 5 0 3).toNat (fwOr (mWil h 0) x) 0)] (fwUc (fwUc h 19 0 A1) 20 0 B2) Q
  exact w_iret dX4_signersOfWon_31 rfl (k _ _)
def mFew (E : Int → Bool) : Nat → Int × Int
  | 0 => (-1, 9)
  | s + 1 => if fwPop (s : Int) < (mFew E s).2 ∧ E (s : Int) = true then ((s : Int), fwPop (s : Int)) else mFew E s
theorem mFew_rng (E : Int → Bool) : ∀ s, 0 ≤ (mFew E s).2 ∧ (mFew E s).2 < 64 := by
  intro s
  induction s with
  | zero => simp [mFew]
  | succ s ih =>
    rw [mFew]
    split
    · exact fwPop_rng _
    · exact ih
/-- is it ENOUGH, with a set won -/
def mEnoB (h : fwH) (x : Int) : Bool := decide (mEno (h 18 0) (h 5 0 3).toNat (h 3 0 4) (fwOr (mWil h 0) x) 0)
set_option maxRecDepth 100000 in
set_option maxHeartbeats 4000000 in
theorem c_X4_fewestSet {d : Nat} {h : fwH} {Q : Option fwV → fwH → Prop}  (hP : pOk h 0) (hG : gOk h 0) (hn : 1 ≤ h 4 0 1) (hM : ∀ c : Nat, c < 10 → h 17 0 c ≤ 999) (hlw : 0 ≤ h 3 0 4 ∧ h 3 0 4 ≤ 999) (k : ∀ A B, Q (some (aI ((mFew (mEnoB h) (fwShl 1 (h 5 0 3)).toNat).1))) (fwUc (fwUc h 19 0 A) 20 0 B)) : fwCt mX4_fewestSet (d + 4) [aR 6 0] h Q := by
  refine fwCt_of [some (aR 6 0), none, none, none, none, none] rfl rfl rfl ?_
  refine w_aload_n dX4_fewestSet_0 rfl ?_
  refine w_getr 3 0 dX4_fewestSet_1 fl_X4_15 rfl (by decide) ?_
  refine w_getr 5 0 dX4_fewestSet_4 fl_X4_19 rfl (by decide) ?_
  refine w_aload_n dX4_fewestSet_7 rfl ?_
  refine w_getr 3 0 dX4_fewestSet_8 fl_X4_15 rfl (by decide) ?_
  refine w_getr 4 0 dX4_fewestSet_11 fl_X4_25 rfl (by decide) ?_
  refine w_iconst dX4_fewestSet_14 ?_
  refine w_callV (d := d + 3) (S := []) [aR 4 0, aI (-1)] dX4_fewestSet_15 ml_X4_29 ok_X3_gainersBy vi_X3_gainersBy rfl rfl (by decide) rfl (Nat.le_of_ble_eq_true rfl) ?_
  refine c_willing0 (d := d) (by first | assumption | omega | decide) (by first | assumption | omega | decide) (show 1 ≤ (h 4 0 1) by first | assumption | omega | decide) (by first | assumption | omega | decide) ?_
  intro A1 B2
  show fwWP mX4_fewestSet (d + 4) 18 [some (aR 6 0), none, none, none, none, none] [aI (mWil h 0)] (fwUc (fwUc h 19 0 A1) 20 0 B2) Q
  refine w_istore_n [some (aR 6 0), some (aI (mWil h 0)), none, none, none, none] dX4_fewestSet_18 rfl (by decide) ?_
  refine w_iconst dX4_fewestSet_19 ?_
  refine w_istore_n [some (aR 6 0), some (aI (mWil h 0)), some (aI (-1)), none, none, none] dX4_fewestSet_20 rfl (by decide) ?_
  refine w_bipush dX4_fewestSet_21 rfl ?_
  refine w_istore_n [some (aR 6 0), some (aI (mWil h 0)), some (aI (-1)), some (aI 9), none, none] dX4_fewestSet_23 rfl (by decide) ?_
  have hsh := fwShl1_rng (x := h 5 0 3) (by have := hP.1; omega)
  refine w_iconst dX4_fewestSet_24 ?_
  refine w_istore [some (aR 6 0), some (aI (mWil h 0)), some (aI (-1)), some (aI 9), some (aI 0), none] dX4_fewestSet_25 rfl (by decide) ?_
  have lp27 : ∀ c : Nat, c ≤ (fwShl 1 (h 5 0 3)).toNat → ∀ (y27 fo fe : Int), y27 = (c : Int) → fo = (mFew (mEnoB h) c).1 → fe = (mFew (mEnoB h) c).2 → fwWP mX4_fewestSet (d + 4) 27 [some (aR 6 0), some (aI (mWil h 0)), some (aI fo), some (aI fe), some (aI y27), none] [] (fwUc (fwUc h 19 0 A1) 20 0 B2) Q := by
    refine fw_up (fun c hc27 ih27 => ?_)
    intro y27 fo fe ey27 e_fo e_fe
    subst ey27
    subst e_fo
    subst e_fe
    have hfr := mFew_rng (mEnoB h) c
    show fwWP mX4_fewestSet (d + 4) 27 [some (aR 6 0), some (aI (mWil h 0)), some (aI ((mFew (mEnoB h) c).1)), some (aI ((mFew (mEnoB h) c).2)), some (aI (c : Int)), none] [] (fwUc (fwUc h 19 0 A1) 20 0 B2) Q
    refine w_iload dX4_fewestSet_27 rfl ?_
    refine w_iconst dX4_fewestSet_29 ?_
    refine w_aload_n dX4_fewestSet_30 rfl ?_
    refine w_getr 3 0 dX4_fewestSet_31 fl_X4_15 rfl (by decide) ?_
    refine w_getr 5 0 dX4_fewestSet_34 fl_X4_19 rfl (by decide) ?_
    refine w_getiE (v := h 5 0 3) dX4_fewestSet_37 fl_X4_39 rfl (by decide) (by first | rfl | simp [fwUp, fwUc]) ?_
    refine w_ishl dX4_fewestSet_40 ?_
    refine w_icmp_ge 84 dX4_fewestSet_41 (by decide) (by omega) (by omega) (fun c41 => ?_) (fun c41 => ?_)
    · have ec27 : (fwShl 1 (h 5 0 3)).toNat = c := by omega
      subst ec27
      refine w_iload_n dX4_fewestSet_84 rfl ?_
      exact w_iret dX4_fewestSet_85 rfl (k _ _)
    · refine w_iload dX4_fewestSet_44 rfl ?_
      refine w_callS (d := d + 3) (S := []) [aI (c : Int)] dX4_fewestSet_46 ml_X4_43 ok_J6_bitCount_0f7a4 st_J6_bitCount_0f7a4 rfl (Nat.le_of_ble_eq_true rfl) ?_
      refine c_bitCount (d := (d + 3)) (c : Int) ?_
      show fwWP mX4_fewestSet (d + 4) 49 [some (aR 6 0), some (aI (mWil h 0)), some (aI ((mFew (mEnoB h) c).1)), some (aI ((mFew (mEnoB h) c).2)), some (aI (c : Int)), none] [aI (fwPop (c : Int))] (fwUc (fwUc h 19 0 A1) 20 0 B2) Q
      have hpp := fwPop_rng (c : Int)
      refine w_istore [some (aR 6 0), some (aI (mWil h 0)), some (aI ((mFew (mEnoB h) c).1)), some (aI ((mFew (mEnoB h) c).2)), some (aI (c : Int)), some (aI (fwPop (c : Int)))] dX4_fewestSet_49 rfl (by decide) ?_
      refine w_iload dX4_fewestSet_51 rfl ?_
      refine w_iload_n dX4_fewestSet_53 rfl ?_
      refine w_icmp_ge 78 dX4_fewestSet_54 (by decide) (by omega) (by omega) (fun c54 => ?_) (fun c54 => ?_)
      · refine w_iinc [some (aR 6 0), some (aI (mWil h 0)), some (aI ((mFew (mEnoB h) c).1)), some (aI ((mFew (mEnoB h) c).2)), some (aI ((c : Int) + 1)), some (aI (fwPop (c : Int)))] dX4_fewestSet_78 rfl rfl (by decide) ?_
        refine w_goto 27 dX4_fewestSet_81 (by decide) ?_
        refine w_drop [5] [some (aR 6 0), some (aI (mWil h 0)), some (aI ((mFew (mEnoB h) c).1)), some (aI ((mFew (mEnoB h) c).2)), some (aI ((c : Int) + 1)), none] rfl ?_
        refine ih27 (by omega) _ _ _ ?_ ?_ ?_
        · exact (by omega)
        · exact (by rw [mFew]; first | rw [if_pos (by exact ⟨by omega, decide_eq_true ce⟩)] | rw [if_neg (by intro q; first | omega | exact ce (of_decide_eq_true q.2))])
        · exact (by rw [mFew]; first | rw [if_pos (by exact ⟨by omega, decide_eq_true ce⟩)] | rw [if_neg (by intro q; first | omega | exact ce (of_decide_eq_true q.2))])
      · refine w_aload_n dX4_fewestSet_57 rfl ?_
        refine w_getr 3 0 dX4_fewestSet_58 fl_X4_15 rfl (by decide) ?_
        refine w_iload_n dX4_fewestSet_61 rfl ?_
        refine w_iload dX4_fewestSet_62 rfl ?_
        refine w_ior dX4_fewestSet_64 ?_
        refine w_iconst dX4_fewestSet_65 ?_
        refine w_callV (d := d + 3) (S := []) [aI (fwOr (mWil h 0) (c : Int)), aI 0] dX4_fewestSet_66 ml_X4_49 ok_X2_isEnough vi_X2_isEnough rfl rfl (by decide) rfl (Nat.le_of_ble_eq_true rfl) ?_
        refine c_X2_isEnough (d := (d + 1)) (fwOr (mWil h 0) (c : Int)) 0 (by first | assumption | omega | decide) (by first | assumption | omega | decide) ?_
        show fwWP mX4_fewestSet (d + 4) 69 [some (aR 6 0), some (aI (mWil h 0)), some (aI ((mFew (mEnoB h) c).1)), some (aI ((mFew (mEnoB h) c).2)), some (aI (c : Int)), some (aI (fwPop (c : Int)))] [aI (fwB (mEno (h 18 0) (h 5 0 3).toNat (h 3 0 4) (fwOr (mWil h 0) (c : Int)) 0))] (fwUc (fwUc h 19 0 A1) 20 0 B2) Q
        refine w_ifB_eq 78 dX4_fewestSet_69 (by decide) (fun ce => ?_) (fun ce => ?_)
        · refine w_iinc [some (aR 6 0), some (aI (mWil h 0)), some (aI ((mFew (mEnoB h) c).1)), some (aI ((mFew (mEnoB h) c).2)), some (aI ((c : Int) + 1)), some (aI (fwPop (c : Int)))] dX4_fewestSet_78 rfl rfl (by decide) ?_
          refine w_goto 27 dX4_fewestSet_81 (by decide) ?_
          refine w_drop [5] [some (aR 6 0), some (aI (mWil h 0)), some (aI ((mFew (mEnoB h) c).1)), some (aI ((mFew (mEnoB h) c).2)), some (aI ((c : Int) + 1)), none] rfl ?_
          refine ih27 (by omega) _ _ _ ?_ ?_ ?_
          · exact (by omega)
          · exact (by rw [mFew]; first | rw [if_pos (by exact ⟨by omega, decide_eq_true ce⟩)] | rw [if_neg (by intro q; first | omega | exact ce (of_decide_eq_true q.2))])
          · exact (by rw [mFew]; first | rw [if_pos (by exact ⟨by omega, decide_eq_true ce⟩)] | rw [if_neg (by intro q; first | omega | exact ce (of_decide_eq_true q.2))])
        · refine w_iload dX4_fewestSet_72 rfl ?_
          refine w_istore_n [some (aR 6 0), some (aI (mWil h 0)), some (aI ((mFew (mEnoB h) c).1)), some (aI (fwPop (c : Int))), some (aI (c : Int)), some (aI (fwPop (c : Int)))] dX4_fewestSet_74 rfl (by decide) ?_
          refine w_iload dX4_fewestSet_75 rfl ?_
          refine w_istore_n [some (aR 6 0), some (aI (mWil h 0)), some (aI (c : Int)), some (aI (fwPop (c : Int))), some (aI (c : Int)), some (aI (fwPop (c : Int)))] dX4_fewestSet_77 rfl (by decide) ?_
          refine w_iinc [some (aR 6 0), some (aI (mWil h 0)), some (aI (c : Int)), some (aI (fwPop (c : Int))), some (aI ((c : Int) + 1)), some (aI (fwPop (c : Int)))] dX4_fewestSet_78 rfl rfl (by decide) ?_
          refine w_goto 27 dX4_fewestSet_81 (by decide) ?_
          refine w_drop [5] [some (aR 6 0), some (aI (mWil h 0)), some (aI (c : Int)), some (aI (fwPop (c : Int))), some (aI ((c : Int) + 1)), none] rfl ?_
          refine ih27 (by omega) _ _ _ ?_ ?_ ?_
          · exact (by omega)
          · exact (by rw [mFew]; first | rw [if_pos (by exact ⟨by omega, decide_eq_true ce⟩)] | rw [if_neg (by intro q; first | omega | exact ce (of_decide_eq_true q.2))])
          · exact (by rw [mFew]; first | rw [if_pos (by exact ⟨by omega, decide_eq_true ce⟩)] | rw [if_neg (by intro q; first | omega | exact ce (of_decide_eq_true q.2))])
  refine lp27 0 (Nat.zero_le _) _ _ _ ?_ ?_ ?_
  · exact (by omega)
  · exact rfl
  · exact rfl
def mBesN (h : fwH) (x : Int) (f : Nat) : Int := mNames (h 18 0) (mSign (h 18 0) (h 5 0 3).toNat (fwOr (fwOr (mWil h 0) x) (fwShl 1 (f : Int))) 0) (h 5 0 3).toNat
def mBes (h : fwH) (x : Int) : Nat → Int × Int
  | 0 => (-1, mNames (h 18 0) (mSign (h 18 0) (h 5 0 3).toNat (fwOr (mWil h 0) x) 0) (h 5 0 3).toNat)
  | f + 1 => if (mBes h x f).2 < mBesN h x f then ((f : Int), mBesN h x f) else mBes h x f
theorem mBes_rng {h : fwH} (hP : pOk h 0) (x : Int) : ∀ f, 0 ≤ (mBes h x f).2 ∧ (mBes h x f).2 ≤ 792 := by
  intro f
  induction f with
  | zero => exact mNames_r2 hP _
  | succ f ih =>
    rw [mBes]
    split
    · exact mNames_r2 hP _
    · exact ih
set_option maxRecDepth 100000 in
set_option maxHeartbeats 4000000 in
theorem c_X4_bestBeside {d : Nat} {h : fwH} {Q : Option fwV → fwH → Prop} (x : Int) (hP : pOk h 0) (hG : gOk h 0) (hn : 1 ≤ h 4 0 1) (hM : ∀ c : Nat, c < 10 → h 17 0 c ≤ 999) (k : ∀ A B, Q (some (aI ((mBes h x (h 5 0 3).toNat).1))) (fwUc (fwUc h 19 0 A) 20 0 B)) : fwCt mX4_bestBeside (d + 4) [aR 6 0, aI x] h Q := by
  refine fwCt_of [some (aR 6 0), some (aI x), none, none, none, none, none] rfl rfl rfl ?_
  have hpz0 := hP.1
  refine w_aload_n dX4_bestBeside_0 rfl ?_
  refine w_getr 3 0 dX4_bestBeside_1 fl_X4_15 rfl (by decide) ?_
  refine w_getr 5 0 dX4_bestBeside_4 fl_X4_19 rfl (by decide) ?_
  refine w_aload_n dX4_bestBeside_7 rfl ?_
  refine w_getr 3 0 dX4_bestBeside_8 fl_X4_15 rfl (by decide) ?_
  refine w_getr 4 0 dX4_bestBeside_11 fl_X4_25 rfl (by decide) ?_
  refine w_iconst dX4_bestBeside_14 ?_
  refine w_callV (d := d + 3) (S := []) [aR 4 0, aI (-1)] dX4_bestBeside_15 ml_X4_29 ok_X3_gainersBy vi_X3_gainersBy rfl rfl (by decide) rfl (Nat.le_of_ble_eq_true rfl) ?_
  refine c_willing0 (d := d) (by first | assumption | omega | decide) (by first | assumption | omega | decide) (show 1 ≤ (h 4 0 1) by first | assumption | omega | decide) (by first | assumption | omega | decide) ?_
  intro A1 B2
  show fwWP mX4_bestBeside (d + 4) 18 [some (aR 6 0), some (aI x), none, none, none, none, none] [aI (mWil h 0)] (fwUc (fwUc h 19 0 A1) 20 0 B2) Q
  refine w_iload_n dX4_bestBeside_18 rfl ?_
  refine w_ior dX4_bestBeside_19 ?_
  refine w_istore_n [some (aR 6 0), some (aI x), some (aI (fwOr (mWil h 0) x)), none, none, none, none] dX4_bestBeside_20 rfl (by decide) ?_
  refine w_iconst dX4_bestBeside_21 ?_
  refine w_istore_n [some (aR 6 0), some (aI x), some (aI (fwOr (mWil h 0) x)), some (aI (-1)), none, none, none] dX4_bestBeside_22 rfl (by decide) ?_
  refine w_aload_n dX4_bestBeside_23 rfl ?_
  refine w_getr 3 0 dX4_bestBeside_24 fl_X4_15 rfl (by decide) ?_
  refine w_getr 5 0 dX4_bestBeside_27 fl_X4_19 rfl (by decide) ?_
  refine w_aload_n dX4_bestBeside_30 rfl ?_
  refine w_getr 3 0 dX4_bestBeside_31 fl_X4_15 rfl (by decide) ?_
  refine w_getr 5 0 dX4_bestBeside_34 fl_X4_19 rfl (by decide) ?_
  refine w_iload_n dX4_bestBeside_37 rfl ?_
  refine w_iconst dX4_bestBeside_38 ?_
  refine w_callV (d := d + 3) (S := [aR 5 0]) [aI (fwOr (mWil h 0) x), aI 0] dX4_bestBeside_39 ml_X4_35 ok_X3_signersOf vi_X3_signersOf rfl rfl (by decide) rfl (Nat.le_of_ble_eq_true rfl) ?_
  refine c_X3_signersOf (d := (d + 2)) 0 (fwOr (mWil h 0) x) 0 (by decide) (by first | assumption | omega | decide) ?_
  show fwWP mX4_bestBeside (d + 4) 42 [some (aR 6 0), some (aI x), some (aI (fwOr (mWil h 0) x)), some (aI (-1)), none, none, none] [aI (mSign (h 18 0) (h 5 0 3).toNat (fwOr (mWil h 0) x) 0), aR 5 0] (fwUc (fwUc h 19 0 A1) 20 0 B2) Q
  refine w_callV (d := d + 3) (S := []) [aI (mSign (h 18 0) (h 5 0 3).toNat (fwOr (mWil h 0) x) 0)] dX4_bestBeside_42 ml_X4_53 ok_X3_namesOf vi_X3_namesOf rfl rfl (by decide) rfl (Nat.le_of_ble_eq_true rfl) ?_
  refine c_X3_namesOf (d := (d + 2)) 0 (mSign (h 18 0) (h 5 0 3).toNat (fwOr (mWil h 0) x) 0) (by decide) (by first | assumption | omega | decide) ?_
  show fwWP mX4_bestBeside (d + 4) 45 [some (aR 6 0), some (aI x), some (aI (fwOr (mWil h 0) x)), some (aI (-1)), none, none, none] [aI (mNames (h 18 0) (mSign (h 18 0) (h 5 0 3).toNat (fwOr (mWil h 0) x) 0) (h 5 0 3).toNat)] (fwUc (fwUc h 19 0 A1) 20 0 B2) Q
  refine w_istore [some (aR 6 0), some (aI x), some (aI (fwOr (mWil h 0) x)), some (aI (-1)), some (aI (mNames (h 18 0) (mSign (h 18 0) (h 5 0 3).toNat (fwOr (mWil h 0) x) 0) (h 5 0 3).toNat)), none, none] dX4_bestBeside_45 rfl (by decide) ?_
  refine w_iconst dX4_bestBeside_47 ?_
  refine w_istore [some (aR 6 0), some (aI x), some (aI (fwOr (mWil h 0) x)), some (aI (-1)), some (aI (mNames (h 18 0) (mSign (h 18 0) (h 5 0 3).toNat (fwOr (mWil h 0) x) 0) (h 5 0 3).toNat)), some (aI 0), none] dX4_bestBeside_48 rfl (by decide) ?_
  have lp50 : ∀ c : Nat, c ≤ (h 5 0 3).toNat → ∀ (y50 fo mo : Int), y50 = (c : Int) → fo = (mBes h x c).1 → mo = (mBes h x c).2 → fwWP mX4_bestBeside (d + 4) 50 [some (aR 6 0), some (aI x), some (aI (fwOr (mWil h 0) x)), some (aI fo), some (aI mo), some (aI y50), none] [] (fwUc (fwUc h 19 0 A1) 20 0 B2) Q := by
    refine fw_up (fun c hc50 ih50 => ?_)
    intro y50 fo mo ey50 e_fo e_mo
    subst ey50
    subst e_fo
    subst e_mo
    have hbr := mBes_rng hP x c
    have hpz := hP.1
    show fwWP mX4_bestBeside (d + 4) 50 [some (aR 6 0), some (aI x), some (aI (fwOr (mWil h 0) x)), some (aI ((mBes h x c).1)), some (aI ((mBes h x c).2)), some (aI (c : Int)), none] [] (fwUc (fwUc h 19 0 A1) 20 0 B2) Q
    refine w_iload dX4_bestBeside_50 rfl ?_
    refine w_aload_n dX4_bestBeside_52 rfl ?_
    refine w_getr 3 0 dX4_bestBeside_53 fl_X4_15 rfl (by decide) ?_
    refine w_getr 5 0 dX4_bestBeside_56 fl_X4_19 rfl (by decide) ?_
    refine w_getiE (v := h 5 0 3) dX4_bestBeside_59 fl_X4_39 rfl (by decide) (by first | rfl | simp [fwUp, fwUc]) ?_
    refine w_icmp_ge 114 dX4_bestBeside_62 (by decide) (by omega) (by omega) (fun c62 => ?_) (fun c62 => ?_)
    · have ec50 : (h 5 0 3).toNat = c := by omega
      subst ec50
      refine w_iload_n dX4_bestBeside_114 rfl ?_
      exact w_iret dX4_bestBeside_115 rfl (k _ _)
    · refine w_aload_n dX4_bestBeside_65 rfl ?_
      refine w_getr 3 0 dX4_bestBeside_66 fl_X4_15 rfl (by decide) ?_
      refine w_getr 5 0 dX4_bestBeside_69 fl_X4_19 rfl (by decide) ?_
      refine w_aload_n dX4_bestBeside_72 rfl ?_
      refine w_getr 3 0 dX4_bestBeside_73 fl_X4_15 rfl (by decide) ?_
      refine w_getr 5 0 dX4_bestBeside_76 fl_X4_19 rfl (by decide) ?_
      refine w_iload_n dX4_bestBeside_79 rfl ?_
      refine w_iconst dX4_bestBeside_80 ?_
      refine w_iload dX4_bestBeside_81 rfl ?_
      refine w_ishl dX4_bestBeside_83 ?_
      refine w_ior dX4_bestBeside_84 ?_
      refine w_iconst dX4_bestBeside_85 ?_
      refine w_callV (d := d + 3) (S := [aR 5 0]) [aI (fwOr (fwOr (mWil h 0) x) (fwShl 1 (c : Int))), aI 0] dX4_bestBeside_86 ml_X4_35 ok_X3_signersOf vi_X3_signersOf rfl rfl (by decide) rfl (Nat.le_of_ble_eq_true rfl) ?_
      refine c_X3_signersOf (d := (d + 2)) 0 (fwOr (fwOr (mWil h 0) x) (fwShl 1 (c : Int))) 0 (by decide) (by first | assumption | omega | decide) ?_
      show fwWP mX4_bestBeside (d + 4) 89 [some (aR 6 0), some (aI x), some (aI (fwOr (mWil h 0) x)), some (aI ((mBes h x c).1)), some (aI ((mBes h x c).2)), some (aI (c : Int)), none] [aI (mSign (h 18 0) (h 5 0 3).toNat (fwOr (fwOr (mWil h 0) x) (fwShl 1 (c : Int))) 0), aR 5 0] (fwUc (fwUc h 19 0 A1) 20 0 B2) Q
      refine w_callV (d := d + 3) (S := []) [aI (mSign (h 18 0) (h 5 0 3).toNat (fwOr (fwOr (mWil h 0) x) (fwShl 1 (c : Int))) 0)] dX4_bestBeside_89 ml_X4_53 ok_X3_namesOf vi_X3_namesOf rfl rfl (by decide) rfl (Nat.le_of_ble_eq_true rfl) ?_
      refine c_X3_namesOf (d := (d + 2)) 0 (mSign (h 18 0) (h 5 0 3).toNat (fwOr (fwOr (mWil h 0) x) (fwShl 1 (c : Int))) 0) (by decide) (by first | assumption | omega | decide) ?_
      show fwWP mX4_bestBeside (d + 4) 92 [some (aR 6 0), some (aI x), some (aI (fwOr (mWil h 0) x)), some (aI ((mBes h x c).1)), some (aI ((mBes h x c).2)), some (aI (c : Int)), none] [aI (mNames (h 18 0) (mSign (h 18 0) (h 5 0 3).toNat (fwOr (fwOr (mWil h 0) x) (fwShl 1 (c : Int))) 0) (h 5 0 3).toNat)] (fwUc (fwUc h 19 0 A1) 20 0 B2) Q
      have hbn : 0 ≤ mBesN h x c ∧ mBesN h x c ≤ 792 := mNames_r2 hP _
      change fwWP mX4_bestBeside (d + 4) 92 [some (aR 6 0), some (aI x), some (aI (fwOr (mWil h 0) x)), some (aI ((mBes h x c).1)), some (aI ((mBes h x c).2)), some (aI (c : Int)), none] [aI (mBesN h x c)] (fwUc (fwUc h 19 0 A1) 20 0 B2) Q
      refine w_istore [some (aR 6 0), some (aI x), some (aI (fwOr (mWil h 0) x)), some (aI ((mBes h x c).1)), some (aI ((mBes h x c).2)), some (aI (c : Int)), some (aI (mBesN h x c))] dX4_bestBeside_92 rfl (by decide) ?_
      refine w_iload dX4_bestBeside_94 rfl ?_
      refine w_iload dX4_bestBeside_96 rfl ?_
      refine w_icmp_le 108 dX4_bestBeside_98 (by decide) (by omega) (by omega) (fun c98 => ?_) (fun c98 => ?_)
      · refine w_iinc [some (aR 6 0), some (aI x), some (aI (fwOr (mWil h 0) x)), some (aI ((mBes h x c).1)), some (aI ((mBes h x c).2)), some (aI ((c : Int) + 1)), some (aI (mBesN h x c))] dX4_bestBeside_108 rfl rfl (by decide) ?_
        refine w_goto 50 dX4_bestBeside_111 (by decide) ?_
        refine w_drop [6] [some (aR 6 0), some (aI x), some (aI (fwOr (mWil h 0) x)), some (aI ((mBes h x c).1)), some (aI ((mBes h x c).2)), some (aI ((c : Int) + 1)), none] rfl ?_
        refine ih50 (by omega) _ _ _ ?_ ?_ ?_
        · exact (by omega)
        · exact (by rw [mBes]; first | rw [if_pos (by omega)] | rw [if_neg (by omega)])
        · exact (by rw [mBes]; first | rw [if_pos (by omega)] | rw [if_neg (by omega)])
      · refine w_iload dX4_bestBeside_101 rfl ?_
        refine w_istore [some (aR 6 0), some (aI x), some (aI (fwOr (mWil h 0) x)), some (aI ((mBes h x c).1)), some (aI (mBesN h x c)), some (aI (c : Int)), some (aI (mBesN h x c))] dX4_bestBeside_103 rfl (by decide) ?_
        refine w_iload dX4_bestBeside_105 rfl ?_
        refine w_istore_n [some (aR 6 0), some (aI x), some (aI (fwOr (mWil h 0) x)), some (aI (c : Int)), some (aI (mBesN h x c)), some (aI (c : Int)), some (aI (mBesN h x c))] dX4_bestBeside_107 rfl (by decide) ?_
        refine w_iinc [some (aR 6 0), some (aI x), some (aI (fwOr (mWil h 0) x)), some (aI (c : Int)), some (aI (mBesN h x c)), some (aI ((c : Int) + 1)), some (aI (mBesN h x c))] dX4_bestBeside_108 rfl rfl (by decide) ?_
        refine w_goto 50 dX4_bestBeside_111 (by decide) ?_
        refine w_drop [6] [some (aR 6 0), some (aI x), some (aI (fwOr (mWil h 0) x)), some (aI (c : Int)), some (aI (mBesN h x c)), some (aI ((c : Int) + 1)), none] rfl ?_
        refine ih50 (by omega) _ _ _ ?_ ?_ ?_
        · exact (by omega)
        · exact (by rw [mBes]; first | rw [if_pos (by omega)] | rw [if_neg (by omega)])
        · exact (by rw [mBes]; first | rw [if_pos (by omega)] | rw [if_neg (by omega)])
  refine lp50 0 (Nat.zero_le _) _ _ _ ?_ ?_ ?_
  · exact (by omega)
  · exact rfl
  · exact rfl
def mNeedB (h : fwH) (f : Nat) : Bool := decide (¬ mEno (h 18 0) (h 5 0 3).toNat (h 3 0 4) (mWil h 0) (fwShl 1 (f : Int)))
def mNeed (h : fwH) : Int := if mEno (h 18 0) (h 5 0 3).toNat (h 3 0 4) (mWil h 0) 0 then mBits (mNeedB h) (h 5 0 3).toNat else 0
set_option maxRecDepth 100000 in
set_option maxHeartbeats 4000000 in
theorem c_X4_neededFolk {d : Nat} {h : fwH} {Q : Option fwV → fwH → Prop}  (hP : pOk h 0) (hG : gOk h 0) (hn : 1 ≤ h 4 0 1) (hM : ∀ c : Nat, c < 10 → h 17 0 c ≤ 999) (hlw : 0 ≤ h 3 0 4 ∧ h 3 0 4 ≤ 999) (k : ∀ A B, Q (some (aI (mNeed h))) (fwUc (fwUc h 19 0 A) 20 0 B)) : fwCt mX4_neededFolk (d + 4) [aR 6 0] h Q := by
  refine fwCt_of [some (aR 6 0), none, none, none] rfl rfl rfl ?_
  have hpz0 := hP.1
  refine w_aload_n dX4_neededFolk_0 rfl ?_
  refine w_getr 3 0 dX4_neededFolk_1 fl_X4_15 rfl (by decide) ?_
  refine w_getr 5 0 dX4_neededFolk_4 fl_X4_19 rfl (by decide) ?_
  refine w_aload_n dX4_neededFolk_7 rfl ?_
  refine w_getr 3 0 dX4_neededFolk_8 fl_X4_15 rfl (by decide) ?_
  refine w_getr 4 0 dX4_neededFolk_11 fl_X4_25 rfl (by decide) ?_
  refine w_iconst dX4_neededFolk_14 ?_
  refine w_callV (d := d + 3) (S := []) [aR 4 0, aI (-1)] dX4_neededFolk_15 ml_X4_29 ok_X3_gainersBy vi_X3_gainersBy rfl rfl (by decide) rfl (Nat.le_of_ble_eq_true rfl) ?_
  refine c_willing0 (d := d) (by first | assumption | omega | decide) (by first | assumption | omega | decide) (show 1 ≤ (h 4 0 1) by first | assumption | omega | decide) (by first | assumption | omega | decide) ?_
  intro A1 B2
  show fwWP mX4_neededFolk (d + 4) 18 [some (aR 6 0), none, none, none] [aI (mWil h 0)] (fwUc (fwUc h 19 0 A1) 20 0 B2) Q
  refine w_istore_n [some (aR 6 0), some (aI (mWil h 0)), none, none] dX4_neededFolk_18 rfl (by decide) ?_
  refine w_aload_n dX4_neededFolk_19 rfl ?_
  refine w_getr 3 0 dX4_neededFolk_20 fl_X4_15 rfl (by decide) ?_
  refine w_iload_n dX4_neededFolk_23 rfl ?_
  refine w_iconst dX4_neededFolk_24 ?_
  refine w_callV (d := d + 3) (S := []) [aI (mWil h 0), aI 0] dX4_neededFolk_25 ml_X4_49 ok_X2_isEnough vi_X2_isEnough rfl rfl (by decide) rfl (Nat.le_of_ble_eq_true rfl) ?_
  refine c_X2_isEnough (d := (d + 1)) (mWil h 0) 0 (by first | assumption | omega | decide) (by first | assumption | omega | decide) ?_
  show fwWP mX4_neededFolk (d + 4) 28 [some (aR 6 0), some (aI (mWil h 0)), none, none] [aI (fwB (mEno (h 18 0) (h 5 0 3).toNat (h 3 0 4) (mWil h 0) 0))] (fwUc (fwUc h 19 0 A1) 20 0 B2) Q
  refine w_ifB_ne 33 dX4_neededFolk_28 (by decide) (fun c0 => ?_) (fun c0 => ?_)
  · refine w_iconst dX4_neededFolk_33 ?_
    refine w_istore_n [some (aR 6 0), some (aI (mWil h 0)), some (aI 0), none] dX4_neededFolk_34 rfl (by decide) ?_
    refine w_iconst dX4_neededFolk_35 ?_
    refine w_istore_n [some (aR 6 0), some (aI (mWil h 0)), some (aI 0), some (aI 0)] dX4_neededFolk_36 rfl (by decide) ?_
    have lp37 : ∀ c : Nat, c ≤ (h 5 0 3).toNat → ∀ (y37 bi : Int), y37 = (c : Int) → bi = mBits (mNeedB h) c → fwWP mX4_neededFolk (d + 4) 37 [some (aR 6 0), some (aI (mWil h 0)), some (aI bi), some (aI y37)] [] (fwUc (fwUc h 19 0 A1) 20 0 B2) Q := by
      refine fw_up (fun c hc37 ih37 => ?_)
      intro y37 bi ey37 e_bi
      subst ey37
      subst e_bi
      have hpz := hP.1
      show fwWP mX4_neededFolk (d + 4) 37 [some (aR 6 0), some (aI (mWil h 0)), some (aI (mBits (mNeedB h) c)), some (aI (c : Int))] [] (fwUc (fwUc h 19 0 A1) 20 0 B2) Q
      refine w_iload_n dX4_neededFolk_37 rfl ?_
      refine w_aload_n dX4_neededFolk_38 rfl ?_
      refine w_getr 3 0 dX4_neededFolk_39 fl_X4_15 rfl (by decide) ?_
      refine w_getr 5 0 dX4_neededFolk_42 fl_X4_19 rfl (by decide) ?_
      refine w_getiE (v := h 5 0 3) dX4_neededFolk_45 fl_X4_39 rfl (by decide) (by first | rfl | simp [fwUp, fwUc]) ?_
      refine w_icmp_ge 77 dX4_neededFolk_48 (by decide) (by omega) (by omega) (fun c48 => ?_) (fun c48 => ?_)
      · have ec37 : (h 5 0 3).toNat = c := by omega
        subst ec37
        refine w_iload_n dX4_neededFolk_77 rfl ?_
        exact w_iretE dX4_neededFolk_78 rfl (by rw [mNeed, if_pos c0]) (k _ _)
      · refine w_aload_n dX4_neededFolk_51 rfl ?_
        refine w_getr 3 0 dX4_neededFolk_52 fl_X4_15 rfl (by decide) ?_
        refine w_iload_n dX4_neededFolk_55 rfl ?_
        refine w_iconst dX4_neededFolk_56 ?_
        refine w_iload_n dX4_neededFolk_57 rfl ?_
        refine w_ishl dX4_neededFolk_58 ?_
        refine w_callV (d := d + 3) (S := []) [aI (mWil h 0), aI (fwShl 1 (c : Int))] dX4_neededFolk_59 ml_X4_49 ok_X2_isEnough vi_X2_isEnough rfl rfl (by decide) rfl (Nat.le_of_ble_eq_true rfl) ?_
        refine c_X2_isEnough (d := (d + 1)) (mWil h 0) (fwShl 1 (c : Int)) (by first | assumption | omega | decide) (by first | assumption | omega | decide) ?_
        show fwWP mX4_neededFolk (d + 4) 62 [some (aR 6 0), some (aI (mWil h 0)), some (aI (mBits (mNeedB h) c)), some (aI (c : Int))] [aI (fwB (mEno (h 18 0) (h 5 0 3).toNat (h 3 0 4) (mWil h 0) (fwShl 1 (c : Int))))] (fwUc (fwUc h 19 0 A1) 20 0 B2) Q
        refine w_ifB_ne 71 dX4_neededFolk_62 (by decide) (fun ce => ?_) (fun ce => ?_)
        · refine w_iinc [some (aR 6 0), some (aI (mWil h 0)), some (aI (mBits (mNeedB h) c)), some (aI ((c : Int) + 1))] dX4_neededFolk_71 rfl rfl (by decide) ?_
          refine w_goto 37 dX4_neededFolk_74 (by decide) ?_
          refine ih37 (by omega) _ _ ?_ ?_
          · exact (by omega)
          · exact (by rw [mBits]; first | rw [if_pos (by exact decide_eq_true ce)] | rw [if_neg (by intro q; exact (of_decide_eq_true q) ce)])
        · refine w_iload_n dX4_neededFolk_65 rfl ?_
          refine w_iconst dX4_neededFolk_66 ?_
          refine w_iload_n dX4_neededFolk_67 rfl ?_
          refine w_ishl dX4_neededFolk_68 ?_
          refine w_ior dX4_neededFolk_69 ?_
          refine w_istore_n [some (aR 6 0), some (aI (mWil h 0)), some (aI (fwOr (mBits (mNeedB h) c) (fwShl 1 (c : Int)))), some (aI (c : Int))] dX4_neededFolk_70 rfl (by decide) ?_
          refine w_iinc [some (aR 6 0), some (aI (mWil h 0)), some (aI (fwOr (mBits (mNeedB h) c) (fwShl 1 (c : Int)))), some (aI ((c : Int) + 1))] dX4_neededFolk_71 rfl rfl (by decide) ?_
          refine w_goto 37 dX4_neededFolk_74 (by decide) ?_
          refine ih37 (by omega) _ _ ?_ ?_
          · exact (by omega)
          · exact (by rw [mBits]; first | rw [if_pos (by exact decide_eq_true ce)] | rw [if_neg (by intro q; exact (of_decide_eq_true q) ce)])
    refine lp37 0 (Nat.zero_le _) _ _ ?_ ?_
    · exact (by omega)
    · exact rfl
  · refine w_iconst dX4_neededFolk_31 ?_
    exact w_iretE dX4_neededFolk_32 rfl (by rw [mNeed, if_neg c0]) (k _ _)

/-! FootLower$Walks -/
def mHereF (F : Nat → Int) (wl : Int) (c : Nat) : Nat → Int
  | 0 => 0
  | f + 1 => if fwAnd (fwShr wl f) 1 = 1 ∧ F (7 * f) = (c : Int) then mHereF F wl c f + F (7 * f + 1) else mHereF F wl c f
def mAh (F : Nat → Int) (wl : Int) (n : Nat) : Nat → Int
  | 0 => 0
  | c + 1 => mAh F wl n c + mHereF F wl c n
theorem mHereF_rng {F : Nat → Int} (wl : Int) (c : Nat) : ∀ n : Nat, n ≤ 8 → (∀ f : Nat, f < 8 → 0 ≤ F (7 * f + 1) ∧ F (7 * f + 1) ≤ 99) → 0 ≤ mHereF F wl c n ∧ mHereF F wl c n ≤ 99 * n := by
  intro n
  induction n with
  | zero => intro _ _; simp [mHereF]
  | succ n ih =>
    intro hn hF
    have h1 := ih (by omega) hF
    have h2 := hF n (by omega)
    rw [mHereF]
    split <;> omega
theorem mAh_rng {F : Nat → Int} (wl : Int) {n : Nat} (hn : n ≤ 8) (hF : ∀ f : Nat, f < 8 → 0 ≤ F (7 * f + 1) ∧ F (7 * f + 1) ≤ 99) : ∀ c, 0 ≤ mAh F wl n c ∧ mAh F wl n c ≤ 800 * c := by
  intro c
  induction c with
  | zero => simp [mAh]
  | succ c ih =>
    have h1 := mHereF_rng wl c n hn hF
    rw [mAh]
    omega
theorem fwFl_1 {g f : Nat → Int} (h : g 0 = f 0) : fwFl g f 1 = f := by
  funext s
  unfold fwFl
  by_cases e : s < 1
  · rw [if_pos e, show s = 0 by omega, h]
  · rw [if_neg e]
set_option maxRecDepth 100000 in
set_option maxHeartbeats 4000000 in
theorem c_X10_gather {d : Nat} {h : fwH} {Q : Option fwV → fwH → Prop}  (hP : pOk h 0) (hG : gOk h 0) (hn : 1 ≤ h 4 0 1) (hM : ∀ c : Nat, c < 10 → h 17 0 c ≤ 999) (hna : h 25 0 0 = 0) (k : ∀ A B, Q none (fwUc (fwUc (fwUc h 19 0 A) 20 0 B) 25 0 (mAh (h 18 0) (mWil h 0) (h 5 0 3).toNat))) : fwCt mX10_gatherNames (d + 4) [aR 7 0] h Q := by
  refine fwCt_of [some (aR 7 0), none, none, none, none] rfl rfl rfl ?_
  have hpz0 := hP.1
  refine w_aload_n dX10_gatherNames_0 rfl ?_
  refine w_getr 3 0 dX10_gatherNames_1 fl_X10_15 rfl (by decide) ?_
  refine w_getr 5 0 dX10_gatherNames_4 fl_X10_19 rfl (by decide) ?_
  refine w_aload_n dX10_gatherNames_7 rfl ?_
  refine w_getr 3 0 dX10_gatherNames_8 fl_X10_15 rfl (by decide) ?_
  refine w_getr 4 0 dX10_gatherNames_11 fl_X10_25 rfl (by decide) ?_
  refine w_iconst dX10_gatherNames_14 ?_
  refine w_callV (d := d + 3) (S := []) [aR 4 0, aI (-1)] dX10_gatherNames_15 ml_X10_29 ok_X3_gainersBy vi_X3_gainersBy rfl rfl (by decide) rfl (Nat.le_of_ble_eq_true rfl) ?_
  refine c_willing0 (d := d) (by first | assumption | omega | decide) (by first | assumption | omega | decide) (show 1 ≤ (h 4 0 1) by first | assumption | omega | decide) (by first | assumption | omega | decide) ?_
  intro A1 B2
  show fwWP mX10_gatherNames (d + 4) 18 [some (aR 7 0), none, none, none, none] [aI (mWil h 0)] (fwUc (fwUc h 19 0 A1) 20 0 B2) Q
  refine w_istore_n [some (aR 7 0), some (aI (mWil h 0)), none, none, none] dX10_gatherNames_18 rfl (by decide) ?_
  refine w_iconst dX10_gatherNames_19 ?_
  refine w_istore_n [some (aR 7 0), some (aI (mWil h 0)), some (aI 0), none, none] dX10_gatherNames_20 rfl (by decide) ?_
  have lp21 : ∀ c : Nat, c ≤ 10 → ∀ (y21  : Int) (hh21 : fwH), y21 = (c : Int) → hh21 = (fwUc (fwUc (fwUc h 19 0 A1) 20 0 B2) 25 0 (fwFl (mAh (h 18 0) (mWil h 0) (h 5 0 3).toNat) (h 25 0) (c + 1))) → fwWP mX10_gatherNames (d + 4) 21 [some (aR 7 0), some (aI (mWil h 0)), some (aI y21), none, none] [] hh21 Q := by
    refine fw_up (fun c hc21 ih21 => ?_)
    intro y21  hh21 ey21 eh21
    subst ey21
    subst eh21
    show fwWP mX10_gatherNames (d + 4) 21 [some (aR 7 0), some (aI (mWil h 0)), some (aI (c : Int)), none, none] [] (fwUc (fwUc (fwUc h 19 0 A1) 20 0 B2) 25 0 (fwFl (mAh (h 18 0) (mWil h 0) (h 5 0 3).toNat) (h 25 0) (c + 1))) Q
    refine w_iload_n dX10_gatherNames_21 rfl ?_
    refine w_bipush dX10_gatherNames_22 rfl ?_
    refine w_icmp_ge 118 dX10_gatherNames_24 (by decide) (by omega) (by omega) (fun c24 => ?_) (fun c24 => ?_)
    · have ec21 : 10 = c := by omega
      subst ec21
      refine w_heq _ (fwFl_all (by decide)) ?_
      exact w_vret dX10_gatherNames_118 rfl (k _ _)
    · refine w_iconst dX10_gatherNames_27 ?_
      refine w_istore_n [some (aR 7 0), some (aI (mWil h 0)), some (aI (c : Int)), some (aI 0), none] dX10_gatherNames_28 rfl (by decide) ?_
      refine w_iconst dX10_gatherNames_29 ?_
      refine w_istore [some (aR 7 0), some (aI (mWil h 0)), some (aI (c : Int)), some (aI 0), some (aI 0)] dX10_gatherNames_30 rfl (by decide) ?_
      have lp32 : ∀ f : Nat, f ≤ (h 5 0 3).toNat → ∀ (y32 he : Int), y32 = (f : Int) → he = mHereF (h 18 0) (mWil h 0) c f → fwWP mX10_gatherNames (d + 4) 32 [some (aR 7 0), some (aI (mWil h 0)), some (aI (c : Int)), some (aI he), some (aI y32)] [] (fwUc (fwUc (fwUc h 19 0 A1) 20 0 B2) 25 0 (fwFl (mAh (h 18 0) (mWil h 0) (h 5 0 3).toNat) (h 25 0) (c + 1))) Q := by
        refine fw_up (fun f hc32 ih32 => ?_)
        intro y32 he ey32 e_he
        subst ey32
        subst e_he
        have hpz := hP.1
        show fwWP mX10_gatherNames (d + 4) 32 [some (aR 7 0), some (aI (mWil h 0)), some (aI (c : Int)), some (aI (mHereF (h 18 0) (mWil h 0) c f)), some (aI (f : Int))] [] (fwUc (fwUc (fwUc h 19 0 A1) 20 0 B2) 25 0 (fwFl (mAh (h 18 0) (mWil h 0) (h 5 0 3).toNat) (h 25 0) (c + 1))) Q
        refine w_iload dX10_gatherNames_32 rfl ?_
        refine w_aload_n dX10_gatherNames_34 rfl ?_
        refine w_getr 3 0 dX10_gatherNames_35 fl_X10_15 rfl (by decide) ?_
        refine w_getr 5 0 dX10_gatherNames_38 fl_X10_19 rfl (by decide) ?_
        refine w_getiE (v := h 5 0 3) dX10_gatherNames_41 fl_X10_35 rfl (by decide) (by first | rfl | simp [fwUp, fwUc]) ?_
        refine w_icmp_ge 96 dX10_gatherNames_44 (by decide) (by omega) (by omega) (fun c44 => ?_) (fun c44 => ?_)
        · have ec32 : (h 5 0 3).toNat = f := by omega
          subst ec32
          refine w_aload_n dX10_gatherNames_96 rfl ?_
          refine w_getr 25 0 dX10_gatherNames_97 fl_X10_9 rfl (by decide) ?_
          refine w_iload_n dX10_gatherNames_100 rfl ?_
          refine w_iconst dX10_gatherNames_101 ?_
          refine w_iadd dX10_gatherNames_102 ?_
          refine w_aload_n dX10_gatherNames_103 rfl ?_
          refine w_getr 25 0 dX10_gatherNames_104 fl_X10_9 rfl (by decide) ?_
          refine w_iload_n dX10_gatherNames_107 rfl ?_
          refine w_ialdE (v := mAh (h 18 0) (mWil h 0) (h 5 0 3).toNat c) dX10_gatherNames_108 rfl (by decide) (by omega) (by omega) (by rw [fwUc_at]; exact fwFl_lt (by omega)) ?_
          refine w_iload_n dX10_gatherNames_109 rfl ?_
          refine w_iadd dX10_gatherNames_110 ?_
          refine w_iast dX10_gatherNames_111 rfl (by decide) (by omega) (by omega) ?_
          refine w_iinc [some (aR 7 0), some (aI (mWil h 0)), some (aI ((c : Int) + 1)), some (aI (mHereF (h 18 0) (mWil h 0) c (h 5 0 3).toNat)), some (aI (((h 5 0 3).toNat : Nat) : Int))] dX10_gatherNames_112 rfl rfl (by decide) ?_
          refine w_goto 21 dX10_gatherNames_115 (by decide) ?_
          refine w_drop [3, 4] [some (aR 7 0), some (aI (mWil h 0)), some (aI ((c : Int) + 1)), none, none] rfl ?_
          refine ih21 (by omega) _ _ ?_ ?_
          · exact (by omega)
          · exact (by rw [fwUp_uc, show ((c : Int) + 1).toNat = c + 1 by omega]; exact congrArg _ (fwFl_succ (mAh (h 18 0) (mWil h 0) (h 5 0 3).toNat) (h 25 0) (c + 1)))
        · refine w_iload_n dX10_gatherNames_47 rfl ?_
          refine w_iload dX10_gatherNames_48 rfl ?_
          refine w_ishr dX10_gatherNames_50 ?_
          refine w_iconst dX10_gatherNames_51 ?_
          have hb := fwAnd_rng1 (fwShr (mWil h 0) (f : Int))
          refine w_iand dX10_gatherNames_52 ?_
          refine w_iconst dX10_gatherNames_53 ?_
          refine w_icmp_ne 90 dX10_gatherNames_54 (by decide) (by omega) (by omega) (fun c54 => ?_) (fun c54 => ?_)
          · refine w_iinc [some (aR 7 0), some (aI (mWil h 0)), some (aI (c : Int)), some (aI (mHereF (h 18 0) (mWil h 0) c f)), some (aI ((f : Int) + 1))] dX10_gatherNames_90 rfl rfl (by decide) ?_
            refine w_goto 32 dX10_gatherNames_93 (by decide) ?_
            refine ih32 (by omega) _ _ ?_ ?_
            · exact (by omega)
            · exact (by rw [mHereF]; first | rw [if_pos (by omega)] | rw [if_neg (by omega)])
          · refine w_aload_n dX10_gatherNames_57 rfl ?_
            refine w_getr 3 0 dX10_gatherNames_58 fl_X10_15 rfl (by decide) ?_
            refine w_getr 5 0 dX10_gatherNames_61 fl_X10_19 rfl (by decide) ?_
            refine w_iload dX10_gatherNames_64 rfl ?_
            refine w_iconst dX10_gatherNames_66 ?_
            refine w_callV (d := d + 3) (S := []) [aI (f : Int), aI 0] dX10_gatherNames_67 ml_X10_39 ok_X3_fact vi_X3_fact rfl rfl (by decide) rfl (Nat.le_of_ble_eq_true rfl) ?_
            refine c_X3_fact (d := (d + 3)) 0 f 0 (by decide) (by first | assumption | omega | decide) (by first | assumption | omega | decide) ?_
            show fwWP mX10_gatherNames (d + 4) 70 [some (aR 7 0), some (aI (mWil h 0)), some (aI (c : Int)), some (aI (mHereF (h 18 0) (mWil h 0) c f)), some (aI (f : Int))] [aI (h 18 0 (7 * f))] (fwUc (fwUc (fwUc h 19 0 A1) 20 0 B2) 25 0 (fwFl (mAh (h 18 0) (mWil h 0) (h 5 0 3).toNat) (h 25 0) (c + 1))) Q
            have hfc := (hP.2 f (by omega)).1
            refine w_iload_n dX10_gatherNames_70 rfl ?_
            refine w_icmp_ne 90 dX10_gatherNames_71 (by decide) (by omega) (by omega) (fun c71 => ?_) (fun c71 => ?_)
            · refine w_iinc [some (aR 7 0), some (aI (mWil h 0)), some (aI (c : Int)), some (aI (mHereF (h 18 0) (mWil h 0) c f)), some (aI ((f : Int) + 1))] dX10_gatherNames_90 rfl rfl (by decide) ?_
              refine w_goto 32 dX10_gatherNames_93 (by decide) ?_
              refine ih32 (by omega) _ _ ?_ ?_
              · exact (by omega)
              · exact (by rw [mHereF]; first | rw [if_pos (by omega)] | rw [if_neg (by omega)])
            · refine w_iload_n dX10_gatherNames_74 rfl ?_
              refine w_aload_n dX10_gatherNames_75 rfl ?_
              refine w_getr 3 0 dX10_gatherNames_76 fl_X10_15 rfl (by decide) ?_
              refine w_getr 5 0 dX10_gatherNames_79 fl_X10_19 rfl (by decide) ?_
              refine w_iload dX10_gatherNames_82 rfl ?_
              refine w_iconst dX10_gatherNames_84 ?_
              refine w_callV (d := d + 3) (S := [aI (mHereF (h 18 0) (mWil h 0) c f)]) [aI (f : Int), aI 1] dX10_gatherNames_85 ml_X10_39 ok_X3_fact vi_X3_fact rfl rfl (by decide) rfl (Nat.le_of_ble_eq_true rfl) ?_
              refine c_X3_fact (d := (d + 3)) 0 f 1 (by decide) (by first | assumption | omega | decide) (by first | assumption | omega | decide) ?_
              show fwWP mX10_gatherNames (d + 4) 88 [some (aR 7 0), some (aI (mWil h 0)), some (aI (c : Int)), some (aI (mHereF (h 18 0) (mWil h 0) c f)), some (aI (f : Int))] [aI (h 18 0 (7 * f + 1)), aI (mHereF (h 18 0) (mWil h 0) c f)] (fwUc (fwUc (fwUc h 19 0 A1) 20 0 B2) 25 0 (fwFl (mAh (h 18 0) (mWil h 0) (h 5 0 3).toNat) (h 25 0) (c + 1))) Q
              refine w_iadd dX10_gatherNames_88 ?_
              refine w_istore_n [some (aR 7 0), some (aI (mWil h 0)), some (aI (c : Int)), some (aI ((mHereF (h 18 0) (mWil h 0) c f) + (h 18 0 (7 * f + 1)))), some (aI (f : Int))] dX10_gatherNames_89 rfl (by decide) ?_
              refine w_iinc [some (aR 7 0), some (aI (mWil h 0)), some (aI (c : Int)), some (aI ((mHereF (h 18 0) (mWil h 0) c f) + (h 18 0 (7 * f + 1)))), some (aI ((f : Int) + 1))] dX10_gatherNames_90 rfl rfl (by decide) ?_
              refine w_goto 32 dX10_gatherNames_93 (by decide) ?_
              refine ih32 (by omega) _ _ ?_ ?_
              · exact (by omega)
              · exact (by rw [mHereF]; first | rw [if_pos (by omega)] | rw [if_neg (by omega)])
      refine lp32 0 (Nat.zero_le _) _ _ ?_ ?_
      · exact (by omega)
      · exact rfl
  refine lp21 0 (Nat.zero_le _) _ _ ?_ ?_
  · exact (by omega)
  · exact (by rw [fwFl_1 (by rw [mAh]; exact hna.symm)]; exact (fwUc_self _ 25 0).symm)
def mWi (N : Nat → Int) (x y : Int) : Int := if x ≤ y ∧ 0 ≤ x ∧ y < 10 then N (y + 1).toNat - N x.toNat else 0
set_option maxRecDepth 100000 in
set_option maxHeartbeats 4000000 in
theorem c_X10_within {d : Nat} {h : fwH} {Q : Option fwV → fwH → Prop} (x y : Int) (hx : -1000 ≤ x ∧ x ≤ 1000) (hy : -1000 ≤ y ∧ y ≤ 1000) (k : Q (some (aI (mWi (h 25 0) x y))) h) : fwCt mX10_namesWithin (d + 0) [aR 7 0, aI x, aI y] h Q := by
  refine fwCt_of [some (aR 7 0), some (aI x), some (aI y)] rfl rfl rfl ?_
  refine w_iload_n dX10_namesWithin_0 rfl ?_
  refine w_iload_n dX10_namesWithin_1 rfl ?_
  refine w_icmp_gt 20 dX10_namesWithin_2 (by decide) (by omega) (by omega) (fun c2 => ?_) (fun c2 => ?_)
  · refine w_iconst dX10_namesWithin_20 ?_
    exact w_iretE dX10_namesWithin_21 rfl (by rw [mWi]; first | (exfalso; omega) | rw [if_pos (by omega)] | rw [if_neg (by omega)]) k
  · refine w_iload_n dX10_namesWithin_5 rfl ?_
    refine w_if_lt 20 dX10_namesWithin_6 (by decide) (by omega) (fun c6 => ?_) (fun c6 => ?_)
    · refine w_iconst dX10_namesWithin_20 ?_
      exact w_iretE dX10_namesWithin_21 rfl (by rw [mWi]; first | (exfalso; omega) | rw [if_pos (by omega)] | rw [if_neg (by omega)]) k
    · refine w_iload_n dX10_namesWithin_9 rfl ?_
      refine w_iconst dX10_namesWithin_10 ?_
      refine w_iadd dX10_namesWithin_11 ?_
      refine w_aload_n dX10_namesWithin_12 rfl ?_
      refine w_getr 25 0 dX10_namesWithin_13 fl_X10_9 rfl (by decide) ?_
      refine w_alen dX10_namesWithin_16 rfl (by decide) (by decide) ?_
      refine w_icmp_lt 22 dX10_namesWithin_17 (by decide) (by omega) (by omega) (fun c17 => ?_) (fun c17 => ?_)
      · refine w_aload_n dX10_namesWithin_22 rfl ?_
        refine w_getr 25 0 dX10_namesWithin_23 fl_X10_9 rfl (by decide) ?_
        refine w_iload_n dX10_namesWithin_26 rfl ?_
        refine w_iconst dX10_namesWithin_27 ?_
        refine w_iadd dX10_namesWithin_28 ?_
        refine w_iald dX10_namesWithin_29 rfl (by decide) (by omega) (by omega) ?_
        refine w_aload_n dX10_namesWithin_30 rfl ?_
        refine w_getr 25 0 dX10_namesWithin_31 fl_X10_9 rfl (by decide) ?_
        refine w_iload_n dX10_namesWithin_34 rfl ?_
        refine w_iald dX10_namesWithin_35 rfl (by decide) (by omega) (by omega) ?_
        refine w_isub dX10_namesWithin_36 ?_
        exact w_iretE dX10_namesWithin_37 rfl (by rw [mWi]; first | (exfalso; omega) | rw [if_pos (by omega)] | rw [if_neg (by omega)]) k
      · refine w_iconst dX10_namesWithin_20 ?_
        exact w_iretE dX10_namesWithin_21 rfl (by rw [mWi]; first | (exfalso; omega) | rw [if_pos (by omega)] | rw [if_neg (by omega)]) k
def mBoth (N : Nat → Int) (x y u v : Int) : Int := mWi N x y + mWi N u v - mWi N (max x u) (min y v)
set_option maxRecDepth 100000 in
set_option maxHeartbeats 4000000 in
theorem c_X10_both {d : Nat} {h : fwH} {Q : Option fwV → fwH → Prop} (x y u v : Int) (hx : -1000 ≤ x ∧ x ≤ 1000) (hy : -1000 ≤ y ∧ y ≤ 1000) (hu : -1000 ≤ u ∧ u ≤ 1000) (hv : -1000 ≤ v ∧ v ≤ 1000) (k : Q (some (aI (mBoth (h 25 0) x y u v))) h) : fwCt mX10_namesOfBoth (d + 1) [aR 7 0, aI x, aI y, aI u, aI v] h Q := by
  refine fwCt_of [some (aR 7 0), some (aI x), some (aI y), some (aI u), some (aI v), none] rfl rfl rfl ?_
  refine w_aload_n dX10_namesOfBoth_0 rfl ?_
  refine w_iload_n dX10_namesOfBoth_1 rfl ?_
  refine w_iload_n dX10_namesOfBoth_2 rfl ?_
  refine w_max (d := d + 0) (S := [aR 7 0]) dX10_namesOfBoth_3 ml_X10_43 (by omega) (by omega) (Nat.le_of_ble_eq_true rfl) ?_
  refine w_iload_n dX10_namesOfBoth_6 rfl ?_
  refine w_iload dX10_namesOfBoth_7 rfl ?_
  refine w_min (d := d + 0) (S := [aI (max x u), aR 7 0]) dX10_namesOfBoth_9 ml_X10_48 (by omega) (by omega) (Nat.le_of_ble_eq_true rfl) ?_
  refine w_callV (d := d + 0) (S := []) [aI (max x u), aI (min y v)] dX10_namesOfBoth_12 ml_X10_51 ok_X10_namesWithin vi_X10_namesWithin rfl rfl (by decide) rfl (Nat.le_of_ble_eq_true rfl) ?_
  refine c_X10_within (d := d) (max x u) (min y v) (by first | assumption | omega | decide) (by first | assumption | omega | decide) ?_
  show fwWP mX10_namesOfBoth (d + 1) 15 [some (aR 7 0), some (aI x), some (aI y), some (aI u), some (aI v), none] [aI (mWi (h 25 0) (max x u) (min y v))] h Q
  refine w_istore [some (aR 7 0), some (aI x), some (aI y), some (aI u), some (aI v), some (aI (mWi (h 25 0) (max x u) (min y v)))] dX10_namesOfBoth_15 rfl (by decide) ?_
  refine w_aload_n dX10_namesOfBoth_17 rfl ?_
  refine w_iload_n dX10_namesOfBoth_18 rfl ?_
  refine w_iload_n dX10_namesOfBoth_19 rfl ?_
  refine w_callV (d := d + 0) (S := []) [aI x, aI y] dX10_namesOfBoth_20 ml_X10_51 ok_X10_namesWithin vi_X10_namesWithin rfl rfl (by decide) rfl (Nat.le_of_ble_eq_true rfl) ?_
  refine c_X10_within (d := d) x y (by first | assumption | omega | decide) (by first | assumption | omega | decide) ?_
  show fwWP mX10_namesOfBoth (d + 1) 23 [some (aR 7 0), some (aI x), some (aI y), some (aI u), some (aI v), some (aI (mWi (h 25 0) (max x u) (min y v)))] [aI (mWi (h 25 0) x y)] h Q
  refine w_aload_n dX10_namesOfBoth_23 rfl ?_
  refine w_iload_n dX10_namesOfBoth_24 rfl ?_
  refine w_iload dX10_namesOfBoth_25 rfl ?_
  refine w_callV (d := d + 0) (S := [aI (mWi (h 25 0) x y)]) [aI u, aI v] dX10_namesOfBoth_27 ml_X10_51 ok_X10_namesWithin vi_X10_namesWithin rfl rfl (by decide) rfl (Nat.le_of_ble_eq_true rfl) ?_
  refine c_X10_within (d := d) u v (by first | assumption | omega | decide) (by first | assumption | omega | decide) ?_
  show fwWP mX10_namesOfBoth (d + 1) 30 [some (aR 7 0), some (aI x), some (aI y), some (aI u), some (aI v), some (aI (mWi (h 25 0) (max x u) (min y v)))] [aI (mWi (h 25 0) u v), aI (mWi (h 25 0) x y)] h Q
  refine w_iadd dX10_namesOfBoth_30 ?_
  refine w_iload dX10_namesOfBoth_31 rfl ?_
  refine w_isub dX10_namesOfBoth_33 ?_
  exact w_iretE dX10_namesOfBoth_34 rfl (by rfl) k
def mSteps (x a b : Int) : Int := b - a + min (x - a) (b - x)
set_option maxRecDepth 100000 in
set_option maxHeartbeats 4000000 in
theorem c_X10_steps {d : Nat} {h : fwH} {Q : Option fwV → fwH → Prop} (x a b : Int) (hx : -1000 ≤ x ∧ x ≤ 1000) (ha : -1000 ≤ a ∧ a ≤ 1000) (hb : -1000 ≤ b ∧ b ≤ 1000) (k : Q (some (aI (mSteps x a b))) h) : fwCt mX10_stepsOf (d + 1) [aI x, aI a, aI b] h Q := by
  refine fwCt_of [some (aI x), some (aI a), some (aI b)] rfl rfl rfl ?_
  refine w_iload_n dX10_stepsOf_0 rfl ?_
  refine w_iload_n dX10_stepsOf_1 rfl ?_
  refine w_isub dX10_stepsOf_2 ?_
  refine w_iload_n dX10_stepsOf_3 rfl ?_
  refine w_iload_n dX10_stepsOf_4 rfl ?_
  refine w_isub dX10_stepsOf_5 ?_
  refine w_iload_n dX10_stepsOf_6 rfl ?_
  refine w_iload_n dX10_stepsOf_7 rfl ?_
  refine w_isub dX10_stepsOf_8 ?_
  refine w_min (d := d + 0) (S := [aI (b - a)]) dX10_stepsOf_9 ml_X10_48 (by omega) (by omega) (Nat.le_of_ble_eq_true rfl) ?_
  refine w_iadd dX10_stepsOf_12 ?_
  exact w_iretE dX10_stepsOf_13 rfl (by rfl) k
def mW1i (N : Nat → Int) (x : Nat) (n : Int) (a : Nat) (s0 : Int × Int × Int) : Nat → Int × Int × Int
  | 0 => s0
  | j + 1 => if ((mW1i N x n a s0 j).1 = -1 ∨ mSteps x a (x + j) < (mW1i N x n a s0 j).1) ∧ n ≤ mWi N a (x + j) then (mSteps x a (x + j), (a : Int), (x : Int) + j) else mW1i N x n a s0 j
def mW1o (N : Nat → Int) (x : Nat) (n : Int) (m : Nat) (s0 : Int × Int × Int) : Nat → Int × Int × Int
  | 0 => s0
  | a + 1 => mW1i N x n a (mW1o N x n m s0 a) m
theorem mW1i_rng {N : Nat → Int} {x : Nat} {n : Int} {a : Nat} {s0 : Int × Int × Int} (hx : x < 10) (ha : a ≤ x) (hs : -1 ≤ s0.1 ∧ s0.1 ≤ 1000) : ∀ j, x + j ≤ 10 → -1 ≤ (mW1i N x n a s0 j).1 ∧ (mW1i N x n a s0 j).1 ≤ 1000 := by
  intro j
  induction j with
  | zero => intro _; exact hs
  | succ j ih =>
    intro hj
    have := ih (by omega)
    rw [mW1i]
    split
    · unfold mSteps; dsimp only; omega
    · exact this
theorem mW1o_rng {N : Nat → Int} {x : Nat} {n : Int} {m : Nat} {s0 : Int × Int × Int} (hx : x + m ≤ 10) (hx2 : x < 10) (hs : -1 ≤ s0.1 ∧ s0.1 ≤ 1000) : ∀ a, a ≤ x + 1 → -1 ≤ (mW1o N x n m s0 a).1 ∧ (mW1o N x n m s0 a).1 ≤ 1000 := by
  intro a
  induction a with
  | zero => intro _; exact hs
  | succ a ih =>
    intro ha
    exact mW1i_rng hx2 (by omega) (ih (by omega)) m hx
theorem fwUp4 (h : fwH) (l r a b : Int) : fwUp (fwUp (fwUp (fwUp h 7 0 2 l) 7 0 3 r) 7 0 2 a) 7 0 3 b = fwUp (fwUp h 7 0 2 a) 7 0 3 b := by
  funext k i s
  unfold fwUp
  (repeat' split)
  all_goals first | rfl | (exfalso; omega)
theorem fwUp_self2 (h : fwH) : fwUp (fwUp h 7 0 2 (h 7 0 2)) 7 0 3 (h 7 0 3) = h := by
  funext k i s
  unfold fwUp
  (repeat' split)
  all_goals first | rfl | (rename_i q; obtain ⟨rfl, rfl, rfl⟩ := q; rfl) | (rename_i q1 q2; obtain ⟨rfl, rfl, rfl⟩ := q2; rfl) | (rename_i q1 q2; obtain ⟨rfl, rfl, rfl⟩ := q1; rfl)
theorem mWi_rng {F : Nat → Int} (wl : Int) {n : Nat} (hn : n ≤ 8) (hF : ∀ f : Nat, f < 8 → 0 ≤ F (7 * f + 1) ∧ F (7 * f + 1) ≤ 99) (x y : Int) : -8000 ≤ mWi (mAh F wl n) x y ∧ mWi (mAh F wl n) x y ≤ 8000 := by
  unfold mWi
  split
  · have h1 := mAh_rng wl hn hF (y + 1).toNat
    have h2 := mAh_rng wl hn hF x.toNat
    omega
  · omega
set_option maxRecDepth 100000 in
set_option maxHeartbeats 4000000 in
theorem c_X10_walkOne {d : Nat} {h : fwH} {Q : Option fwV → fwH → Prop} (x : Nat) (n : Int) (hP : pOk h 0) (hG : gOk h 0) (hn : 1 ≤ h 4 0 1) (hM : ∀ c : Nat, c < 10 → h 17 0 c ≤ 999) (hna : h 25 0 0 = 0) (hx : (x : Int) < h 4 0 1) (hnn : 0 ≤ n ∧ n ≤ 1000) (k : ∀ A B, Q (some (aI ((mW1o (mAh (h 18 0) (mWil h 0) (h 5 0 3).toNat) x n ((h 4 0 1).toNat - x) (-1, h 7 0 2, h 7 0 3) (x + 1)).1))) (fwUp (fwUp (fwUc (fwUc (fwUc h 19 0 A) 20 0 B) 25 0 (mAh (h 18 0) (mWil h 0) (h 5 0 3).toNat)) 7 0 2 (mW1o (mAh (h 18 0) (mWil h 0) (h 5 0 3).toNat) x n ((h 4 0 1).toNat - x) (-1, h 7 0 2, h 7 0 3) (x + 1)).2.1) 7 0 3 (mW1o (mAh (h 18 0) (mWil h 0) (h 5 0 3).toNat) x n ((h 4 0 1).toNat - x) (-1, h 7 0 2, h 7 0 3) (x + 1)).2.2)) : fwCt mX10_walkOne (d + 5) [aR 7 0, aI (x : Int), aI n] h Q := by
  refine fwCt_of [some (aR 7 0), some (aI (x : Int)), some (aI n), none, none, none, none] rfl rfl rfl ?_
  have hpz := hP.1
  have hgz := hG.1
  refine w_aload_n dX10_walkOne_0 rfl ?_
  refine w_callV (d := d + 4) (S := []) [] dX10_walkOne_1 ml_X10_54 ok_X10_gatherNames vi_X10_gatherNames rfl rfl (by decide) rfl (Nat.le_of_ble_eq_true rfl) ?_
  refine c_X10_gather (d := d) (by first | assumption | omega | decide) (by first | assumption | omega | decide) (by first | assumption | omega | decide) (by first | assumption | omega | decide) (by first | assumption | omega | decide) ?_
  intro A1 B2
  show fwWP mX10_walkOne (d + 5) 4 [some (aR 7 0), some (aI (x : Int)), some (aI n), none, none, none, none] [] (fwUc (fwUc (fwUc h 19 0 A1) 20 0 B2) 25 0 (mAh (h 18 0) (mWil h 0) (h 5 0 3).toNat)) Q
  refine w_iconst dX10_walkOne_4 ?_
  refine w_istore_n [some (aR 7 0), some (aI (x : Int)), some (aI n), some (aI (-1)), none, none, none] dX10_walkOne_5 rfl (by decide) ?_
  refine w_iconst dX10_walkOne_6 ?_
  refine w_istore [some (aR 7 0), some (aI (x : Int)), some (aI n), some (aI (-1)), some (aI 0), none, none] dX10_walkOne_7 rfl (by decide) ?_
  have lp9 : ∀ a : Nat, a ≤ (x + 1) → ∀ (y9 fo : Int) (hh9 : fwH), y9 = (a : Int) → fo = (mW1o (mAh (h 18 0) (mWil h 0) (h 5 0 3).toNat) x n ((h 4 0 1).toNat - x) (-1, h 7 0 2, h 7 0 3) a).1 → hh9 = (fwUp (fwUp (fwUc (fwUc (fwUc h 19 0 A1) 20 0 B2) 25 0 (mAh (h 18 0) (mWil h 0) (h 5 0 3).toNat)) 7 0 2 (mW1o (mAh (h 18 0) (mWil h 0) (h 5 0 3).toNat) x n ((h 4 0 1).toNat - x) (-1, h 7 0 2, h 7 0 3) a).2.1) 7 0 3 (mW1o (mAh (h 18 0) (mWil h 0) (h 5 0 3).toNat) x n ((h 4 0 1).toNat - x) (-1, h 7 0 2, h 7 0 3) a).2.2) → fwWP mX10_walkOne (d + 5) 9 [some (aR 7 0), some (aI (x : Int)), some (aI n), some (aI fo), some (aI y9), none, none] [] hh9 Q := by
    refine fw_up (fun a hc9 ih9 => ?_)
    intro y9 fo hh9 ey9 e_fo eh9
    subst ey9
    subst e_fo
    subst eh9
    show fwWP mX10_walkOne (d + 5) 9 [some (aR 7 0), some (aI (x : Int)), some (aI n), some (aI ((mW1o (mAh (h 18 0) (mWil h 0) (h 5 0 3).toNat) x n ((h 4 0 1).toNat - x) (-1, h 7 0 2, h 7 0 3) a).1)), some (aI (a : Int)), none, none] [] (fwUp (fwUp (fwUc (fwUc (fwUc h 19 0 A1) 20 0 B2) 25 0 (mAh (h 18 0) (mWil h 0) (h 5 0 3).toNat)) 7 0 2 (mW1o (mAh (h 18 0) (mWil h 0) (h 5 0 3).toNat) x n ((h 4 0 1).toNat - x) (-1, h 7 0 2, h 7 0 3) a).2.1) 7 0 3 (mW1o (mAh (h 18 0) (mWil h 0) (h 5 0 3).toNat) x n ((h 4 0 1).toNat - x) (-1, h 7 0 2, h 7 0 3) a).2.2) Q
    refine w_iload dX10_walkOne_9 rfl ?_
    refine w_iload_n dX10_walkOne_11 rfl ?_
    refine w_icmp_gt 93 dX10_walkOne_12 (by decide) (by omega) (by omega) (fun c12 => ?_) (fun c12 => ?_)
    · have ec9 : (x + 1) = a := by omega
      subst ec9
      refine w_iload_n dX10_walkOne_93 rfl ?_
      exact w_iret dX10_walkOne_94 rfl (k _ _)
    · refine w_iload_n dX10_walkOne_15 rfl ?_
      refine w_istore [some (aR 7 0), some (aI (x : Int)), some (aI n), some (aI ((mW1o (mAh (h 18 0) (mWil h 0) (h 5 0 3).toNat) x n ((h 4 0 1).toNat - x) (-1, h 7 0 2, h 7 0 3) a).1)), some (aI (a : Int)), some (aI (x : Int)), none] dX10_walkOne_16 rfl (by decide) ?_
      have lp18 : ∀ j : Nat, j ≤ ((h 4 0 1).toNat - x) → ∀ (y18 fe : Int) (hh18 : fwH), y18 = (x : Int) + (j : Int) → fe = (mW1i (mAh (h 18 0) (mWil h 0) (h 5 0 3).toNat) x n a (mW1o (mAh (h 18 0) (mWil h 0) (h 5 0 3).toNat) x n ((h 4 0 1).toNat - x) (-1, h 7 0 2, h 7 0 3) a) j).1 → hh18 = (fwUp (fwUp (fwUc (fwUc (fwUc h 19 0 A1) 20 0 B2) 25 0 (mAh (h 18 0) (mWil h 0) (h 5 0 3).toNat)) 7 0 2 (mW1i (mAh (h 18 0) (mWil h 0) (h 5 0 3).toNat) x n a (mW1o (mAh (h 18 0) (mWil h 0) (h 5 0 3).toNat) x n ((h 4 0 1).toNat - x) (-1, h 7 0 2, h 7 0 3) a) j).2.1) 7 0 3 (mW1i (mAh (h 18 0) (mWil h 0) (h 5 0 3).toNat) x n a (mW1o (mAh (h 18 0) (mWil h 0) (h 5 0 3).toNat) x n ((h 4 0 1).toNat - x) (-1, h 7 0 2, h 7 0 3) a) j).2.2) → fwWP mX10_walkOne (d + 5) 18 [some (aR 7 0), some (aI (x : Int)), some (aI n), some (aI fe), some (aI (a : Int)), some (aI y18), none] [] hh18 Q := by
        refine fw_up (fun j hc18 ih18 => ?_)
        intro y18 fe hh18 ey18 e_fe eh18
        subst ey18
        subst e_fe
        subst eh18
        have hir := mW1i_rng (N := (mAh (h 18 0) (mWil h 0) (h 5 0 3).toNat)) (n := n) (x := x) (a := a) (s0 := mW1o (mAh (h 18 0) (mWil h 0) (h 5 0 3).toNat) x n ((h 4 0 1).toNat - x) (-1, h 7 0 2, h 7 0 3) a) (by omega) (by omega) (mW1o_rng (by omega) (by omega) (by dsimp only; omega) a (by omega)) j (by omega)
        show fwWP mX10_walkOne (d + 5) 18 [some (aR 7 0), some (aI (x : Int)), some (aI n), some (aI ((mW1i (mAh (h 18 0) (mWil h 0) (h 5 0 3).toNat) x n a (mW1o (mAh (h 18 0) (mWil h 0) (h 5 0 3).toNat) x n ((h 4 0 1).toNat - x) (-1, h 7 0 2, h 7 0 3) a) j).1)), some (aI (a : Int)), some (aI ((x : Int) + (j : Int))), none] [] (fwUp (fwUp (fwUc (fwUc (fwUc h 19 0 A1) 20 0 B2) 25 0 (mAh (h 18 0) (mWil h 0) (h 5 0 3).toNat)) 7 0 2 (mW1i (mAh (h 18 0) (mWil h 0) (h 5 0 3).toNat) x n a (mW1o (mAh (h 18 0) (mWil h 0) (h 5 0 3).toNat) x n ((h 4 0 1).toNat - x) (-1, h 7 0 2, h 7 0 3) a) j).2.1) 7 0 3 (mW1i (mAh (h 18 0) (mWil h 0) (h 5 0 3).toNat) x n a (mW1o (mAh (h 18 0) (mWil h 0) (h 5 0 3).toNat) x n ((h 4 0 1).toNat - x) (-1, h 7 0 2, h 7 0 3) a) j).2.2) Q
        refine w_iload dX10_walkOne_18 rfl ?_
        refine w_aload_n dX10_walkOne_20 rfl ?_
        refine w_getr 3 0 dX10_walkOne_21 fl_X10_15 rfl (by decide) ?_
        refine w_getr 4 0 dX10_walkOne_24 fl_X10_25 rfl (by decide) ?_
        refine w_getiE (v := h 4 0 1) dX10_walkOne_27 fl_X10_57 rfl (by decide) (by first | rfl | simp [fwUp, fwUc]) ?_
        refine w_icmp_ge 87 dX10_walkOne_30 (by decide) (by omega) (by omega) (fun c30 => ?_) (fun c30 => ?_)
        · have ec18 : ((h 4 0 1).toNat - x) = j := by omega
          subst ec18
          refine w_iinc [some (aR 7 0), some (aI (x : Int)), some (aI n), some (aI ((mW1i (mAh (h 18 0) (mWil h 0) (h 5 0 3).toNat) x n a (mW1o (mAh (h 18 0) (mWil h 0) (h 5 0 3).toNat) x n ((h 4 0 1).toNat - x) (-1, h 7 0 2, h 7 0 3) a) ((h 4 0 1).toNat - x)).1)), some (aI ((a : Int) + 1)), some (aI ((x : Int) + ((((h 4 0 1).toNat - x) : Nat) : Int))), none] dX10_walkOne_87 rfl rfl (by decide) ?_
          refine w_goto 9 dX10_walkOne_90 (by decide) ?_
          refine w_drop [5] [some (aR 7 0), some (aI (x : Int)), some (aI n), some (aI ((mW1i (mAh (h 18 0) (mWil h 0) (h 5 0 3).toNat) x n a (mW1o (mAh (h 18 0) (mWil h 0) (h 5 0 3).toNat) x n ((h 4 0 1).toNat - x) (-1, h 7 0 2, h 7 0 3) a) ((h 4 0 1).toNat - x)).1)), some (aI ((a : Int) + 1)), none, none] rfl ?_
          refine ih9 (by omega) _ _ _ ?_ ?_ ?_
          · exact (by omega)
          · exact rfl
          · exact rfl
        · refine w_iload_n dX10_walkOne_33 rfl ?_
          refine w_iload dX10_walkOne_34 rfl ?_
          refine w_iload dX10_walkOne_36 rfl ?_
          refine w_callS (d := d + 4) (S := []) [aI (x : Int), aI (a : Int), aI ((x : Int) + (j : Int))] dX10_walkOne_38 ml_X10_62 ok_X10_stepsOf st_X10_stepsOf rfl (Nat.le_of_ble_eq_true rfl) ?_
          refine c_X10_steps (d := (d + 3)) (x : Int) (a : Int) ((x : Int) + (j : Int)) (by first | assumption | omega | decide) (by first | assumption | omega | decide) (by first | assumption | omega | decide) ?_
          show fwWP mX10_walkOne (d + 5) 41 [some (aR 7 0), some (aI (x : Int)), some (aI n), some (aI ((mW1i (mAh (h 18 0) (mWil h 0) (h 5 0 3).toNat) x n a (mW1o (mAh (h 18 0) (mWil h 0) (h 5 0 3).toNat) x n ((h 4 0 1).toNat - x) (-1, h 7 0 2, h 7 0 3) a) j).1)), some (aI (a : Int)), some (aI ((x : Int) + (j : Int))), none] [aI (mSteps (x : Int) (a : Int) ((x : Int) + (j : Int)))] (fwUp (fwUp (fwUc (fwUc (fwUc h 19 0 A1) 20 0 B2) 25 0 (mAh (h 18 0) (mWil h 0) (h 5 0 3).toNat)) 7 0 2 (mW1i (mAh (h 18 0) (mWil h 0) (h 5 0 3).toNat) x n a (mW1o (mAh (h 18 0) (mWil h 0) (h 5 0 3).toNat) x n ((h 4 0 1).toNat - x) (-1, h 7 0 2, h 7 0 3) a) j).2.1) 7 0 3 (mW1i (mAh (h 18 0) (mWil h 0) (h 5 0 3).toNat) x n a (mW1o (mAh (h 18 0) (mWil h 0) (h 5 0 3).toNat) x n ((h 4 0 1).toNat - x) (-1, h 7 0 2, h 7 0 3) a) j).2.2) Q
          refine w_istore [some (aR 7 0), some (aI (x : Int)), some (aI n), some (aI ((mW1i (mAh (h 18 0) (mWil h 0) (h 5 0 3).toNat) x n a (mW1o (mAh (h 18 0) (mWil h 0) (h 5 0 3).toNat) x n ((h 4 0 1).toNat - x) (-1, h 7 0 2, h 7 0 3) a) j).1)), some (aI (a : Int)), some (aI ((x : Int) + (j : Int))), some (aI (mSteps (x : Int) (a : Int) ((x : Int) + (j : Int))))] dX10_walkOne_41 rfl (by decide) ?_
          have hst : -1000 ≤ mSteps x a (x + j) ∧ mSteps x a (x + j) ≤ 1000 := by unfold mSteps; omega
          refine w_iload_n dX10_walkOne_43 rfl ?_
          refine w_iconst dX10_walkOne_44 ?_
          refine w_icmp_eq 54 dX10_walkOne_45 (by decide) (by omega) (by omega) (fun c45 => ?_) (fun c45 => ?_)
          · refine w_aload_n dX10_walkOne_54 rfl ?_
            refine w_iload dX10_walkOne_55 rfl ?_
            refine w_iload dX10_walkOne_57 rfl ?_
            refine w_callV (d := d + 4) (S := []) [aI (a : Int), aI ((x : Int) + (j : Int))] dX10_walkOne_59 ml_X10_51 ok_X10_namesWithin vi_X10_namesWithin rfl rfl (by decide) rfl (Nat.le_of_ble_eq_true rfl) ?_
            refine c_X10_within (d := (d + 4)) (a : Int) ((x : Int) + (j : Int)) (by first | assumption | omega | decide) (by first | assumption | omega | decide) ?_
            show fwWP mX10_walkOne (d + 5) 62 [some (aR 7 0), some (aI (x : Int)), some (aI n), some (aI ((mW1i (mAh (h 18 0) (mWil h 0) (h 5 0 3).toNat) x n a (mW1o (mAh (h 18 0) (mWil h 0) (h 5 0 3).toNat) x n ((h 4 0 1).toNat - x) (-1, h 7 0 2, h 7 0 3) a) j).1)), some (aI (a : Int)), some (aI ((x : Int) + (j : Int))), some (aI (mSteps (x : Int) (a : Int) ((x : Int) + (j : Int))))] [aI (mWi (mAh (h 18 0) (mWil h 0) (h 5 0 3).toNat) (a : Int) ((x : Int) + (j : Int)))] (fwUp (fwUp (fwUc (fwUc (fwUc h 19 0 A1) 20 0 B2) 25 0 (mAh (h 18 0) (mWil h 0) (h 5 0 3).toNat)) 7 0 2 (mW1i (mAh (h 18 0) (mWil h 0) (h 5 0 3).toNat) x n a (mW1o (mAh (h 18 0) (mWil h 0) (h 5 0 3).toNat) x n ((h 4 0 1).toNat - x) (-1, h 7 0 2, h 7 0 3) a) j).2.1) 7 0 3 (mW1i (mAh (h 18 0) (mWil h 0) (h 5 0 3).toNat) x n a (mW1o (mAh (h 18 0) (mWil h 0) (h 5 0 3).toNat) x n ((h 4 0 1).toNat - x) (-1, h 7 0 2, h 7 0 3) a) j).2.2) Q
            have hwr := mWi_rng (mWil h 0) (n := (h 5 0 3).toNat) (by omega) (fun f hf => (hP.2 f hf).2.1) (a : Int) ((x : Int) + (j : Int))
            refine w_iload_n dX10_walkOne_62 rfl ?_
            refine w_icmp_lt 81 dX10_walkOne_63 (by decide) (by omega) (by omega) (fun c63 => ?_) (fun c63 => ?_)
            · refine w_iinc [some (aR 7 0), some (aI (x : Int)), some (aI n), some (aI ((mW1i (mAh (h 18 0) (mWil h 0) (h 5 0 3).toNat) x n a (mW1o (mAh (h 18 0) (mWil h 0) (h 5 0 3).toNat) x n ((h 4 0 1).toNat - x) (-1, h 7 0 2, h 7 0 3) a) j).1)), some (aI (a : Int)), some (aI (((x : Int) + (j : Int)) + 1)), some (aI (mSteps (x : Int) (a : Int) ((x : Int) + (j : Int))))] dX10_walkOne_81 rfl rfl (by decide) ?_
              refine w_goto 18 dX10_walkOne_84 (by decide) ?_
              refine w_drop [6] [some (aR 7 0), some (aI (x : Int)), some (aI n), some (aI ((mW1i (mAh (h 18 0) (mWil h 0) (h 5 0 3).toNat) x n a (mW1o (mAh (h 18 0) (mWil h 0) (h 5 0 3).toNat) x n ((h 4 0 1).toNat - x) (-1, h 7 0 2, h 7 0 3) a) j).1)), some (aI (a : Int)), some (aI (((x : Int) + (j : Int)) + 1)), none] rfl ?_
              refine ih18 (by omega) _ _ _ ?_ ?_ ?_
              · exact (by omega)
              · exact (by rw [mW1i]; first | rw [if_pos (by omega)] | rw [if_neg (by omega)])
              · exact (by rw [mW1i]; first | rw [if_pos (by omega)] | rw [if_neg (by omega)])
            · refine w_iload dX10_walkOne_66 rfl ?_
              refine w_istore_n [some (aR 7 0), some (aI (x : Int)), some (aI n), some (aI (mSteps (x : Int) (a : Int) ((x : Int) + (j : Int)))), some (aI (a : Int)), some (aI ((x : Int) + (j : Int))), some (aI (mSteps (x : Int) (a : Int) ((x : Int) + (j : Int))))] dX10_walkOne_68 rfl (by decide) ?_
              refine w_aload_n dX10_walkOne_69 rfl ?_
              refine w_iload dX10_walkOne_70 rfl ?_
              refine w_puti dX10_walkOne_72 fl_X10_66 fp_7_2 rfl (by decide) ?_
              refine w_aload_n dX10_walkOne_75 rfl ?_
              refine w_iload dX10_walkOne_76 rfl ?_
              refine w_puti dX10_walkOne_78 fl_X10_69 fp_7_3 rfl (by decide) ?_
              refine w_iinc [some (aR 7 0), some (aI (x : Int)), some (aI n), some (aI (mSteps (x : Int) (a : Int) ((x : Int) + (j : Int)))), some (aI (a : Int)), some (aI (((x : Int) + (j : Int)) + 1)), some (aI (mSteps (x : Int) (a : Int) ((x : Int) + (j : Int))))] dX10_walkOne_81 rfl rfl (by decide) ?_
              refine w_goto 18 dX10_walkOne_84 (by decide) ?_
              refine w_drop [6] [some (aR 7 0), some (aI (x : Int)), some (aI n), some (aI (mSteps (x : Int) (a : Int) ((x : Int) + (j : Int)))), some (aI (a : Int)), some (aI (((x : Int) + (j : Int)) + 1)), none] rfl ?_
              refine ih18 (by omega) _ _ _ ?_ ?_ ?_
              · exact (by omega)
              · exact (by rw [mW1i]; first | rw [if_pos (by omega)] | rw [if_neg (by omega)])
              · exact (by rw [fwUp4, mW1i]; first | rw [if_pos (by omega)] | rw [if_neg (by omega)])
          · refine w_iload dX10_walkOne_48 rfl ?_
            refine w_iload_n dX10_walkOne_50 rfl ?_
            refine w_icmp_ge 81 dX10_walkOne_51 (by decide) (by omega) (by omega) (fun c51 => ?_) (fun c51 => ?_)
            · refine w_iinc [some (aR 7 0), some (aI (x : Int)), some (aI n), some (aI ((mW1i (mAh (h 18 0) (mWil h 0) (h 5 0 3).toNat) x n a (mW1o (mAh (h 18 0) (mWil h 0) (h 5 0 3).toNat) x n ((h 4 0 1).toNat - x) (-1, h 7 0 2, h 7 0 3) a) j).1)), some (aI (a : Int)), some (aI (((x : Int) + (j : Int)) + 1)), some (aI (mSteps (x : Int) (a : Int) ((x : Int) + (j : Int))))] dX10_walkOne_81 rfl rfl (by decide) ?_
              refine w_goto 18 dX10_walkOne_84 (by decide) ?_
              refine w_drop [6] [some (aR 7 0), some (aI (x : Int)), some (aI n), some (aI ((mW1i (mAh (h 18 0) (mWil h 0) (h 5 0 3).toNat) x n a (mW1o (mAh (h 18 0) (mWil h 0) (h 5 0 3).toNat) x n ((h 4 0 1).toNat - x) (-1, h 7 0 2, h 7 0 3) a) j).1)), some (aI (a : Int)), some (aI (((x : Int) + (j : Int)) + 1)), none] rfl ?_
              refine ih18 (by omega) _ _ _ ?_ ?_ ?_
              · exact (by omega)
              · exact (by rw [mW1i]; first | rw [if_pos (by omega)] | rw [if_neg (by omega)])
              · exact (by rw [mW1i]; first | rw [if_pos (by omega)] | rw [if_neg (by omega)])
            · refine w_aload_n dX10_walkOne_54 rfl ?_
              refine w_iload dX10_walkOne_55 rfl ?_
              refine w_iload dX10_walkOne_57 rfl ?_
              refine w_callV (d := d + 4) (S := []) [aI (a : Int), aI ((x : Int) + (j : Int))] dX10_walkOne_59 ml_X10_51 ok_X10_namesWithin vi_X10_namesWithin rfl rfl (by decide) rfl (Nat.le_of_ble_eq_true rfl) ?_
              refine c_X10_within (d := (d + 4)) (a : Int) ((x : Int) + (j : Int)) (by first | assumption | omega | decide) (by first | assumption | omega | decide) ?_
              show fwWP mX10_walkOne (d + 5) 62 [some (aR 7 0), some (aI (x : Int)), some (aI n), some (aI ((mW1i (mAh (h 18 0) (mWil h 0) (h 5 0 3).toNat) x n a (mW1o (mAh (h 18 0) (mWil h 0) (h 5 0 3).toNat) x n ((h 4 0 1).toNat - x) (-1, h 7 0 2, h 7 0 3) a) j).1)), some (aI (a : Int)), some (aI ((x : Int) + (j : Int))), some (aI (mSteps (x : Int) (a : Int) ((x : Int) + (j : Int))))] [aI (mWi (mAh (h 18 0) (mWil h 0) (h 5 0 3).toNat) (a : Int) ((x : Int) + (j : Int)))] (fwUp (fwUp (fwUc (fwUc (fwUc h 19 0 A1) 20 0 B2) 25 0 (mAh (h 18 0) (mWil h 0) (h 5 0 3).toNat)) 7 0 2 (mW1i (mAh (h 18 0) (mWil h 0) (h 5 0 3).toNat) x n a (mW1o (mAh (h 18 0) (mWil h 0) (h 5 0 3).toNat) x n ((h 4 0 1).toNat - x) (-1, h 7 0 2, h 7 0 3) a) j).2.1) 7 0 3 (mW1i (mAh (h 18 0) (mWil h 0) (h 5 0 3).toNat) x n a (mW1o (mAh (h 18 0) (mWil h 0) (h 5 0 3).toNat) x n ((h 4 0 1).toNat - x) (-1, h 7 0 2, h 7 0 3) a) j).2.2) Q
              have hwr := mWi_rng (mWil h 0) (n := (h 5 0 3).toNat) (by omega) (fun f hf => (hP.2 f hf).2.1) (a : Int) ((x : Int) + (j : Int))
              refine w_iload_n dX10_walkOne_62 rfl ?_
              refine w_icmp_lt 81 dX10_walkOne_63 (by decide) (by omega) (by omega) (fun c63 => ?_) (fun c63 => ?_)
              · refine w_iinc [some (aR 7 0), some (aI (x : Int)), some (aI n), some (aI ((mW1i (mAh (h 18 0) (mWil h 0) (h 5 0 3).toNat) x n a (mW1o (mAh (h 18 0) (mWil h 0) (h 5 0 3).toNat) x n ((h 4 0 1).toNat - x) (-1, h 7 0 2, h 7 0 3) a) j).1)), some (aI (a : Int)), some (aI (((x : Int) + (j : Int)) + 1)), some (aI (mSteps (x : Int) (a : Int) ((x : Int) + (j : Int))))] dX10_walkOne_81 rfl rfl (by decide) ?_
                refine w_goto 18 dX10_walkOne_84 (by decide) ?_
                refine w_drop [6] [some (aR 7 0), some (aI (x : Int)), some (aI n), some (aI ((mW1i (mAh (h 18 0) (mWil h 0) (h 5 0 3).toNat) x n a (mW1o (mAh (h 18 0) (mWil h 0) (h 5 0 3).toNat) x n ((h 4 0 1).toNat - x) (-1, h 7 0 2, h 7 0 3) a) j).1)), some (aI (a : Int)), some (aI (((x : Int) + (j : Int)) + 1)), none] rfl ?_
                refine ih18 (by omega) _ _ _ ?_ ?_ ?_
                · exact (by omega)
                · exact (by rw [mW1i]; first | rw [if_pos (by omega)] | rw [if_neg (by omega)])
                · exact (by rw [mW1i]; first | rw [if_pos (by omega)] | rw [if_neg (by omega)])
              · refine w_iload dX10_walkOne_66 rfl ?_
                refine w_istore_n [some (aR 7 0), some (aI (x : Int)), some (aI n), some (aI (mSteps (x : Int) (a : Int) ((x : Int) + (j : Int)))), some (aI (a : Int)), some (aI ((x : Int) + (j : Int))), some (aI (mSteps (x : Int) (a : Int) ((x : Int) + (j : Int))))] dX10_walkOne_68 rfl (by decide) ?_
                refine w_aload_n dX10_walkOne_69 rfl ?_
                refine w_iload dX10_walkOne_70 rfl ?_
                refine w_puti dX10_walkOne_72 fl_X10_66 fp_7_2 rfl (by decide) ?_
                refine w_aload_n dX10_walkOne_75 rfl ?_
                refine w_iload dX10_walkOne_76 rfl ?_
                refine w_puti dX10_walkOne_78 fl_X10_69 fp_7_3 rfl (by decide) ?_
                refine w_iinc [some (aR 7 0), some (aI (x : Int)), some (aI n), some (aI (mSteps (x : Int) (a : Int) ((x : Int) + (j : Int)))), some (aI (a : Int)), some (aI (((x : Int) + (j : Int)) + 1)), some (aI (mSteps (x : Int) (a : Int) ((x : Int) + (j : Int))))] dX10_walkOne_81 rfl rfl (by decide) ?_
                refine w_goto 18 dX10_walkOne_84 (by decide) ?_
                refine w_drop [6] [some (aR 7 0), some (aI (x : Int)), some (aI n), some (aI (mSteps (x : Int) (a : Int) ((x : Int) + (j : Int)))), some (aI (a : Int)), some (aI (((x : Int) + (j : Int)) + 1)), none] rfl ?_
                refine ih18 (by omega) _ _ _ ?_ ?_ ?_
                · exact (by omega)
                · exact (by rw [mW1i]; first | rw [if_pos (by omega)] | rw [if_neg (by omega)])
                · exact (by rw [fwUp4, mW1i]; first | rw [if_pos (by omega)] | rw [if_neg (by omega)])
      refine lp18 0 (Nat.zero_le _) _ _ _ ?_ ?_ ?_
      · exact (by omega)
      · exact rfl
      · exact rfl
  refine lp9 0 (Nat.zero_le _) _ _ _ ?_ ?_ ?_
  · exact (by omega)
  · exact rfl
  · exact (by exact (fwUp_self2 _).symm)
def mBei (N : Nat → Int) (y : Nat) (n a b : Int) (u : Nat) (s0 : Int) : Nat → Int
  | 0 => s0
  | j + 1 => if (mBei N y n a b u s0 j = -1 ∨ mSteps y u (y + j) < mBei N y n a b u s0 j) ∧ n ≤ mBoth N a b u (y + j) then mSteps y u (y + j) else mBei N y n a b u s0 j
def mBeo (N : Nat → Int) (y : Nat) (n a b : Int) (m : Nat) : Nat → Int
  | 0 => -1
  | u + 1 => mBei N y n a b u (mBeo N y n a b m u) m
theorem mBei_rng {N : Nat → Int} {y : Nat} {n a b : Int} {u : Nat} {s0 : Int} (hy : y < 10) (hu : u ≤ y) (hs : -1 ≤ s0 ∧ s0 ≤ 1000) : ∀ j, y + j ≤ 10 → -1 ≤ mBei N y n a b u s0 j ∧ mBei N y n a b u s0 j ≤ 1000 := by
  intro j
  induction j with
  | zero => intro _; exact hs
  | succ j ih =>
    intro hj
    have := ih (by omega)
    rw [mBei]
    split
    · unfold mSteps; omega
    · exact this
theorem mBeo_rng {N : Nat → Int} {y : Nat} {n a b : Int} {m : Nat} (hm : y + m ≤ 10) (hy : y < 10) : ∀ u, u ≤ y + 1 → -1 ≤ mBeo N y n a b m u ∧ mBeo N y n a b m u ≤ 1000 := by
  intro u
  induction u with
  | zero => intro _; simp [mBeo]
  | succ u ih =>
    intro hu
    exact mBei_rng hy (by omega) (ih (by omega)) m hm
theorem mWi_r2 {N : Nat → Int} (hN : ∀ c : Nat, c ≤ 10 → 0 ≤ N c ∧ N c ≤ 8000) (x y : Int) : -8000 ≤ mWi N x y ∧ mWi N x y ≤ 8000 := by
  unfold mWi
  split
  · have h1 := hN (y + 1).toNat (by omega)
    have h2 := hN x.toNat (by omega)
    omega
  · omega
theorem mBoth_rng {N : Nat → Int} (hN : ∀ c : Nat, c ≤ 10 → 0 ≤ N c ∧ N c ≤ 8000) (x y u v : Int) : -24000 ≤ mBoth N x y u v ∧ mBoth N x y u v ≤ 24000 := by
  unfold mBoth
  have h1 := mWi_r2 hN x y
  have h2 := mWi_r2 hN u v
  have h3 := mWi_r2 hN (max x u) (min y v)
  omega
set_option maxRecDepth 100000 in
set_option maxHeartbeats 4000000 in
theorem c_X10_besides {d : Nat} {h : fwH} {Q : Option fwV → fwH → Prop} (y : Nat) (n a b : Int) (hG : gOk h 0) (hN : ∀ c : Nat, c ≤ 10 → 0 ≤ h 25 0 c ∧ h 25 0 c ≤ 8000) (hy : (y : Int) < h 4 0 1) (hnn : 0 ≤ n ∧ n ≤ 1000) (ha : 0 ≤ a ∧ a ≤ 10) (hb : 0 ≤ b ∧ b ≤ 10) (k : Q (some (aI (mBeo (h 25 0) y n a b ((h 4 0 1).toNat - y) (y + 1)))) h) : fwCt mX10_besides (d + 2) [aR 7 0, aI (y : Int), aI n, aI a, aI b] h Q := by
  refine fwCt_of [some (aR 7 0), some (aI (y : Int)), some (aI n), some (aI a), some (aI b), none, none, none, none] rfl rfl rfl ?_
  have hgz := hG.1
  refine w_iconst dX10_besides_0 ?_
  refine w_istore [some (aR 7 0), some (aI (y : Int)), some (aI n), some (aI a), some (aI b), some (aI (-1)), none, none, none] dX10_besides_1 rfl (by decide) ?_
  refine w_iconst dX10_besides_3 ?_
  refine w_istore [some (aR 7 0), some (aI (y : Int)), some (aI n), some (aI a), some (aI b), some (aI (-1)), some (aI 0), none, none] dX10_besides_4 rfl (by decide) ?_
  have lp6 : ∀ u : Nat, u ≤ (y + 1) → ∀ (y6 fo : Int), y6 = (u : Int) → fo = mBeo (h 25 0) y n a b ((h 4 0 1).toNat - y) u → fwWP mX10_besides (d + 2) 6 [some (aR 7 0), some (aI (y : Int)), some (aI n), some (aI a), some (aI b), some (aI fo), some (aI y6), none, none] [] h Q := by
    refine fw_up (fun u hc6 ih6 => ?_)
    intro y6 fo ey6 e_fo
    subst ey6
    subst e_fo
    show fwWP mX10_besides (d + 2) 6 [some (aR 7 0), some (aI (y : Int)), some (aI n), some (aI a), some (aI b), some (aI (mBeo (h 25 0) y n a b ((h 4 0 1).toNat - y) u)), some (aI (u : Int)), none, none] [] h Q
    refine w_iload dX10_besides_6 rfl ?_
    refine w_iload_n dX10_besides_8 rfl ?_
    refine w_icmp_gt 84 dX10_besides_9 (by decide) (by omega) (by omega) (fun c9 => ?_) (fun c9 => ?_)
    · have ec6 : (y + 1) = u := by omega
      subst ec6
      refine w_iload dX10_besides_84 rfl ?_
      exact w_iretE dX10_besides_86 rfl (by rfl) k
    · refine w_iload_n dX10_besides_12 rfl ?_
      refine w_istore [some (aR 7 0), some (aI (y : Int)), some (aI n), some (aI a), some (aI b), some (aI (mBeo (h 25 0) y n a b ((h 4 0 1).toNat - y) u)), some (aI (u : Int)), some (aI (y : Int)), none] dX10_besides_13 rfl (by decide) ?_
      have lp15 : ∀ j : Nat, j ≤ ((h 4 0 1).toNat - y) → ∀ (y15 fe : Int), y15 = (y : Int) + (j : Int) → fe = mBei (h 25 0) y n a b u (mBeo (h 25 0) y n a b ((h 4 0 1).toNat - y) u) j → fwWP mX10_besides (d + 2) 15 [some (aR 7 0), some (aI (y : Int)), some (aI n), some (aI a), some (aI b), some (aI fe), some (aI (u : Int)), some (aI y15), none] [] h Q := by
        refine fw_up (fun j hc15 ih15 => ?_)
        intro y15 fe ey15 e_fe
        subst ey15
        subst e_fe
        have hir := mBei_rng (N := h 25 0) (n := n) (y := y) (a := a) (b := b) (u := u) (s0 := mBeo (h 25 0) y n a b ((h 4 0 1).toNat - y) u) (by omega) (by omega) (mBeo_rng (by omega) (by omega) u (by omega)) j (by omega)
        show fwWP mX10_besides (d + 2) 15 [some (aR 7 0), some (aI (y : Int)), some (aI n), some (aI a), some (aI b), some (aI (mBei (h 25 0) y n a b u (mBeo (h 25 0) y n a b ((h 4 0 1).toNat - y) u) j)), some (aI (u : Int)), some (aI ((y : Int) + (j : Int))), none] [] h Q
        refine w_iload dX10_besides_15 rfl ?_
        refine w_aload_n dX10_besides_17 rfl ?_
        refine w_getr 3 0 dX10_besides_18 fl_X10_15 rfl (by decide) ?_
        refine w_getr 4 0 dX10_besides_21 fl_X10_25 rfl (by decide) ?_
        refine w_geti dX10_besides_24 fl_X10_57 rfl (by decide) ?_
        refine w_icmp_ge 78 dX10_besides_27 (by decide) (by omega) (by omega) (fun c27 => ?_) (fun c27 => ?_)
        · have ec15 : ((h 4 0 1).toNat - y) = j := by omega
          subst ec15
          refine w_iinc [some (aR 7 0), some (aI (y : Int)), some (aI n), some (aI a), some (aI b), some (aI (mBei (h 25 0) y n a b u (mBeo (h 25 0) y n a b ((h 4 0 1).toNat - y) u) ((h 4 0 1).toNat - y))), some (aI ((u : Int) + 1)), some (aI ((y : Int) + ((((h 4 0 1).toNat - y) : Nat) : Int))), none] dX10_besides_78 rfl rfl (by decide) ?_
          refine w_goto 6 dX10_besides_81 (by decide) ?_
          refine w_drop [7] [some (aR 7 0), some (aI (y : Int)), some (aI n), some (aI a), some (aI b), some (aI (mBei (h 25 0) y n a b u (mBeo (h 25 0) y n a b ((h 4 0 1).toNat - y) u) ((h 4 0 1).toNat - y))), some (aI ((u : Int) + 1)), none, none] rfl ?_
          refine ih6 (by omega) _ _ ?_ ?_
          · exact (by omega)
          · exact rfl
        · refine w_iload_n dX10_besides_30 rfl ?_
          refine w_iload dX10_besides_31 rfl ?_
          refine w_iload dX10_besides_33 rfl ?_
          refine w_callS (d := d + 1) (S := []) [aI (y : Int), aI (u : Int), aI ((y : Int) + (j : Int))] dX10_besides_35 ml_X10_62 ok_X10_stepsOf st_X10_stepsOf rfl (Nat.le_of_ble_eq_true rfl) ?_
          refine c_X10_steps (d := d) (y : Int) (u : Int) ((y : Int) + (j : Int)) (by first | assumption | omega | decide) (by first | assumption | omega | decide) (by first | assumption | omega | decide) ?_
          show fwWP mX10_besides (d + 2) 38 [some (aR 7 0), some (aI (y : Int)), some (aI n), some (aI a), some (aI b), some (aI (mBei (h 25 0) y n a b u (mBeo (h 25 0) y n a b ((h 4 0 1).toNat - y) u) j)), some (aI (u : Int)), some (aI ((y : Int) + (j : Int))), none] [aI (mSteps (y : Int) (u : Int) ((y : Int) + (j : Int)))] h Q
          refine w_istore [some (aR 7 0), some (aI (y : Int)), some (aI n), some (aI a), some (aI b), some (aI (mBei (h 25 0) y n a b u (mBeo (h 25 0) y n a b ((h 4 0 1).toNat - y) u) j)), some (aI (u : Int)), some (aI ((y : Int) + (j : Int))), some (aI (mSteps (y : Int) (u : Int) ((y : Int) + (j : Int))))] dX10_besides_38 rfl (by decide) ?_
          have hst : -1000 ≤ mSteps y u (y + j) ∧ mSteps y u (y + j) ≤ 1000 := by unfold mSteps; omega
          refine w_iload dX10_besides_40 rfl ?_
          refine w_iconst dX10_besides_42 ?_
          refine w_icmp_eq 53 dX10_besides_43 (by decide) (by omega) (by omega) (fun c43 => ?_) (fun c43 => ?_)
          · refine w_aload_n dX10_besides_53 rfl ?_
            refine w_iload_n dX10_besides_54 rfl ?_
            refine w_iload dX10_besides_55 rfl ?_
            refine w_iload dX10_besides_57 rfl ?_
            refine w_iload dX10_besides_59 rfl ?_
            refine w_callV (d := d + 1) (S := []) [aI a, aI b, aI (u : Int), aI ((y : Int) + (j : Int))] dX10_besides_61 ml_X10_76 ok_X10_namesOfBoth vi_X10_namesOfBoth rfl rfl (by decide) rfl (Nat.le_of_ble_eq_true rfl) ?_
            refine c_X10_both (d := d) a b (u : Int) ((y : Int) + (j : Int)) (by first | assumption | omega | decide) (by first | assumption | omega | decide) (by first | assumption | omega | decide) (by first | assumption | omega | decide) ?_
            show fwWP mX10_besides (d + 2) 64 [some (aR 7 0), some (aI (y : Int)), some (aI n), some (aI a), some (aI b), some (aI (mBei (h 25 0) y n a b u (mBeo (h 25 0) y n a b ((h 4 0 1).toNat - y) u) j)), some (aI (u : Int)), some (aI ((y : Int) + (j : Int))), some (aI (mSteps (y : Int) (u : Int) ((y : Int) + (j : Int))))] [aI (mBoth (h 25 0) a b (u : Int) ((y : Int) + (j : Int)))] h Q
            have hwr := mBoth_rng hN a b (u : Int) ((y : Int) + (j : Int))
            refine w_iload_n dX10_besides_64 rfl ?_
            refine w_icmp_lt 72 dX10_besides_65 (by decide) (by omega) (by omega) (fun c65 => ?_) (fun c65 => ?_)
            · refine w_iinc [some (aR 7 0), some (aI (y : Int)), some (aI n), some (aI a), some (aI b), some (aI (mBei (h 25 0) y n a b u (mBeo (h 25 0) y n a b ((h 4 0 1).toNat - y) u) j)), some (aI (u : Int)), some (aI (((y : Int) + (j : Int)) + 1)), some (aI (mSteps (y : Int) (u : Int) ((y : Int) + (j : Int))))] dX10_besides_72 rfl rfl (by decide) ?_
              refine w_goto 15 dX10_besides_75 (by decide) ?_
              refine w_drop [8] [some (aR 7 0), some (aI (y : Int)), some (aI n), some (aI a), some (aI b), some (aI (mBei (h 25 0) y n a b u (mBeo (h 25 0) y n a b ((h 4 0 1).toNat - y) u) j)), some (aI (u : Int)), some (aI (((y : Int) + (j : Int)) + 1)), none] rfl ?_
              refine ih15 (by omega) _ _ ?_ ?_
              · exact (by omega)
              · exact (by rw [mBei]; first | rw [if_pos (by omega)] | rw [if_neg (by omega)])
            · refine w_iload dX10_besides_68 rfl ?_
              refine w_istore [some (aR 7 0), some (aI (y : Int)), some (aI n), some (aI a), some (aI b), some (aI (mSteps (y : Int) (u : Int) ((y : Int) + (j : Int)))), some (aI (u : Int)), some (aI ((y : Int) + (j : Int))), some (aI (mSteps (y : Int) (u : Int) ((y : Int) + (j : Int))))] dX10_besides_70 rfl (by decide) ?_
              refine w_iinc [some (aR 7 0), some (aI (y : Int)), some (aI n), some (aI a), some (aI b), some (aI (mSteps (y : Int) (u : Int) ((y : Int) + (j : Int)))), some (aI (u : Int)), some (aI (((y : Int) + (j : Int)) + 1)), some (aI (mSteps (y : Int) (u : Int) ((y : Int) + (j : Int))))] dX10_besides_72 rfl rfl (by decide) ?_
              refine w_goto 15 dX10_besides_75 (by decide) ?_
              refine w_drop [8] [some (aR 7 0), some (aI (y : Int)), some (aI n), some (aI a), some (aI b), some (aI (mSteps (y : Int) (u : Int) ((y : Int) + (j : Int)))), some (aI (u : Int)), some (aI (((y : Int) + (j : Int)) + 1)), none] rfl ?_
              refine ih15 (by omega) _ _ ?_ ?_
              · exact (by omega)
              · exact (by rw [mBei]; first | rw [if_pos (by omega)] | rw [if_neg (by omega)])
          · refine w_iload dX10_besides_46 rfl ?_
            refine w_iload dX10_besides_48 rfl ?_
            refine w_icmp_ge 72 dX10_besides_50 (by decide) (by omega) (by omega) (fun c50 => ?_) (fun c50 => ?_)
            · refine w_iinc [some (aR 7 0), some (aI (y : Int)), some (aI n), some (aI a), some (aI b), some (aI (mBei (h 25 0) y n a b u (mBeo (h 25 0) y n a b ((h 4 0 1).toNat - y) u) j)), some (aI (u : Int)), some (aI (((y : Int) + (j : Int)) + 1)), some (aI (mSteps (y : Int) (u : Int) ((y : Int) + (j : Int))))] dX10_besides_72 rfl rfl (by decide) ?_
              refine w_goto 15 dX10_besides_75 (by decide) ?_
              refine w_drop [8] [some (aR 7 0), some (aI (y : Int)), some (aI n), some (aI a), some (aI b), some (aI (mBei (h 25 0) y n a b u (mBeo (h 25 0) y n a b ((h 4 0 1).toNat - y) u) j)), some (aI (u : Int)), some (aI (((y : Int) + (j : Int)) + 1)), none] rfl ?_
              refine ih15 (by omega) _ _ ?_ ?_
              · exact (by omega)
              · exact (by rw [mBei]; first | rw [if_pos (by omega)] | rw [if_neg (by omega)])
            · refine w_aload_n dX10_besides_53 rfl ?_
              refine w_iload_n dX10_besides_54 rfl ?_
              refine w_iload dX10_besides_55 rfl ?_
              refine w_iload dX10_besides_57 rfl ?_
              refine w_iload dX10_besides_59 rfl ?_
              refine w_callV (d := d + 1) (S := []) [aI a, aI b, aI (u : Int), aI ((y : Int) + (j : Int))] dX10_besides_61 ml_X10_76 ok_X10_namesOfBoth vi_X10_namesOfBoth rfl rfl (by decide) rfl (Nat.le_of_ble_eq_true rfl) ?_
              refine c_X10_both (d := d) a b (u : Int) ((y : Int) + (j : Int)) (by first | assumption | omega | decide) (by first | assumption | omega | decide) (by first | assumption | omega | decide) (by first | assumption | omega | decide) ?_
              show fwWP mX10_besides (d + 2) 64 [some (aR 7 0), some (aI (y : Int)), some (aI n), some (aI a), some (aI b), some (aI (mBei (h 25 0) y n a b u (mBeo (h 25 0) y n a b ((h 4 0 1).toNat - y) u) j)), some (aI (u : Int)), some (aI ((y : Int) + (j : Int))), some (aI (mSteps (y : Int) (u : Int) ((y : Int) + (j : Int))))] [aI (mBoth (h 25 0) a b (u : Int) ((y : Int) + (j : Int)))] h Q
              have hwr := mBoth_rng hN a b (u : Int) ((y : Int) + (j : Int))
              refine w_iload_n dX10_besides_64 rfl ?_
              refine w_icmp_lt 72 dX10_besides_65 (by decide) (by omega) (by omega) (fun c65 => ?_) (fun c65 => ?_)
              · refine w_iinc [some (aR 7 0), some (aI (y : Int)), some (aI n), some (aI a), some (aI b), some (aI (mBei (h 25 0) y n a b u (mBeo (h 25 0) y n a b ((h 4 0 1).toNat - y) u) j)), some (aI (u : Int)), some (aI (((y : Int) + (j : Int)) + 1)), some (aI (mSteps (y : Int) (u : Int) ((y : Int) + (j : Int))))] dX10_besides_72 rfl rfl (by decide) ?_
                refine w_goto 15 dX10_besides_75 (by decide) ?_
                refine w_drop [8] [some (aR 7 0), some (aI (y : Int)), some (aI n), some (aI a), some (aI b), some (aI (mBei (h 25 0) y n a b u (mBeo (h 25 0) y n a b ((h 4 0 1).toNat - y) u) j)), some (aI (u : Int)), some (aI (((y : Int) + (j : Int)) + 1)), none] rfl ?_
                refine ih15 (by omega) _ _ ?_ ?_
                · exact (by omega)
                · exact (by rw [mBei]; first | rw [if_pos (by omega)] | rw [if_neg (by omega)])
              · refine w_iload dX10_besides_68 rfl ?_
                refine w_istore [some (aR 7 0), some (aI (y : Int)), some (aI n), some (aI a), some (aI b), some (aI (mSteps (y : Int) (u : Int) ((y : Int) + (j : Int)))), some (aI (u : Int)), some (aI ((y : Int) + (j : Int))), some (aI (mSteps (y : Int) (u : Int) ((y : Int) + (j : Int))))] dX10_besides_70 rfl (by decide) ?_
                refine w_iinc [some (aR 7 0), some (aI (y : Int)), some (aI n), some (aI a), some (aI b), some (aI (mSteps (y : Int) (u : Int) ((y : Int) + (j : Int)))), some (aI (u : Int)), some (aI (((y : Int) + (j : Int)) + 1)), some (aI (mSteps (y : Int) (u : Int) ((y : Int) + (j : Int))))] dX10_besides_72 rfl rfl (by decide) ?_
                refine w_goto 15 dX10_besides_75 (by decide) ?_
                refine w_drop [8] [some (aR 7 0), some (aI (y : Int)), some (aI n), some (aI a), some (aI b), some (aI (mSteps (y : Int) (u : Int) ((y : Int) + (j : Int)))), some (aI (u : Int)), some (aI (((y : Int) + (j : Int)) + 1)), none] rfl ?_
                refine ih15 (by omega) _ _ ?_ ?_
                · exact (by omega)
                · exact (by rw [mBei]; first | rw [if_pos (by omega)] | rw [if_neg (by omega)])
      refine lp15 0 (Nat.zero_le _) _ _ ?_ ?_
      · exact (by omega)
      · exact rfl
  refine lp6 0 (Nat.zero_le _) _ _ ?_ ?_
  · exact (by omega)
  · exact rfl
def mT2i (N : Nat → Int) (x y : Nat) (n : Int) (my a : Nat) (s0 : Int) : Nat → Int
  | 0 => s0
  | j + 1 => if mBeo N y n a (x + j) my (y + 1) = -1 then mT2i N x y n my a s0 j else if mT2i N x y n my a s0 j = -1 then max (mBeo N y n a (x + j) my (y + 1)) (mSteps x a (x + j)) else min (mT2i N x y n my a s0 j) (max (mBeo N y n a (x + j) my (y + 1)) (mSteps x a (x + j)))
def mT2o (N : Nat → Int) (x y : Nat) (n : Int) (mx my : Nat) : Nat → Int
  | 0 => -1
  | a + 1 => mT2i N x y n my a (mT2o N x y n mx my a) mx
theorem mT2i_rng {N : Nat → Int} {x y : Nat} {n : Int} {my a : Nat} {s0 : Int} (hx : x < 10) (hy : y < 10) (hm : y + my ≤ 10) (ha : a ≤ x) (hs : -1 ≤ s0 ∧ s0 ≤ 1000) : ∀ j, x + j ≤ 10 → -1 ≤ mT2i N x y n my a s0 j ∧ mT2i N x y n my a s0 j ≤ 1000 := by
  intro j
  induction j with
  | zero => intro _; exact hs
  | succ j ih =>
    intro hj
    have h1 := ih (by omega)
    have h2 := mBeo_rng (N := N) (n := n) (a := (a : Int)) (b := (x : Int) + j) hm hy (y + 1) (by omega)
    have h3 : 0 ≤ mSteps x a (x + j) ∧ mSteps x a (x + j) ≤ 1000 := by unfold mSteps; omega
    rw [mT2i]
    split
    · exact h1
    · split <;> omega
theorem mT2o_rng {N : Nat → Int} {x y : Nat} {n : Int} {mx my : Nat} (hx : x < 10) (hy : y < 10) (hm : y + my ≤ 10) (hm2 : x + mx ≤ 10) : ∀ a, a ≤ x + 1 → -1 ≤ mT2o N x y n mx my a ∧ mT2o N x y n mx my a ≤ 1000 := by
  intro a
  induction a with
  | zero => intro _; simp [mT2o]
  | succ a ih =>
    intro ha
    exact mT2i_rng hx hy hm (by omega) (ih (by omega)) mx hm2
set_option maxRecDepth 100000 in
set_option maxHeartbeats 4000000 in
theorem c_X10_walkTwo {d : Nat} {h : fwH} {Q : Option fwV → fwH → Prop} (x y : Nat) (n : Int) (hP : pOk h 0) (hG : gOk h 0) (hn : 1 ≤ h 4 0 1) (hM : ∀ c : Nat, c < 10 → h 17 0 c ≤ 999) (hna : h 25 0 0 = 0) (hx : (x : Int) < h 4 0 1) (hy : (y : Int) < h 4 0 1) (hnn : 0 ≤ n ∧ n ≤ 1000) (k : ∀ A B, Q (some (aI (mT2o (mAh (h 18 0) (mWil h 0) (h 5 0 3).toNat) x y n ((h 4 0 1).toNat - x) ((h 4 0 1).toNat - y) (x + 1)))) (fwUc (fwUc (fwUc h 19 0 A) 20 0 B) 25 0 (mAh (h 18 0) (mWil h 0) (h 5 0 3).toNat))) : fwCt mX10_walkTwo (d + 5) [aR 7 0, aI (x : Int), aI (y : Int), aI n] h Q := by
  refine fwCt_of [some (aR 7 0), some (aI (x : Int)), some (aI (y : Int)), some (aI n), none, none, none, none] rfl rfl rfl ?_
  have hpz := hP.1
  have hgz := hG.1
  refine w_aload_n dX10_walkTwo_0 rfl ?_
  refine w_callV (d := d + 4) (S := []) [] dX10_walkTwo_1 ml_X10_54 ok_X10_gatherNames vi_X10_gatherNames rfl rfl (by decide) rfl (Nat.le_of_ble_eq_true rfl) ?_
  refine c_X10_gather (d := d) (by first | assumption | omega | decide) (by first | assumption | omega | decide) (by first | assumption | omega | decide) (by first | assumption | omega | decide) (by first | assumption | omega | decide) ?_
  intro A1 B2
  show fwWP mX10_walkTwo (d + 5) 4 [some (aR 7 0), some (aI (x : Int)), some (aI (y : Int)), some (aI n), none, none, none, none] [] (fwUc (fwUc (fwUc h 19 0 A1) 20 0 B2) 25 0 (mAh (h 18 0) (mWil h 0) (h 5 0 3).toNat)) Q
  have hN : ∀ c : Nat, c ≤ 10 → 0 ≤ (mAh (h 18 0) (mWil h 0) (h 5 0 3).toNat) c ∧ (mAh (h 18 0) (mWil h 0) (h 5 0 3).toNat) c ≤ 8000 := fun c hc => by have := mAh_rng (F := h 18 0) (mWil h 0) (n := (h 5 0 3).toNat) (by omega) (fun f hf => (hP.2 f hf).2.1) c; omega
  refine w_iconst dX10_walkTwo_4 ?_
  refine w_istore [some (aR 7 0), some (aI (x : Int)), some (aI (y : Int)), some (aI n), some (aI (-1)), none, none, none] dX10_walkTwo_5 rfl (by decide) ?_
  refine w_iconst dX10_walkTwo_7 ?_
  refine w_istore [some (aR 7 0), some (aI (x : Int)), some (aI (y : Int)), some (aI n), some (aI (-1)), some (aI 0), none, none] dX10_walkTwo_8 rfl (by decide) ?_
  have lp10 : ∀ a : Nat, a ≤ (x + 1) → ∀ (y10 fo : Int), y10 = (a : Int) → fo = mT2o (mAh (h 18 0) (mWil h 0) (h 5 0 3).toNat) x y n ((h 4 0 1).toNat - x) ((h 4 0 1).toNat - y) a → fwWP mX10_walkTwo (d + 5) 10 [some (aR 7 0), some (aI (x : Int)), some (aI (y : Int)), some (aI n), some (aI fo), some (aI y10), none, none] [] (fwUc (fwUc (fwUc h 19 0 A1) 20 0 B2) 25 0 (mAh (h 18 0) (mWil h 0) (h 5 0 3).toNat)) Q := by
    refine fw_up (fun a hc10 ih10 => ?_)
    intro y10 fo ey10 e_fo
    subst ey10
    subst e_fo
    show fwWP mX10_walkTwo (d + 5) 10 [some (aR 7 0), some (aI (x : Int)), some (aI (y : Int)), some (aI n), some (aI (mT2o (mAh (h 18 0) (mWil h 0) (h 5 0 3).toNat) x y n ((h 4 0 1).toNat - x) ((h 4 0 1).toNat - y) a)), some (aI (a : Int)), none, none] [] (fwUc (fwUc (fwUc h 19 0 A1) 20 0 B2) 25 0 (mAh (h 18 0) (mWil h 0) (h 5 0 3).toNat)) Q
    refine w_iload dX10_walkTwo_10 rfl ?_
    refine w_iload_n dX10_walkTwo_12 rfl ?_
    refine w_icmp_gt 99 dX10_walkTwo_13 (by decide) (by omega) (by omega) (fun c13 => ?_) (fun c13 => ?_)
    · have ec10 : (x + 1) = a := by omega
      subst ec10
      refine w_iload dX10_walkTwo_99 rfl ?_
      exact w_iret dX10_walkTwo_101 rfl (k _ _)
    · refine w_iload_n dX10_walkTwo_16 rfl ?_
      refine w_istore [some (aR 7 0), some (aI (x : Int)), some (aI (y : Int)), some (aI n), some (aI (mT2o (mAh (h 18 0) (mWil h 0) (h 5 0 3).toNat) x y n ((h 4 0 1).toNat - x) ((h 4 0 1).toNat - y) a)), some (aI (a : Int)), some (aI (x : Int)), none] dX10_walkTwo_17 rfl (by decide) ?_
      have lp19 : ∀ j : Nat, j ≤ ((h 4 0 1).toNat - x) → ∀ (y19 fe : Int), y19 = (x : Int) + (j : Int) → fe = mT2i (mAh (h 18 0) (mWil h 0) (h 5 0 3).toNat) x y n ((h 4 0 1).toNat - y) a (mT2o (mAh (h 18 0) (mWil h 0) (h 5 0 3).toNat) x y n ((h 4 0 1).toNat - x) ((h 4 0 1).toNat - y) a) j → fwWP mX10_walkTwo (d + 5) 19 [some (aR 7 0), some (aI (x : Int)), some (aI (y : Int)), some (aI n), some (aI fe), some (aI (a : Int)), some (aI y19), none] [] (fwUc (fwUc (fwUc h 19 0 A1) 20 0 B2) 25 0 (mAh (h 18 0) (mWil h 0) (h 5 0 3).toNat)) Q := by
        refine fw_up (fun j hc19 ih19 => ?_)
        intro y19 fe ey19 e_fe
        subst ey19
        subst e_fe
        have hir := mT2i_rng (N := (mAh (h 18 0) (mWil h 0) (h 5 0 3).toNat)) (n := n) (x := x) (y := y) (my := ((h 4 0 1).toNat - y)) (a := a) (s0 := mT2o (mAh (h 18 0) (mWil h 0) (h 5 0 3).toNat) x y n ((h 4 0 1).toNat - x) ((h 4 0 1).toNat - y) a) (by omega) (by omega) (by omega) (by omega) (mT2o_rng (by omega) (by omega) (by omega) (by omega) a (by omega)) j (by omega)
        show fwWP mX10_walkTwo (d + 5) 19 [some (aR 7 0), some (aI (x : Int)), some (aI (y : Int)), some (aI n), some (aI (mT2i (mAh (h 18 0) (mWil h 0) (h 5 0 3).toNat) x y n ((h 4 0 1).toNat - y) a (mT2o (mAh (h 18 0) (mWil h 0) (h 5 0 3).toNat) x y n ((h 4 0 1).toNat - x) ((h 4 0 1).toNat - y) a) j)), some (aI (a : Int)), some (aI ((x : Int) + (j : Int))), none] [] (fwUc (fwUc (fwUc h 19 0 A1) 20 0 B2) 25 0 (mAh (h 18 0) (mWil h 0) (h 5 0 3).toNat)) Q
        refine w_iload dX10_walkTwo_19 rfl ?_
        refine w_aload_n dX10_walkTwo_21 rfl ?_
        refine w_getr 3 0 dX10_walkTwo_22 fl_X10_15 rfl (by decide) ?_
        refine w_getr 4 0 dX10_walkTwo_25 fl_X10_25 rfl (by decide) ?_
        refine w_getiE (v := h 4 0 1) dX10_walkTwo_28 fl_X10_57 rfl (by decide) (by first | rfl | simp [fwUp, fwUc]) ?_
        refine w_icmp_ge 93 dX10_walkTwo_31 (by decide) (by omega) (by omega) (fun c31 => ?_) (fun c31 => ?_)
        · have ec19 : ((h 4 0 1).toNat - x) = j := by omega
          subst ec19
          refine w_iinc [some (aR 7 0), some (aI (x : Int)), some (aI (y : Int)), some (aI n), some (aI (mT2i (mAh (h 18 0) (mWil h 0) (h 5 0 3).toNat) x y n ((h 4 0 1).toNat - y) a (mT2o (mAh (h 18 0) (mWil h 0) (h 5 0 3).toNat) x y n ((h 4 0 1).toNat - x) ((h 4 0 1).toNat - y) a) ((h 4 0 1).toNat - x))), some (aI ((a : Int) + 1)), some (aI ((x : Int) + ((((h 4 0 1).toNat - x) : Nat) : Int))), none] dX10_walkTwo_93 rfl rfl (by decide) ?_
          refine w_goto 10 dX10_walkTwo_96 (by decide) ?_
          refine w_drop [6] [some (aR 7 0), some (aI (x : Int)), some (aI (y : Int)), some (aI n), some (aI (mT2i (mAh (h 18 0) (mWil h 0) (h 5 0 3).toNat) x y n ((h 4 0 1).toNat - y) a (mT2o (mAh (h 18 0) (mWil h 0) (h 5 0 3).toNat) x y n ((h 4 0 1).toNat - x) ((h 4 0 1).toNat - y) a) ((h 4 0 1).toNat - x))), some (aI ((a : Int) + 1)), none, none] rfl ?_
          refine ih10 (by omega) _ _ ?_ ?_
          · exact (by omega)
          · exact rfl
        · refine w_aload_n dX10_walkTwo_34 rfl ?_
          refine w_iload_n dX10_walkTwo_35 rfl ?_
          refine w_iload_n dX10_walkTwo_36 rfl ?_
          refine w_iload dX10_walkTwo_37 rfl ?_
          refine w_iload dX10_walkTwo_39 rfl ?_
          refine w_callV (d := d + 4) (S := []) [aI (y : Int), aI n, aI (a : Int), aI ((x : Int) + (j : Int))] dX10_walkTwo_41 ml_X10_72 ok_X10_besides vi_X10_besides rfl rfl (by decide) rfl (Nat.le_of_ble_eq_true rfl) ?_
          refine c_X10_besides (d := (d + 2)) y n (a : Int) ((x : Int) + (j : Int)) (by first | assumption | omega | decide) (by first | assumption | omega | decide) (by first | assumption | omega | decide) (by first | assumption | omega | decide) (by first | assumption | omega | decide) (by first | assumption | omega | decide) ?_
          show fwWP mX10_walkTwo (d + 5) 44 [some (aR 7 0), some (aI (x : Int)), some (aI (y : Int)), some (aI n), some (aI (mT2i (mAh (h 18 0) (mWil h 0) (h 5 0 3).toNat) x y n ((h 4 0 1).toNat - y) a (mT2o (mAh (h 18 0) (mWil h 0) (h 5 0 3).toNat) x y n ((h 4 0 1).toNat - x) ((h 4 0 1).toNat - y) a) j)), some (aI (a : Int)), some (aI ((x : Int) + (j : Int))), none] [aI (mBeo (mAh (h 18 0) (mWil h 0) (h 5 0 3).toNat) y n (a : Int) ((x : Int) + (j : Int)) ((h 4 0 1).toNat - y) (y + 1))] (fwUc (fwUc (fwUc h 19 0 A1) 20 0 B2) 25 0 (mAh (h 18 0) (mWil h 0) (h 5 0 3).toNat)) Q
          have hbr := mBeo_rng (N := (mAh (h 18 0) (mWil h 0) (h 5 0 3).toNat)) (n := n) (a := (a : Int)) (b := (x : Int) + (j : Int)) (y := y) (m := ((h 4 0 1).toNat - y)) (by omega) (by omega) (y + 1) (by omega)
          refine w_istore [some (aR 7 0), some (aI (x : Int)), some (aI (y : Int)), some (aI n), some (aI (mT2i (mAh (h 18 0) (mWil h 0) (h 5 0 3).toNat) x y n ((h 4 0 1).toNat - y) a (mT2o (mAh (h 18 0) (mWil h 0) (h 5 0 3).toNat) x y n ((h 4 0 1).toNat - x) ((h 4 0 1).toNat - y) a) j)), some (aI (a : Int)), some (aI ((x : Int) + (j : Int))), some (aI (mBeo (mAh (h 18 0) (mWil h 0) (h 5 0 3).toNat) y n (a : Int) ((x : Int) + (j : Int)) ((h 4 0 1).toNat - y) (y + 1)))] dX10_walkTwo_44 rfl (by decide) ?_
          refine w_iload dX10_walkTwo_46 rfl ?_
          refine w_iconst dX10_walkTwo_48 ?_
          refine w_icmp_eq 87 dX10_walkTwo_49 (by decide) (by omega) (by omega) (fun c49 => ?_) (fun c49 => ?_)
          · refine w_iinc [some (aR 7 0), some (aI (x : Int)), some (aI (y : Int)), some (aI n), some (aI (mT2i (mAh (h 18 0) (mWil h 0) (h 5 0 3).toNat) x y n ((h 4 0 1).toNat - y) a (mT2o (mAh (h 18 0) (mWil h 0) (h 5 0 3).toNat) x y n ((h 4 0 1).toNat - x) ((h 4 0 1).toNat - y) a) j)), some (aI (a : Int)), some (aI (((x : Int) + (j : Int)) + 1)), some (aI (mBeo (mAh (h 18 0) (mWil h 0) (h 5 0 3).toNat) y n (a : Int) ((x : Int) + (j : Int)) ((h 4 0 1).toNat - y) (y + 1)))] dX10_walkTwo_87 rfl rfl (by decide) ?_
            refine w_goto 19 dX10_walkTwo_90 (by decide) ?_
            refine w_drop [7] [some (aR 7 0), some (aI (x : Int)), some (aI (y : Int)), some (aI n), some (aI (mT2i (mAh (h 18 0) (mWil h 0) (h 5 0 3).toNat) x y n ((h 4 0 1).toNat - y) a (mT2o (mAh (h 18 0) (mWil h 0) (h 5 0 3).toNat) x y n ((h 4 0 1).toNat - x) ((h 4 0 1).toNat - y) a) j)), some (aI (a : Int)), some (aI (((x : Int) + (j : Int)) + 1)), none] rfl ?_
            refine ih19 (by omega) _ _ ?_ ?_
            · exact (by omega)
            · exact (by rw [mT2i]; first | rw [if_pos (show mBeo (mAh (h 18 0) (mWil h 0) (h 5 0 3).toNat) y n (a : Int) ((x : Int) + (j : Int)) ((h 4 0 1).toNat - y) (y + 1) = -1 by omega)] | rw [if_neg (show ¬ mBeo (mAh (h 18 0) (mWil h 0) (h 5 0 3).toNat) y n (a : Int) ((x : Int) + (j : Int)) ((h 4 0 1).toNat - y) (y + 1) = -1 by omega)])
          · refine w_iload dX10_walkTwo_52 rfl ?_
            refine w_iload_n dX10_walkTwo_54 rfl ?_
            refine w_iload dX10_walkTwo_55 rfl ?_
            refine w_iload dX10_walkTwo_57 rfl ?_
            refine w_callS (d := d + 4) (S := [aI (mBeo (mAh (h 18 0) (mWil h 0) (h 5 0 3).toNat) y n (a : Int) ((x : Int) + (j : Int)) ((h 4 0 1).toNat - y) (y + 1))]) [aI (x : Int), aI (a : Int), aI ((x : Int) + (j : Int))] dX10_walkTwo_59 ml_X10_62 ok_X10_stepsOf st_X10_stepsOf rfl (Nat.le_of_ble_eq_true rfl) ?_
            refine c_X10_steps (d := (d + 3)) (x : Int) (a : Int) ((x : Int) + (j : Int)) (by first | assumption | omega | decide) (by first | assumption | omega | decide) (by first | assumption | omega | decide) ?_
            show fwWP mX10_walkTwo (d + 5) 62 [some (aR 7 0), some (aI (x : Int)), some (aI (y : Int)), some (aI n), some (aI (mT2i (mAh (h 18 0) (mWil h 0) (h 5 0 3).toNat) x y n ((h 4 0 1).toNat - y) a (mT2o (mAh (h 18 0) (mWil h 0) (h 5 0 3).toNat) x y n ((h 4 0 1).toNat - x) ((h 4 0 1).toNat - y) a) j)), some (aI (a : Int)), some (aI ((x : Int) + (j : Int))), some (aI (mBeo (mAh (h 18 0) (mWil h 0) (h 5 0 3).toNat) y n (a : Int) ((x : Int) + (j : Int)) ((h 4 0 1).toNat - y) (y + 1)))] [aI (mSteps (x : Int) (a : Int) ((x : Int) + (j : Int))), aI (mBeo (mAh (h 18 0) (mWil h 0) (h 5 0 3).toNat) y n (a : Int) ((x : Int) + (j : Int)) ((h 4 0 1).toNat - y) (y + 1))] (fwUc (fwUc (fwUc h 19 0 A1) 20 0 B2) 25 0 (mAh (h 18 0) (mWil h 0) (h 5 0 3).toNat)) Q
            have hst : -1000 ≤ mSteps (x : Int) (a : Int) ((x : Int) + (j : Int)) ∧ mSteps (x : Int) (a : Int) ((x : Int) + (j : Int)) ≤ 1000 := by unfold mSteps; omega
            refine w_max (d := d + 4) (S := []) dX10_walkTwo_62 ml_X10_43 (by omega) (by omega) (Nat.le_of_ble_eq_true rfl) ?_
            refine w_istore [some (aR 7 0), some (aI (x : Int)), some (aI (y : Int)), some (aI n), some (aI (mT2i (mAh (h 18 0) (mWil h 0) (h 5 0 3).toNat) x y n ((h 4 0 1).toNat - y) a (mT2o (mAh (h 18 0) (mWil h 0) (h 5 0 3).toNat) x y n ((h 4 0 1).toNat - x) ((h 4 0 1).toNat - y) a) j)), some (aI (a : Int)), some (aI ((x : Int) + (j : Int))), some (aI (max (mBeo (mAh (h 18 0) (mWil h 0) (h 5 0 3).toNat) y n (a : Int) ((x : Int) + (j : Int)) ((h 4 0 1).toNat - y) (y + 1)) (mSteps (x : Int) (a : Int) ((x : Int) + (j : Int)))))] dX10_walkTwo_65 rfl (by decide) ?_
            have J85 : ∀ v : Int, v = (if mT2i (mAh (h 18 0) (mWil h 0) (h 5 0 3).toNat) x y n ((h 4 0 1).toNat - y) a (mT2o (mAh (h 18 0) (mWil h 0) (h 5 0 3).toNat) x y n ((h 4 0 1).toNat - x) ((h 4 0 1).toNat - y) a) j = -1 then max (mBeo (mAh (h 18 0) (mWil h 0) (h 5 0 3).toNat) y n (a : Int) ((x : Int) + (j : Int)) ((h 4 0 1).toNat - y) (y + 1)) (mSteps (x : Int) (a : Int) ((x : Int) + (j : Int))) else min (mT2i (mAh (h 18 0) (mWil h 0) (h 5 0 3).toNat) x y n ((h 4 0 1).toNat - y) a (mT2o (mAh (h 18 0) (mWil h 0) (h 5 0 3).toNat) x y n ((h 4 0 1).toNat - x) ((h 4 0 1).toNat - y) a) j) (max (mBeo (mAh (h 18 0) (mWil h 0) (h 5 0 3).toNat) y n (a : Int) ((x : Int) + (j : Int)) ((h 4 0 1).toNat - y) (y + 1)) (mSteps (x : Int) (a : Int) ((x : Int) + (j : Int))))) → fwWP mX10_walkTwo (d + 5) 85 [some (aR 7 0), some (aI (x : Int)), some (aI (y : Int)), some (aI n), some (aI (mT2i (mAh (h 18 0) (mWil h 0) (h 5 0 3).toNat) x y n ((h 4 0 1).toNat - y) a (mT2o (mAh (h 18 0) (mWil h 0) (h 5 0 3).toNat) x y n ((h 4 0 1).toNat - x) ((h 4 0 1).toNat - y) a) j)), some (aI (a : Int)), some (aI ((x : Int) + (j : Int))), some (aI (max (mBeo (mAh (h 18 0) (mWil h 0) (h 5 0 3).toNat) y n (a : Int) ((x : Int) + (j : Int)) ((h 4 0 1).toNat - y) (y + 1)) (mSteps (x : Int) (a : Int) ((x : Int) + (j : Int)))))] [aI v] (fwUc (fwUc (fwUc h 19 0 A1) 20 0 B2) 25 0 (mAh (h 18 0) (mWil h 0) (h 5 0 3).toNat)) Q := by
              intro v ev
              subst ev
              refine w_istore [some (aR 7 0), some (aI (x : Int)), some (aI (y : Int)), some (aI n), some (aI (if mT2i (mAh (h 18 0) (mWil h 0) (h 5 0 3).toNat) x y n ((h 4 0 1).toNat - y) a (mT2o (mAh (h 18 0) (mWil h 0) (h 5 0 3).toNat) x y n ((h 4 0 1).toNat - x) ((h 4 0 1).toNat - y) a) j = -1 then max (mBeo (mAh (h 18 0) (mWil h 0) (h 5 0 3).toNat) y n (a : Int) ((x : Int) + (j : Int)) ((h 4 0 1).toNat - y) (y + 1)) (mSteps (x : Int) (a : Int) ((x : Int) + (j : Int))) else min (mT2i (mAh (h 18 0) (mWil h 0) (h 5 0 3).toNat) x y n ((h 4 0 1).toNat - y) a (mT2o (mAh (h 18 0) (mWil h 0) (h 5 0 3).toNat) x y n ((h 4 0 1).toNat - x) ((h 4 0 1).toNat - y) a) j) (max (mBeo (mAh (h 18 0) (mWil h 0) (h 5 0 3).toNat) y n (a : Int) ((x : Int) + (j : Int)) ((h 4 0 1).toNat - y) (y + 1)) (mSteps (x : Int) (a : Int) ((x : Int) + (j : Int)))))), some (aI (a : Int)), some (aI ((x : Int) + (j : Int))), some (aI (max (mBeo (mAh (h 18 0) (mWil h 0) (h 5 0 3).toNat) y n (a : Int) ((x : Int) + (j : Int)) ((h 4 0 1).toNat - y) (y + 1)) (mSteps (x : Int) (a : Int) ((x : Int) + (j : Int)))))] dX10_walkTwo_85 rfl (by decide) ?_
              refine w_iinc [some (aR 7 0), some (aI (x : Int)), some (aI (y : Int)), some (aI n), some (aI (if mT2i (mAh (h 18 0) (mWil h 0) (h 5 0 3).toNat) x y n ((h 4 0 1).toNat - y) a (mT2o (mAh (h 18 0) (mWil h 0) (h 5 0 3).toNat) x y n ((h 4 0 1).toNat - x) ((h 4 0 1).toNat - y) a) j = -1 then max (mBeo (mAh (h 18 0) (mWil h 0) (h 5 0 3).toNat) y n (a : Int) ((x : Int) + (j : Int)) ((h 4 0 1).toNat - y) (y + 1)) (mSteps (x : Int) (a : Int) ((x : Int) + (j : Int))) else min (mT2i (mAh (h 18 0) (mWil h 0) (h 5 0 3).toNat) x y n ((h 4 0 1).toNat - y) a (mT2o (mAh (h 18 0) (mWil h 0) (h 5 0 3).toNat) x y n ((h 4 0 1).toNat - x) ((h 4 0 1).toNat - y) a) j) (max (mBeo (mAh (h 18 0) (mWil h 0) (h 5 0 3).toNat) y n (a : Int) ((x : Int) + (j : Int)) ((h 4 0 1).toNat - y) (y + 1)) (mSteps (x : Int) (a : Int) ((x : Int) + (j : Int)))))), some (aI (a : Int)), some (aI (((x : Int) + (j : Int)) + 1)), some (aI (max (mBeo (mAh (h 18 0) (mWil h 0) (h 5 0 3).toNat) y n (a : Int) ((x : Int) + (j : Int)) ((h 4 0 1).toNat - y) (y + 1)) (mSteps (x : Int) (a : Int) ((x : Int) + (j : Int)))))] dX10_walkTwo_87 rfl rfl (by decide) ?_
              refine w_goto 19 dX10_walkTwo_90 (by decide) ?_
              refine w_drop [7] [some (aR 7 0), some (aI (x : Int)), some (aI (y : Int)), some (aI n), some (aI (if mT2i (mAh (h 18 0) (mWil h 0) (h 5 0 3).toNat) x y n ((h 4 0 1).toNat - y) a (mT2o (mAh (h 18 0) (mWil h 0) (h 5 0 3).toNat) x y n ((h 4 0 1).toNat - x) ((h 4 0 1).toNat - y) a) j = -1 then max (mBeo (mAh (h 18 0) (mWil h 0) (h 5 0 3).toNat) y n (a : Int) ((x : Int) + (j : Int)) ((h 4 0 1).toNat - y) (y + 1)) (mSteps (x : Int) (a : Int) ((x : Int) + (j : Int))) else min (mT2i (mAh (h 18 0) (mWil h 0) (h 5 0 3).toNat) x y n ((h 4 0 1).toNat - y) a (mT2o (mAh (h 18 0) (mWil h 0) (h 5 0 3).toNat) x y n ((h 4 0 1).toNat - x) ((h 4 0 1).toNat - y) a) j) (max (mBeo (mAh (h 18 0) (mWil h 0) (h 5 0 3).toNat) y n (a : Int) ((x : Int) + (j : Int)) ((h 4 0 1).toNat - y) (y + 1)) (mSteps (x : Int) (a : Int) ((x : Int) + (j : Int)))))), some (aI (a : Int)), some (aI (((x : Int) + (j : Int)) + 1)), none] rfl ?_
              refine ih19 (by omega) _ _ ?_ ?_
              · exact (by omega)
              · exact (by rw [mT2i]; first | rw [if_pos (show mBeo (mAh (h 18 0) (mWil h 0) (h 5 0 3).toNat) y n (a : Int) ((x : Int) + (j : Int)) ((h 4 0 1).toNat - y) (y + 1) = -1 by omega)] | rw [if_neg (show ¬ mBeo (mAh (h 18 0) (mWil h 0) (h 5 0 3).toNat) y n (a : Int) ((x : Int) + (j : Int)) ((h 4 0 1).toNat - y) (y + 1) = -1 by omega)])
            refine w_iload dX10_walkTwo_67 rfl ?_
            refine w_iconst dX10_walkTwo_69 ?_
            refine w_icmp_ne 78 dX10_walkTwo_70 (by decide) (by omega) (by omega) (fun c70 => ?_) (fun c70 => ?_)
            · refine w_iload dX10_walkTwo_78 rfl ?_
              refine w_iload dX10_walkTwo_80 rfl ?_
              refine w_min (d := d + 4) (S := []) dX10_walkTwo_82 ml_X10_48 (by omega) (by omega) (Nat.le_of_ble_eq_true rfl) ?_
              exact J85 _ (by first | rw [if_pos (by omega)] | rw [if_neg (by omega)])
            · refine w_iload dX10_walkTwo_73 rfl ?_
              refine w_goto 85 dX10_walkTwo_75 (by decide) ?_
              exact J85 _ (by first | rw [if_pos (by omega)] | rw [if_neg (by omega)])
      refine lp19 0 (Nat.zero_le _) _ _ ?_ ?_
      · exact (by omega)
      · exact rfl
  refine lp10 0 (Nat.zero_le _) _ _ ?_ ?_
  · exact (by omega)
  · exact rfl

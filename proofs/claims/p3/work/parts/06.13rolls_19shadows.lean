section
/-! rolls: People.isRoll, howStands, standing (the mountain's own FOLK, number 0) -/
def mRollP (N : Nat → Int) (z : Int) (j : Nat) : Bool := decide (0 ≤ N (2 * j) ∧ N (2 * j) < z ∧ 0 ≤ N (2 * j + 1) ∧ N (2 * j + 1) ≤ 999)
abbrev mRoll (N : Nat → Int) (sz z : Int) : Prop := sz % 2 = 0 ∧ mAll (mRollP N z) (sz / 2).toNat = true
theorem fwRem_nn {x y : Int} (hx : 0 ≤ x ∧ x < 2147483648) (hy : 0 < y ∧ y < 2147483648) : fwRem x y = x % y := by
  obtain ⟨a, rfl⟩ : ∃ a : Nat, x = a := ⟨x.toNat, by omega⟩
  obtain ⟨b, rfl⟩ : ∃ b : Nat, y = b := ⟨y.toNat, by omega⟩
  unfold fwRem
  have e1 : Int32.ofInt (a : Int) = nI a := rfl
  have e2 : Int32.ofInt (b : Int) = nI b := rfl
  rw [e1, e2, pk_rem (by omega) (by omega) (by omega), nI_toInt (Nat.lt_of_lt_of_le (Nat.mod_lt a (by omega)) (by omega))]
  exact Int.natCast_emod a b
set_option maxRecDepth 100000 in
set_option maxHeartbeats 4000000 in
theorem c_X3_isRoll {d : Nat} {h : fwH} {Q : Option fwV → fwH → Prop} (s : Nat) (hP : pOk h 0) (hs : sOk h) (hsl : s < 4) (hz : 0 ≤ h 35 0 s) (k : Q (some (aI (fwB (mRoll (h 33 s) (h 35 0 s) (h 5 0 3))))) h) : fwCt mX3_isRoll (d + 2) [aR 5 0, aR 11 0, aI (s : Int)] h Q := by
  refine fwCt_of [some (aR 5 0), some (aR 11 0), some (aI (s : Int)), none, none, none, none, none, none] rfl rfl rfl ?_
  obtain ⟨⟨p1, p2⟩, p3⟩ := id hP
  have hss := hs s hsl
  refine w_aload_n dX3_isRoll_0 rfl ?_
  refine w_iload_n dX3_isRoll_1 rfl ?_
  refine w_callV (d := d + 1) (S := []) [aI (s : Int)] dX3_isRoll_2 ml_X3_65 ok_X8_sizeOf vi_X8_sizeOf rfl rfl (by decide) rfl (Nat.le_of_ble_eq_true rfl) ?_
  refine c_X8_sizeOf (d := (d + 1)) (s : Int) (by first | assumption | omega | decide) ?_
  show fwWP mX3_isRoll (d + 2) 5 [some (aR 5 0), some (aR 11 0), some (aI (s : Int)), none, none, none, none, none, none] [aI (mSz (h 35 0) (s : Int))] h Q
  have hz1 := mSz_rng hs (s : Int)
  refine w_istore_n [some (aR 5 0), some (aR 11 0), some (aI (s : Int)), some (aI (mSz (h 35 0) (s : Int))), none, none, none, none, none] dX3_isRoll_5 rfl (by decide) ?_
  have esz := mSz_in (h 35 0) hsl
  rw [esz]
  refine w_iload_n dX3_isRoll_6 rfl ?_
  refine w_iconst dX3_isRoll_7 ?_
  refine w_irem dX3_isRoll_8 (by omega) (by omega) ?_
  have hrm := fwRem_nn (x := h 35 0 s) (y := 2) (by omega) (by omega)
  rw [hrm]
  refine w_if_eq 14 dX3_isRoll_9 (by decide) (by omega) (fun c9 => ?_) (fun c9 => ?_)
  · refine w_iconst dX3_isRoll_14 ?_
    refine w_istore [some (aR 5 0), some (aR 11 0), some (aI (s : Int)), some (aI (h 35 0 s)), some (aI 0), none, none, none, none] dX3_isRoll_15 rfl (by decide) ?_
    have lp17 : ∀ c : Nat, c ≤ (h 35 0 s / 2).toNat → ∀ (y17  : Int), y17 = 2 * (c : Int) → (mAll (mRollP (h 33 s) (h 5 0 3)) c = true) → fwWP mX3_isRoll (d + 2) 17 [some (aR 5 0), some (aR 11 0), some (aI (s : Int)), some (aI (h 35 0 s)), some (aI y17), none, none, none, none] [] h Q := by
      refine fw_up (fun c hc17 ih17 => ?_)
      intro y17  ey17 iv17_0
      subst ey17
      show fwWP mX3_isRoll (d + 2) 17 [some (aR 5 0), some (aR 11 0), some (aI (s : Int)), some (aI (h 35 0 s)), some (aI (2 * (c : Int))), none, none, none, none] [] h Q
      refine w_iload dX3_isRoll_17 rfl ?_
      refine w_iload_n dX3_isRoll_19 rfl ?_
      refine w_icmp_ge 85 dX3_isRoll_20 (by decide) (by omega) (by omega) (fun c20 => ?_) (fun c20 => ?_)
      · have ec17 : (h 35 0 s / 2).toNat = c := by omega
        subst ec17
        refine w_iconst dX3_isRoll_85 ?_
        exact w_zretE (P := mRoll (h 33 s) (h 35 0 s) (h 5 0 3)) dX3_isRoll_86 rfl (by rw [fwB_t ⟨by omega, iv17_0⟩]) k
      · have hlt : c < (h 35 0 s / 2).toNat := by omega
        refine w_aload_n dX3_isRoll_23 rfl ?_
        refine w_iload_n dX3_isRoll_24 rfl ?_
        refine w_iload dX3_isRoll_25 rfl ?_
        refine w_callV (d := d + 1) (S := []) [aI (s : Int), aI (2 * (c : Int))] dX3_isRoll_27 ml_X3_70 ok_X8_numberAt vi_X8_numberAt rfl rfl (by decide) rfl (Nat.le_of_ble_eq_true rfl) ?_
        refine c_X8_numberN (d := d) s (2 * c) (s : Int) (2 * (c : Int)) (by omega) (by omega) (by first | assumption | omega | decide) (by first | assumption | omega | decide) ?_
        show fwWP mX3_isRoll (d + 2) 30 [some (aR 5 0), some (aR 11 0), some (aI (s : Int)), some (aI (h 35 0 s)), some (aI (2 * (c : Int))), none, none, none, none] [aJ (h 33 s (2 * c))] h Q
        have hl4 := (hs s (by omega)).2.2 (2 * c) (by omega)
        refine w_lstore [some (aR 5 0), some (aR 11 0), some (aI (s : Int)), some (aI (h 35 0 s)), some (aI (2 * (c : Int))), some (aJ (h 33 s (2 * c))), none, none, none] dX3_isRoll_30 rfl (by decide) ?_
        refine w_aload_n dX3_isRoll_32 rfl ?_
        refine w_iload_n dX3_isRoll_33 rfl ?_
        refine w_iload dX3_isRoll_34 rfl ?_
        refine w_iconst dX3_isRoll_36 ?_
        refine w_iadd dX3_isRoll_37 ?_
        refine w_callV (d := d + 1) (S := []) [aI (s : Int), aI ((2 * (c : Int)) + 1)] dX3_isRoll_38 ml_X3_70 ok_X8_numberAt vi_X8_numberAt rfl rfl (by decide) rfl (Nat.le_of_ble_eq_true rfl) ?_
        refine c_X8_numberN (d := d) s ((2 * c) + 1) (s : Int) ((2 * (c : Int)) + 1) (by omega) (by omega) (by first | assumption | omega | decide) (by first | assumption | omega | decide) ?_
        show fwWP mX3_isRoll (d + 2) 41 [some (aR 5 0), some (aR 11 0), some (aI (s : Int)), some (aI (h 35 0 s)), some (aI (2 * (c : Int))), some (aJ (h 33 s (2 * c))), none, none, none] [aJ (h 33 s ((2 * c) + 1))] h Q
        have hl5 := (hs s (by omega)).2.2 ((2 * c) + 1) (by omega)
        refine w_lstore [some (aR 5 0), some (aR 11 0), some (aI (s : Int)), some (aI (h 35 0 s)), some (aI (2 * (c : Int))), some (aJ (h 33 s (2 * c))), none, some (aJ (h 33 s ((2 * c) + 1))), none] dX3_isRoll_41 rfl (by decide) ?_
        refine w_lload dX3_isRoll_43 rfl ?_
        refine w_lconst (z := 0) dX3_isRoll_45 rfl ?_
        refine w_lc_lt 77 dX3_isRoll_46 dX3_isRoll_47 (by decide) (by omega) (by omega) (fun c47 => ?_) (fun c47 => ?_)
        · refine w_iconst dX3_isRoll_77 ?_
          exact w_zretE (P := mRoll (h 33 s) (h 35 0 s) (h 5 0 3)) dX3_isRoll_78 rfl (by rw [fwB_f (fun q => by have := (mAll_iff _ _).mp q.2 c hlt; unfold mRollP at this; simp only [decide_eq_true_eq] at this; omega)]) k
        · refine w_lload dX3_isRoll_50 rfl ?_
          refine w_aload_n dX3_isRoll_52 rfl ?_
          refine w_geti dX3_isRoll_53 fl_X3_21 rfl (by decide) ?_
          refine w_i2l dX3_isRoll_56 (by omega) ?_
          refine w_lc_ge 77 dX3_isRoll_57 dX3_isRoll_58 (by decide) (by omega) (by omega) (fun c58 => ?_) (fun c58 => ?_)
          · refine w_iconst dX3_isRoll_77 ?_
            exact w_zretE (P := mRoll (h 33 s) (h 35 0 s) (h 5 0 3)) dX3_isRoll_78 rfl (by rw [fwB_f (fun q => by have := (mAll_iff _ _).mp q.2 c hlt; unfold mRollP at this; simp only [decide_eq_true_eq] at this; omega)]) k
          · refine w_lload dX3_isRoll_61 rfl ?_
            refine w_lconst (z := 0) dX3_isRoll_63 rfl ?_
            refine w_lc_lt 77 dX3_isRoll_64 dX3_isRoll_65 (by decide) (by omega) (by omega) (fun c65 => ?_) (fun c65 => ?_)
            · refine w_iconst dX3_isRoll_77 ?_
              exact w_zretE (P := mRoll (h 33 s) (h 35 0 s) (h 5 0 3)) dX3_isRoll_78 rfl (by rw [fwB_f (fun q => by have := (mAll_iff _ _).mp q.2 c hlt; unfold mRollP at this; simp only [decide_eq_true_eq] at this; omega)]) k
            · refine w_lload dX3_isRoll_68 rfl ?_
              refine w_ldc2 (n := 999) dX3_isRoll_70 cs_X3_74 ?_
              refine w_lc_le 79 dX3_isRoll_73 dX3_isRoll_74 (by decide) (by omega) (by omega) (fun c74 => ?_) (fun c74 => ?_)
              · refine w_iinc [some (aR 5 0), some (aR 11 0), some (aI (s : Int)), some (aI (h 35 0 s)), some (aI ((2 * (c : Int)) + 2)), some (aJ (h 33 s (2 * c))), none, some (aJ (h 33 s ((2 * c) + 1))), none] dX3_isRoll_79 rfl rfl (by decide) ?_
                refine w_goto 17 dX3_isRoll_82 (by decide) ?_
                refine w_drop [5, 7] [some (aR 5 0), some (aR 11 0), some (aI (s : Int)), some (aI (h 35 0 s)), some (aI ((2 * (c : Int)) + 2)), none, none, none, none] rfl ?_
                refine ih17 (by omega) _ ?_ ?_
                · exact (by omega)
                · exact (by rw [mAll, iv17_0, Bool.true_and]; unfold mRollP; simp only [decide_eq_true_eq]; omega)
              · refine w_iconst dX3_isRoll_77 ?_
                exact w_zretE (P := mRoll (h 33 s) (h 35 0 s) (h 5 0 3)) dX3_isRoll_78 rfl (by rw [fwB_f (fun q => by have := (mAll_iff _ _).mp q.2 c hlt; unfold mRollP at this; simp only [decide_eq_true_eq] at this; omega)]) k
    refine lp17 0 (Nat.zero_le _) _ ?_ ?_
    · exact (by omega)
    · exact rfl
  · refine w_iconst dX3_isRoll_12 ?_
    exact w_zretE (P := mRoll (h 33 s) (h 35 0 s) (h 5 0 3)) dX3_isRoll_13 rfl (by rw [fwB_f (fun q => by have := q.1; omega)]) k
def mNew (N : Nat → Int) (c j : Nat) : Bool := decide (¬ (N (2 * j) = N (2 * c) ∧ N (2 * j + 1) = N (2 * c + 1)))
def mHow (N F : Nat → Int) (c : Nat) : Int := if mAll (mNew N c) c = true then (if N (2 * c + 1) < F (7 * (N (2 * c)).toNat + 1) then 0 else 2) else 1
set_option maxRecDepth 100000 in
set_option maxHeartbeats 4000000 in
theorem c_X3_howStands {d : Nat} {h : fwH} {Q : Option fwV → fwH → Prop} (s b : Nat) (hP : pOk h 0) (hs : sOk h) (hsl : s < 4) (hb : 2 * b + 1 < 60) (hfo : 0 ≤ h 33 s (2 * b) ∧ h 33 s (2 * b) < h 5 0 3) (k : Q (some (aI (mHow (h 33 s) (h 18 0) b))) h) : fwCt mX3_howStands (d + 2) [aR 5 0, aR 11 0, aI (s : Int), aI (2 * (b : Int))] h Q := by
  refine fwCt_of [some (aR 5 0), some (aR 11 0), some (aI (s : Int)), some (aI (2 * (b : Int))), none, none, none, none, none] rfl rfl rfl ?_
  obtain ⟨⟨p1, p2⟩, p3⟩ := id hP
  refine w_aload_n dX3_howStands_0 rfl ?_
  refine w_iload_n dX3_howStands_1 rfl ?_
  refine w_iload_n dX3_howStands_2 rfl ?_
  refine w_callV (d := d + 1) (S := []) [aI (s : Int), aI (2 * (b : Int))] dX3_howStands_3 ml_X3_70 ok_X8_numberAt vi_X8_numberAt rfl rfl (by decide) rfl (Nat.le_of_ble_eq_true rfl) ?_
  refine c_X8_numberN (d := d) s (2 * b) (s : Int) (2 * (b : Int)) (by omega) (by omega) (by first | assumption | omega | decide) (by first | assumption | omega | decide) ?_
  show fwWP mX3_howStands (d + 2) 6 [some (aR 5 0), some (aR 11 0), some (aI (s : Int)), some (aI (2 * (b : Int))), none, none, none, none, none] [aJ (h 33 s (2 * b))] h Q
  have hl1 := (hs s (by omega)).2.2 (2 * b) (by omega)
  refine w_lstore [some (aR 5 0), some (aR 11 0), some (aI (s : Int)), some (aI (2 * (b : Int))), some (aJ (h 33 s (2 * b))), none, none, none, none] dX3_howStands_6 rfl (by decide) ?_
  refine w_aload_n dX3_howStands_8 rfl ?_
  refine w_iload_n dX3_howStands_9 rfl ?_
  refine w_iload_n dX3_howStands_10 rfl ?_
  refine w_iconst dX3_howStands_11 ?_
  refine w_iadd dX3_howStands_12 ?_
  refine w_callV (d := d + 1) (S := []) [aI (s : Int), aI ((2 * (b : Int)) + 1)] dX3_howStands_13 ml_X3_70 ok_X8_numberAt vi_X8_numberAt rfl rfl (by decide) rfl (Nat.le_of_ble_eq_true rfl) ?_
  refine c_X8_numberN (d := d) s ((2 * b) + 1) (s : Int) ((2 * (b : Int)) + 1) (by omega) (by omega) (by first | assumption | omega | decide) (by first | assumption | omega | decide) ?_
  show fwWP mX3_howStands (d + 2) 16 [some (aR 5 0), some (aR 11 0), some (aI (s : Int)), some (aI (2 * (b : Int))), some (aJ (h 33 s (2 * b))), none, none, none, none] [aJ (h 33 s ((2 * b) + 1))] h Q
  have hl2 := (hs s (by omega)).2.2 ((2 * b) + 1) (by omega)
  refine w_lstore [some (aR 5 0), some (aR 11 0), some (aI (s : Int)), some (aI (2 * (b : Int))), some (aJ (h 33 s (2 * b))), none, some (aJ (h 33 s ((2 * b) + 1))), none, none] dX3_howStands_16 rfl (by decide) ?_
  refine w_iconst dX3_howStands_18 ?_
  refine w_istore [some (aR 5 0), some (aR 11 0), some (aI (s : Int)), some (aI (2 * (b : Int))), some (aJ (h 33 s (2 * b))), none, some (aJ (h 33 s ((2 * b) + 1))), none, some (aI 0)] dX3_howStands_19 rfl (by decide) ?_
  have lp21 : ∀ c : Nat, c ≤ b → ∀ (y21  : Int), y21 = 2 * (c : Int) → (mAll (mNew (h 33 s) b) c = true) → fwWP mX3_howStands (d + 2) 21 [some (aR 5 0), some (aR 11 0), some (aI (s : Int)), some (aI (2 * (b : Int))), some (aJ (h 33 s (2 * b))), none, some (aJ (h 33 s ((2 * b) + 1))), none, some (aI y21)] [] h Q := by
    refine fw_up (fun c hc21 ih21 => ?_)
    intro y21  ey21 iv21_0
    subst ey21
    show fwWP mX3_howStands (d + 2) 21 [some (aR 5 0), some (aR 11 0), some (aI (s : Int)), some (aI (2 * (b : Int))), some (aJ (h 33 s (2 * b))), none, some (aJ (h 33 s ((2 * b) + 1))), none, some (aI (2 * (c : Int)))] [] h Q
    refine w_iload dX3_howStands_21 rfl ?_
    refine w_iload_n dX3_howStands_23 rfl ?_
    refine w_icmp_ge 63 dX3_howStands_24 (by decide) (by omega) (by omega) (fun c24 => ?_) (fun c24 => ?_)
    · have ec21 : b = c := by omega
      subst ec21
      have hfn := p3 (h 33 s (2 * b)).toNat (by omega)
      refine w_lload dX3_howStands_63 rfl ?_
      refine w_aload_n dX3_howStands_65 rfl ?_
      refine w_lload dX3_howStands_66 rfl ?_
      refine w_l2i dX3_howStands_68 ?_
      refine w_iconst dX3_howStands_69 ?_
      refine w_callV (d := d + 1) (S := [aJ (h 33 s ((2 * b) + 1))]) [aI (h 33 s (2 * b)), aI 1] dX3_howStands_70 ml_X3_25 ok_X3_fact vi_X3_fact rfl rfl (by decide) rfl (Nat.le_of_ble_eq_true rfl) ?_
      refine c_X3_factE (d := (d + 1)) 0 ((h 33 s (2 * b)).toNat) 1 (h 33 s (2 * b)) (by omega) (by decide) (by first | assumption | omega | decide) (by first | assumption | omega | decide) ?_
      show fwWP mX3_howStands (d + 2) 73 [some (aR 5 0), some (aR 11 0), some (aI (s : Int)), some (aI (2 * (b : Int))), some (aJ (h 33 s (2 * b))), none, some (aJ (h 33 s ((2 * b) + 1))), none, some (aI (2 * ((b : Nat) : Int)))] [aI (h 18 0 (7 * ((h 33 s (2 * b)).toNat) + 1)), aJ (h 33 s ((2 * b) + 1))] h Q
      refine w_i2l dX3_howStands_73 (by omega) ?_
      refine w_lc_ge 82 dX3_howStands_74 dX3_howStands_75 (by decide) (by omega) (by omega) (fun c75 => ?_) (fun c75 => ?_)
      · refine w_iconst dX3_howStands_82 ?_
        exact w_iretE dX3_howStands_83 rfl (by rw [mHow]; rw [if_pos iv21_0]; first | rw [if_pos (by omega)] | rw [if_neg (by omega)]) k
      · refine w_iconst dX3_howStands_78 ?_
        refine w_goto 83 dX3_howStands_79 (by decide) ?_
        exact w_iretE dX3_howStands_83 rfl (by rw [mHow]; rw [if_pos iv21_0]; first | rw [if_pos (by omega)] | rw [if_neg (by omega)]) k
    · refine w_aload_n dX3_howStands_27 rfl ?_
      refine w_iload_n dX3_howStands_28 rfl ?_
      refine w_iload dX3_howStands_29 rfl ?_
      refine w_callV (d := d + 1) (S := []) [aI (s : Int), aI (2 * (c : Int))] dX3_howStands_31 ml_X3_70 ok_X8_numberAt vi_X8_numberAt rfl rfl (by decide) rfl (Nat.le_of_ble_eq_true rfl) ?_
      refine c_X8_numberN (d := d) s (2 * c) (s : Int) (2 * (c : Int)) (by omega) (by omega) (by first | assumption | omega | decide) (by first | assumption | omega | decide) ?_
      show fwWP mX3_howStands (d + 2) 34 [some (aR 5 0), some (aR 11 0), some (aI (s : Int)), some (aI (2 * (b : Int))), some (aJ (h 33 s (2 * b))), none, some (aJ (h 33 s ((2 * b) + 1))), none, some (aI (2 * (c : Int)))] [aJ (h 33 s (2 * c))] h Q
      have hl4 := (hs s (by omega)).2.2 (2 * c) (by omega)
      refine w_lload dX3_howStands_34 rfl ?_
      refine w_lc_ne 57 dX3_howStands_36 dX3_howStands_37 (by decide) (by omega) (by omega) (fun c37 => ?_) (fun c37 => ?_)
      · refine w_iinc [some (aR 5 0), some (aR 11 0), some (aI (s : Int)), some (aI (2 * (b : Int))), some (aJ (h 33 s (2 * b))), none, some (aJ (h 33 s ((2 * b) + 1))), none, some (aI ((2 * (c : Int)) + 2))] dX3_howStands_57 rfl rfl (by decide) ?_
        refine w_goto 21 dX3_howStands_60 (by decide) ?_
        refine ih21 (by omega) _ ?_ ?_
        · exact (by omega)
        · exact (by rw [mAll, iv21_0, Bool.true_and]; unfold mNew; simp only [decide_eq_true_eq]; omega)
      · refine w_aload_n dX3_howStands_40 rfl ?_
        refine w_iload_n dX3_howStands_41 rfl ?_
        refine w_iload dX3_howStands_42 rfl ?_
        refine w_iconst dX3_howStands_44 ?_
        refine w_iadd dX3_howStands_45 ?_
        refine w_callV (d := d + 1) (S := []) [aI (s : Int), aI ((2 * (c : Int)) + 1)] dX3_howStands_46 ml_X3_70 ok_X8_numberAt vi_X8_numberAt rfl rfl (by decide) rfl (Nat.le_of_ble_eq_true rfl) ?_
        refine c_X8_numberN (d := d) s ((2 * c) + 1) (s : Int) ((2 * (c : Int)) + 1) (by omega) (by omega) (by first | assumption | omega | decide) (by first | assumption | omega | decide) ?_
        show fwWP mX3_howStands (d + 2) 49 [some (aR 5 0), some (aR 11 0), some (aI (s : Int)), some (aI (2 * (b : Int))), some (aJ (h 33 s (2 * b))), none, some (aJ (h 33 s ((2 * b) + 1))), none, some (aI (2 * (c : Int)))] [aJ (h 33 s ((2 * c) + 1))] h Q
        have hl5 := (hs s (by omega)).2.2 ((2 * c) + 1) (by omega)
        refine w_lload dX3_howStands_49 rfl ?_
        refine w_lc_ne 57 dX3_howStands_51 dX3_howStands_52 (by decide) (by omega) (by omega) (fun c52 => ?_) (fun c52 => ?_)
        · refine w_iinc [some (aR 5 0), some (aR 11 0), some (aI (s : Int)), some (aI (2 * (b : Int))), some (aJ (h 33 s (2 * b))), none, some (aJ (h 33 s ((2 * b) + 1))), none, some (aI ((2 * (c : Int)) + 2))] dX3_howStands_57 rfl rfl (by decide) ?_
          refine w_goto 21 dX3_howStands_60 (by decide) ?_
          refine ih21 (by omega) _ ?_ ?_
          · exact (by omega)
          · exact (by rw [mAll, iv21_0, Bool.true_and]; unfold mNew; simp only [decide_eq_true_eq]; omega)
        · refine w_iconst dX3_howStands_55 ?_
          exact w_iretE dX3_howStands_56 rfl (by rw [mHow]; rw [if_neg (fun q => by have := (mAll_iff _ _).mp q c (by omega); unfold mNew at this; simp only [decide_eq_true_eq] at this; omega)]) k
  refine lp21 0 (Nat.zero_le _) _ ?_ ?_
  · exact (by omega)
  · exact rfl
def mStand (N F : Nat → Int) (how : Int) : Nat → Int
  | 0 => 0
  | c + 1 => if mHow N F c = how then mStand N F how c + 1 else mStand N F how c
theorem mHow_rng (N F : Nat → Int) (c : Nat) : 0 ≤ mHow N F c ∧ mHow N F c ≤ 2 := by
  unfold mHow
  split
  · split <;> omega
  · omega
set_option maxRecDepth 100000 in
set_option maxHeartbeats 4000000 in
theorem c_X3_standing {d : Nat} {h : fwH} {Q : Option fwV → fwH → Prop} (s : Nat) (y : Int) (hP : pOk h 0) (hs : sOk h) (hsl : s < 4) (hz : 0 ≤ h 35 0 s) (hr : mRoll (h 33 s) (h 35 0 s) (h 5 0 3)) (hy : 0 ≤ y ∧ y ≤ 2) (k : Q (some (aI (mStand (h 33 s) (h 18 0) y (h 35 0 s / 2).toNat))) h) : fwCt mX3_standing (d + 3) [aR 5 0, aR 11 0, aI (s : Int), aI y] h Q := by
  refine fwCt_of [some (aR 5 0), some (aR 11 0), some (aI (s : Int)), some (aI y), none, none] rfl rfl rfl ?_
  obtain ⟨⟨p1, p2⟩, p3⟩ := id hP
  have hss := hs s hsl
  have hev := hr.1
  refine w_iconst dX3_standing_0 ?_
  refine w_istore [some (aR 5 0), some (aR 11 0), some (aI (s : Int)), some (aI y), some (aI 0), none] dX3_standing_1 rfl (by decide) ?_
  refine w_iconst dX3_standing_3 ?_
  refine w_istore [some (aR 5 0), some (aR 11 0), some (aI (s : Int)), some (aI y), some (aI 0), some (aI 0)] dX3_standing_4 rfl (by decide) ?_
  have lp6 : ∀ c : Nat, c ≤ (h 35 0 s / 2).toNat → ∀ (y6 su : Int), y6 = 2 * (c : Int) → su = mStand (h 33 s) (h 18 0) y c → fwWP mX3_standing (d + 3) 6 [some (aR 5 0), some (aR 11 0), some (aI (s : Int)), some (aI y), some (aI su), some (aI y6)] [] h Q := by
    refine fw_up (fun c hc6 ih6 => ?_)
    intro y6 su ey6 e_su
    subst ey6
    subst e_su
    show fwWP mX3_standing (d + 3) 6 [some (aR 5 0), some (aR 11 0), some (aI (s : Int)), some (aI y), some (aI (mStand (h 33 s) (h 18 0) y c)), some (aI (2 * (c : Int)))] [] h Q
    refine w_iload dX3_standing_6 rfl ?_
    refine w_aload_n dX3_standing_8 rfl ?_
    refine w_iload_n dX3_standing_9 rfl ?_
    refine w_callV (d := d + 2) (S := [aI (2 * (c : Int))]) [aI (s : Int)] dX3_standing_10 ml_X3_65 ok_X8_sizeOf vi_X8_sizeOf rfl rfl (by decide) rfl (Nat.le_of_ble_eq_true rfl) ?_
    refine c_X8_sizeOf (d := (d + 2)) (s : Int) (by first | assumption | omega | decide) ?_
    show fwWP mX3_standing (d + 3) 13 [some (aR 5 0), some (aR 11 0), some (aI (s : Int)), some (aI y), some (aI (mStand (h 33 s) (h 18 0) y c)), some (aI (2 * (c : Int)))] [aI (mSz (h 35 0) (s : Int)), aI (2 * (c : Int))] h Q
    have hz1 := mSz_rng hs (s : Int)
    rw [mSz_in (h 35 0) hsl]
    refine w_icmp_ge 37 dX3_standing_13 (by decide) (by omega) (by omega) (fun c13 => ?_) (fun c13 => ?_)
    · have ec6 : (h 35 0 s / 2).toNat = c := by omega
      subst ec6
      refine w_iload dX3_standing_37 rfl ?_
      exact w_iretE dX3_standing_39 rfl (by rfl) k
    · have hro := (mAll_iff _ _).mp hr.2 c (by omega)
      unfold mRollP at hro
      simp only [decide_eq_true_eq] at hro
      refine w_aload_n dX3_standing_16 rfl ?_
      refine w_aload_n dX3_standing_17 rfl ?_
      refine w_iload_n dX3_standing_18 rfl ?_
      refine w_iload dX3_standing_19 rfl ?_
      refine w_callV (d := d + 2) (S := []) [aR 11 0, aI (s : Int), aI (2 * (c : Int))] dX3_standing_21 ml_X3_76 ok_X3_howStands vi_X3_howStands rfl rfl (by decide) rfl (Nat.le_of_ble_eq_true rfl) ?_
      refine c_X3_howStands (d := d) s c (by first | assumption | omega | decide) (by first | assumption | omega | decide) (by first | assumption | omega | decide) (by first | assumption | omega | decide) (by first | assumption | omega | decide) ?_
      show fwWP mX3_standing (d + 3) 24 [some (aR 5 0), some (aR 11 0), some (aI (s : Int)), some (aI y), some (aI (mStand (h 33 s) (h 18 0) y c)), some (aI (2 * (c : Int)))] [aI (mHow (h 33 s) (h 18 0) c)] h Q
      have hho := mHow_rng (h 33 s) (h 18 0) c
      refine w_iload_n dX3_standing_24 rfl ?_
      refine w_icmp_ne 31 dX3_standing_25 (by decide) (by omega) (by omega) (fun c25 => ?_) (fun c25 => ?_)
      · refine w_iinc [some (aR 5 0), some (aR 11 0), some (aI (s : Int)), some (aI y), some (aI (mStand (h 33 s) (h 18 0) y c)), some (aI ((2 * (c : Int)) + 2))] dX3_standing_31 rfl rfl (by decide) ?_
        refine w_goto 6 dX3_standing_34 (by decide) ?_
        refine ih6 (by omega) _ _ ?_ ?_
        · exact (by omega)
        · exact (by rw [mStand]; first | rw [if_pos (by omega)] | rw [if_neg (by omega)])
      · refine w_iinc [some (aR 5 0), some (aR 11 0), some (aI (s : Int)), some (aI y), some (aI ((mStand (h 33 s) (h 18 0) y c) + 1)), some (aI (2 * (c : Int)))] dX3_standing_28 rfl rfl (by decide) ?_
        refine w_iinc [some (aR 5 0), some (aR 11 0), some (aI (s : Int)), some (aI y), some (aI ((mStand (h 33 s) (h 18 0) y c) + 1)), some (aI ((2 * (c : Int)) + 2))] dX3_standing_31 rfl rfl (by decide) ?_
        refine w_goto 6 dX3_standing_34 (by decide) ?_
        refine ih6 (by omega) _ _ ?_ ?_
        · exact (by omega)
        · exact (by rw [mStand]; first | rw [if_pos (by omega)] | rw [if_neg (by omega)])
  refine lp6 0 (Nat.zero_le _) _ _ ?_ ?_
  · exact (by omega)
  · exact rfl
end
section
set_option maxRecDepth 100000 in
set_option maxHeartbeats 4000000 in
theorem c_X2_clear {d : Nat} {h : fwH} {Q : Option fwV → fwH → Prop}   (k : Q none (fwUp (fwUp (fwUp (fwUp (fwUc (fwUp (fwUc h 4 1 (fun _ => 0)) 5 1 3 0) 18 1 (fun _ => 0)) 3 1 3 0) 3 1 4 0) 3 1 5 0) 3 1 6 0)) : fwCt mX2_clear (d + 1) [aR 3 1] h Q := by
  refine fwCt_of [some (aR 3 1)] rfl rfl rfl ?_
  refine w_aload_n dX2_clear_0 rfl ?_
  refine w_getr 4 1 dX2_clear_1 fl_X2_12 rfl (by decide) ?_
  refine w_callV (d := d + 0) (S := []) [] dX2_clear_4 ml_X2_29 ok_X1_clear vi_X1_clear rfl rfl (by decide) rfl (Nat.le_of_ble_eq_true rfl) ?_
  refine c_X1_clear (d := d) 1 (by decide) ?_
  show fwWP mX2_clear (d + 1) 7 [some (aR 3 1)] [] (fwUc h 4 1 (fun _ => 0)) Q
  refine w_aload_n dX2_clear_7 rfl ?_
  refine w_getr 5 1 dX2_clear_8 fl_X2_21 rfl (by decide) ?_
  refine w_callV (d := d + 0) (S := []) [] dX2_clear_11 ml_X2_32 ok_X3_clear vi_X3_clear rfl rfl (by decide) rfl (Nat.le_of_ble_eq_true rfl) ?_
  refine c_X3_clear (d := d) 1 (by decide) ?_
  show fwWP mX2_clear (d + 1) 14 [some (aR 3 1)] [] (fwUc (fwUp (fwUc h 4 1 (fun _ => 0)) 5 1 3 0) 18 1 (fun _ => 0)) Q
  refine w_aload_n dX2_clear_14 rfl ?_
  refine w_iconst dX2_clear_15 ?_
  refine w_puti dX2_clear_16 fl_X2_33 fp_3_3 rfl (by decide) ?_
  refine w_aload_n dX2_clear_19 rfl ?_
  refine w_iconst dX2_clear_20 ?_
  refine w_puti dX2_clear_21 fl_X2_37 fp_3_4 rfl (by decide) ?_
  refine w_aload_n dX2_clear_24 rfl ?_
  refine w_iconst dX2_clear_25 ?_
  refine w_puti dX2_clear_26 fl_X2_40 fp_3_5 rfl (by decide) ?_
  refine w_aload_n dX2_clear_29 rfl ?_
  refine w_iconst dX2_clear_30 ?_
  refine w_puti dX2_clear_31 fl_X2_43 fp_3_6 rfl (by decide) ?_
  exact w_vret dX2_clear_34 rfl (k)
def mtCopy (h : fwH) (m q : Nat) : fwH := fwUc (fwUc (fwUc (fwUc (fwUc (fwUc h 3 m (h 3 q)) 4 m (h 4 q)) 5 m (h 5 q)) 17 m (h 17 q)) 18 m (h 18 q)) 21 m (h 21 q)
set_option maxRecDepth 100000 in
set_option maxHeartbeats 4000000 in
theorem c_X2_copyFrom {d : Nat} {h : fwH} {Q : Option fwV → fwH → Prop} (m q : Nat) (hm : m < 5) (hq : q < 5) (hmq : m ≠ q) (hz : h 4 q 4 = 0 ∨ h 4 q 4 = 1) (k : Q none (mtCopy h m q)) : fwCt mX2_copyFrom (d + 1) [aR 3 m, aR 3 q] h Q := by
  refine fwCt_of [some (aR 3 m), some (aR 3 q), none] rfl rfl rfl ?_
  refine w_aload_n dX2_copyFrom_0 rfl ?_
  refine w_getr 4 m dX2_copyFrom_1 fl_X2_12 rfl hm ?_
  refine w_aload_n dX2_copyFrom_4 rfl ?_
  refine w_getr 4 q dX2_copyFrom_5 fl_X2_12 rfl hq ?_
  refine w_callV (d := d + 0) (S := []) [aR 4 q] dX2_copyFrom_8 ml_X2_46 ok_X1_copyFrom vi_X1_copyFrom rfl rfl (by show m < 6; omega) rfl (Nat.le_of_ble_eq_true rfl) ?_
  refine c_X1_copyFrom (d := d) m q (by show m < 6; omega) (by show q < 6; omega) (by first | assumption | omega | decide) (by first | assumption | omega | decide) ?_
  show fwWP mX2_copyFrom (d + 1) 11 [some (aR 3 m), some (aR 3 q), none] [] (fwUc (fwUc h 17 m (h 17 q)) 4 m (h 4 q)) Q
  rw [show fwUc (fwUc h 17 m (h 17 q)) 4 m (h 4 q) = (fwUc (fwUc h 4 m (h 4 q)) 17 m (h 17 q)) from by funext a b; simp only [fwUc]; (repeat' split); all_goals first | rfl | (exfalso; omega)]
  refine w_aload_n dX2_copyFrom_11 rfl ?_
  refine w_getr 5 m dX2_copyFrom_12 fl_X2_21 rfl hm ?_
  refine w_aload_n dX2_copyFrom_15 rfl ?_
  refine w_getr 5 q dX2_copyFrom_16 fl_X2_21 rfl hq ?_
  refine w_callV (d := d + 0) (S := []) [aR 5 q] dX2_copyFrom_19 ml_X2_50 ok_X3_copyFrom vi_X3_copyFrom rfl rfl hm rfl (Nat.le_of_ble_eq_true rfl) ?_
  refine c_X3_copyFrom (d := d) m q hm hq (by first | assumption | omega | decide) ?_
  show fwWP mX2_copyFrom (d + 1) 22 [some (aR 3 m), some (aR 3 q), none] [] (fwUp (fwUc (fwUc (fwUc h 4 m (h 4 q)) 17 m (h 17 q)) 18 m (h 18 q)) 5 m 3 (h 5 q 3)) Q
  refine w_iconst dX2_copyFrom_22 ?_
  refine w_istore_n [some (aR 3 m), some (aR 3 q), some (aI 0)] dX2_copyFrom_23 rfl (by decide) ?_
  have lp24 : ∀ c : Nat, c ≤ 60 → ∀ (y24  : Int) (hh24 : fwH), y24 = (c : Int) → hh24 = (fwUc (fwUp (fwUc (fwUc (fwUc h 4 m (h 4 q)) 17 m (h 17 q)) 18 m (h 18 q)) 5 m 3 (h 5 q 3)) 21 m (fwFl (h 21 q) (h 21 m) c)) → fwWP mX2_copyFrom (d + 1) 24 [some (aR 3 m), some (aR 3 q), some (aI y24)] [] hh24 Q := by
    refine fw_up (fun c hc24 ih24 => ?_)
    intro y24  hh24 ey24 eh24
    subst ey24
    subst eh24
    show fwWP mX2_copyFrom (d + 1) 24 [some (aR 3 m), some (aR 3 q), some (aI (c : Int))] [] (fwUc (fwUp (fwUc (fwUc (fwUc h 4 m (h 4 q)) 17 m (h 17 q)) 18 m (h 18 q)) 5 m 3 (h 5 q 3)) 21 m (fwFl (h 21 q) (h 21 m) c)) Q
    refine w_iload_n dX2_copyFrom_24 rfl ?_
    refine w_bipush dX2_copyFrom_25 rfl ?_
    refine w_icmp_ge 48 dX2_copyFrom_27 (by decide) (by omega) (by omega) (fun c27 => ?_) (fun c27 => ?_)
    · have ec24 : 60 = c := by omega
      subst ec24
      refine w_aload_n dX2_copyFrom_48 rfl ?_
      refine w_aload_n dX2_copyFrom_49 rfl ?_
      refine w_getiE (v := h 3 q 3) dX2_copyFrom_50 fl_X2_33 rfl hq (by simp [fwUp, fwUc, Ne.symm hmq]) ?_
      refine w_puti dX2_copyFrom_53 fl_X2_33 fp_3_3 rfl hm ?_
      refine w_aload_n dX2_copyFrom_56 rfl ?_
      refine w_aload_n dX2_copyFrom_57 rfl ?_
      refine w_getiE (v := h 3 q 4) dX2_copyFrom_58 fl_X2_37 rfl hq (by simp [fwUp, fwUc, Ne.symm hmq]) ?_
      refine w_puti dX2_copyFrom_61 fl_X2_37 fp_3_4 rfl hm ?_
      refine w_aload_n dX2_copyFrom_64 rfl ?_
      refine w_aload_n dX2_copyFrom_65 rfl ?_
      refine w_getiE (v := h 3 q 5) dX2_copyFrom_66 fl_X2_40 rfl hq (by simp [fwUp, fwUc, Ne.symm hmq]) ?_
      refine w_puti dX2_copyFrom_69 fl_X2_40 fp_3_5 rfl hm ?_
      refine w_aload_n dX2_copyFrom_72 rfl ?_
      refine w_aload_n dX2_copyFrom_73 rfl ?_
      refine w_getiE (v := h 3 q 6) dX2_copyFrom_74 fl_X2_43 rfl hq (by simp [fwUp, fwUc, Ne.symm hmq]) ?_
      refine w_puti dX2_copyFrom_77 fl_X2_43 fp_3_6 rfl hm ?_
      refine w_heq (mtCopy h m q) ?_ ?_
      · intro a b s hb hs hr
        unfold mtCopy
        simp only [fwUp, fwUc]
        by_cases e : b = m
        · subst e
          by_cases e3 : a = 3
          · subst e3
            rcases (show s = 0 ∨ s = 1 ∨ s = 2 ∨ s = 3 ∨ s = 4 ∨ s = 5 ∨ s = 6 by have : s < 7 := hs; omega) with rfl | rfl | rfl | rfl | rfl | rfl | rfl
            · cases hr
            · cases hr
            · cases hr
            all_goals simp [fwUp, fwUc]
          · by_cases e5 : a = 5
            · subst e5
              rcases (show s = 0 ∨ s = 1 ∨ s = 2 ∨ s = 3 by have : s < 4 := hs; omega) with rfl | rfl | rfl | rfl
              · cases hr
              · cases hr
              · cases hr
              all_goals simp [fwUp, fwUc]
            · by_cases e21 : a = 21
              · subst e21
                have : s < 60 := hs
                simp [fwFl, this, fwUp, fwUc]
              · by_cases e4 : a = 4
                · subst e4; simp [fwUp, fwUc]
                · by_cases e17 : a = 17
                  · subst e17; simp [fwUp, fwUc]
                  · by_cases e18 : a = 18
                    · subst e18; simp [fwUp, fwUc]
                    · simp [e3, e4, e5, e17, e18, e21, fwUp, fwUc]
        · simp [e, fwUp, fwUc]
      · exact w_vret dX2_copyFrom_80 rfl k
    · refine w_aload_n dX2_copyFrom_30 rfl ?_
      refine w_getr 21 m dX2_copyFrom_31 fl_X2_25 rfl hm ?_
      refine w_iload_n dX2_copyFrom_34 rfl ?_
      refine w_aload_n dX2_copyFrom_35 rfl ?_
      refine w_getr 21 q dX2_copyFrom_36 fl_X2_25 rfl hq ?_
      refine w_iload_n dX2_copyFrom_39 rfl ?_
      refine w_ialdE (v := h 21 q c) dX2_copyFrom_40 rfl hq (by omega) (by omega) (by rw [fwUc_ne (fun z => hmq z.2.symm)]; rfl) ?_
      refine w_iast dX2_copyFrom_41 rfl hm (by omega) (by omega) ?_
      refine w_iinc [some (aR 3 m), some (aR 3 q), some (aI ((c : Int) + 1))] dX2_copyFrom_42 rfl rfl (by decide) ?_
      refine w_goto 24 dX2_copyFrom_45 (by decide) ?_
      refine ih24 (by omega) _ _ ?_ ?_
      · exact (by omega)
      · exact (by rw [fwUp_uc, Int.toNat_natCast]; exact congrArg _ (fwFl_succ (h 21 q) (h 21 m) c))
  refine lp24 0 (Nat.zero_le _) _ _ ?_ ?_
  · exact (by omega)
  · exact (by rw [fwFl_0]; exact (fwUc_self _ 21 m).symm)
set_option maxRecDepth 100000 in
set_option maxHeartbeats 4000000 in
theorem c_X2_isTold {d : Nat} {h : fwH} {Q : Option fwV → fwH → Prop}  (hl : 0 ≤ h 3 0 6 ∧ h 3 0 6 ≤ 1000) (k : Q (some (aI (fwB (0 < h 3 0 6)))) h) : fwCt mX2_isTold (d + 0) [aR 3 0] h Q := by
  refine fwCt_of [some (aR 3 0)] rfl rfl rfl ?_
  refine w_aload_n dX2_isTold_0 rfl ?_
  refine w_geti dX2_isTold_1 fl_X2_43 rfl (by decide) ?_
  refine w_if_le 11 dX2_isTold_4 (by decide) (by omega) (fun c4 => ?_) (fun c4 => ?_)
  · refine w_iconst dX2_isTold_11 ?_
    exact w_zretE dX2_isTold_12 rfl (by first | (exfalso; omega) | (rw [fwB_t (by omega)]) | (rw [fwB_f (by omega)])) k
  · refine w_iconst dX2_isTold_7 ?_
    refine w_goto 12 dX2_isTold_8 (by decide) ?_
    exact w_zretE dX2_isTold_12 rfl (by first | (exfalso; omega) | (rw [fwB_t (by omega)]) | (rw [fwB_f (by omega)])) k
theorem fwShl1 : ∀ n : Nat, n ≤ 20 → fwShl 1 (n : Int) = 2 ^ n := by decide +kernel
theorem fwShl1_rng {x : Int} (hx : 0 ≤ x ∧ x ≤ 20) : 1 ≤ fwShl 1 x ∧ fwShl 1 x ≤ 1048576 := by
  obtain ⟨n, rfl⟩ : ∃ n : Nat, x = n := ⟨x.toNat, by omega⟩
  have key : ∀ n : Nat, n ≤ 20 → 1 ≤ fwShl 1 (n : Int) ∧ fwShl 1 (n : Int) ≤ 1048576 := by decide +kernel
  exact key n (by omega)
set_option maxRecDepth 100000 in
set_option maxHeartbeats 4000000 in
theorem c_X2_hasSet {d : Nat} {h : fwH} {Q : Option fwV → fwH → Prop} (x : Int) (hl : 0 ≤ h 3 0 6 ∧ h 3 0 6 ≤ 1000) (hP : pOk h 0) (hx : -2147483648 ≤ x ∧ x < 2147483648) (k : Q (some (aI (fwB (0 < h 3 0 6 ∧ 0 ≤ x ∧ x < fwShl 1 (h 5 0 3))))) h) : fwCt mX2_hasSet (d + 1) [aR 3 0, aI x] h Q := by
  refine fwCt_of [some (aR 3 0), some (aI x)] rfl rfl rfl ?_
  have hp := hP.1
  refine w_aload_n dX2_hasSet_0 rfl ?_
  refine w_callV (d := d + 0) (S := []) [] dX2_hasSet_1 ml_X2_53 ok_X2_isTold vi_X2_isTold rfl rfl (by decide) rfl (Nat.le_of_ble_eq_true rfl) ?_
  refine c_X2_isTold (d := d) (show 0 ≤ h 3 0 6 ∧ h 3 0 6 ≤ 1000 by first | assumption | omega | decide) ?_
  show fwWP mX2_hasSet (d + 1) 4 [some (aR 3 0), some (aI x)] [aI (fwB (0 < h 3 0 6))] h Q
  refine w_ifB_eq 28 dX2_hasSet_4 (by decide) (fun c4 => ?_) (fun c4 => ?_)
  · refine w_iconst dX2_hasSet_28 ?_
    exact w_zretE dX2_hasSet_29 rfl (by first | (exfalso; omega) | (rw [fwB_t (by omega)]) | (rw [fwB_f (by omega)])) k
  · refine w_iload_n dX2_hasSet_7 rfl ?_
    refine w_if_lt 28 dX2_hasSet_8 (by decide) (by omega) (fun c8 => ?_) (fun c8 => ?_)
    · refine w_iconst dX2_hasSet_28 ?_
      exact w_zretE dX2_hasSet_29 rfl (by first | (exfalso; omega) | (rw [fwB_t (by omega)]) | (rw [fwB_f (by omega)])) k
    · refine w_iload_n dX2_hasSet_11 rfl ?_
      refine w_iconst dX2_hasSet_12 ?_
      refine w_aload_n dX2_hasSet_13 rfl ?_
      refine w_getr 5 0 dX2_hasSet_14 fl_X2_21 rfl (by decide) ?_
      refine w_geti dX2_hasSet_17 fl_X2_57 rfl (by decide) ?_
      have hsh := fwShl1_rng (x := h 5 0 3) (by omega)
      refine w_ishl dX2_hasSet_20 ?_
      refine w_icmp_ge 28 dX2_hasSet_21 (by decide) (by omega) (by omega) (fun c21 => ?_) (fun c21 => ?_)
      · refine w_iconst dX2_hasSet_28 ?_
        exact w_zretE dX2_hasSet_29 rfl (by first | (exfalso; omega) | (rw [fwB_t (by omega)]) | (rw [fwB_f (by omega)])) k
      · refine w_iconst dX2_hasSet_24 ?_
        refine w_goto 29 dX2_hasSet_25 (by decide) ?_
        exact w_zretE dX2_hasSet_29 rfl (by first | (exfalso; omega) | (rw [fwB_t (by omega)]) | (rw [fwB_f (by omega)])) k
set_option maxRecDepth 100000 in
set_option maxHeartbeats 4000000 in
theorem c_X2_hasRoom {d : Nat} {h : fwH} {Q : Option fwV → fwH → Prop}  (ha : 0 ≤ h 3 0 3 ∧ h 3 0 3 ≤ 60) (k : Q (some (aI (fwB (h 3 0 3 < 60)))) h) : fwCt mX2_hasRoomForAct (d + 0) [aR 3 0] h Q := by
  refine fwCt_of [some (aR 3 0)] rfl rfl rfl ?_
  refine w_aload_n dX2_hasRoomForAct_0 rfl ?_
  refine w_geti dX2_hasRoomForAct_1 fl_X2_33 rfl (by decide) ?_
  refine w_if_lt 20 dX2_hasRoomForAct_4 (by decide) (by omega) (fun c4 => ?_) (fun c4 => ?_)
  · refine w_iconst dX2_hasRoomForAct_20 ?_
    exact w_zretE dX2_hasRoomForAct_21 rfl (by first | (exfalso; omega) | (rw [fwB_t (by omega)]) | (rw [fwB_f (by omega)])) k
  · refine w_aload_n dX2_hasRoomForAct_7 rfl ?_
    refine w_geti dX2_hasRoomForAct_8 fl_X2_33 rfl (by decide) ?_
    refine w_bipush dX2_hasRoomForAct_11 rfl ?_
    refine w_icmp_ge 20 dX2_hasRoomForAct_13 (by decide) (by omega) (by omega) (fun c13 => ?_) (fun c13 => ?_)
    · refine w_iconst dX2_hasRoomForAct_20 ?_
      exact w_zretE dX2_hasRoomForAct_21 rfl (by first | (exfalso; omega) | (rw [fwB_t (by omega)]) | (rw [fwB_f (by omega)])) k
    · refine w_iconst dX2_hasRoomForAct_16 ?_
      refine w_goto 21 dX2_hasRoomForAct_17 (by decide) ?_
      exact w_zretE dX2_hasRoomForAct_21 rfl (by first | (exfalso; omega) | (rw [fwB_t (by omega)]) | (rw [fwB_f (by omega)])) k
set_option maxRecDepth 100000 in
set_option maxHeartbeats 4000000 in
theorem c_X2_act {d : Nat} {h : fwH} {Q : Option fwV → fwH → Prop} (x y : Int) (ha : 0 ≤ h 3 0 3 ∧ h 3 0 3 ≤ 60) (hr : h 3 0 3 < 60) (hG : gOk h 0) (h0 : 0 ≤ x) (h1 : x < h 4 0 1) (k : Q none (fwUp (fwUp (fwUc h 17 0 (fwFu (h 17 0) x.toNat (h 17 0 x.toNat + y))) 21 0 (h 3 0 3).toNat (y * (x + 1))) 3 0 3 (h 3 0 3 + 1))) : fwCt mX2_act (d + 2) [aR 3 0, aI x, aI y] h Q := by
  refine fwCt_of [some (aR 3 0), some (aI x), some (aI y)] rfl rfl rfl ?_
  refine w_aload_n dX2_act_0 rfl ?_
  refine w_callV (d := d + 1) (S := []) [] dX2_act_1 ml_X2_60 ok_X2_hasRoomForAct vi_X2_hasRoomForAct rfl rfl (by decide) rfl (Nat.le_of_ble_eq_true rfl) ?_
  refine c_X2_hasRoom (d := (d + 1)) (by first | assumption | omega | decide) ?_
  show fwWP mX2_act (d + 2) 4 [some (aR 3 0), some (aI x), some (aI y)] [aI (fwB (h 3 0 3 < 60))] h Q
  refine w_ifB_eq 40 dX2_act_4 (by decide) (fun c4 => ?_) (fun c4 => ?_)
  · (exfalso; omega)
  · refine w_aload_n dX2_act_7 rfl ?_
    refine w_getr 4 0 dX2_act_8 fl_X2_12 rfl (by decide) ?_
    refine w_iload_n dX2_act_11 rfl ?_
    refine w_iload_n dX2_act_12 rfl ?_
    refine w_callV (d := d + 1) (S := []) [aI x, aI y] dX2_act_13 ml_X2_63 ok_X1_change vi_X1_change rfl rfl (by decide) rfl (Nat.le_of_ble_eq_true rfl) ?_
    refine c_X1_changeE (d := d) 0 x y (by decide) (by first | assumption | omega | decide) (by first | assumption | omega | decide) (show x < h 4 0 1 by first | assumption | omega | decide) ?_
    show fwWP mX2_act (d + 2) 16 [some (aR 3 0), some (aI x), some (aI y)] [] (fwUc h 17 0 (fwFu (h 17 0) (x).toNat (h 17 0 (x).toNat + y))) Q
    refine w_aload_n dX2_act_16 rfl ?_
    refine w_getr 21 0 dX2_act_17 fl_X2_25 rfl (by decide) ?_
    refine w_aload_n dX2_act_20 rfl ?_
    refine w_getiE (v := h 3 0 3) dX2_act_21 fl_X2_33 rfl (by decide) rfl ?_
    refine w_iload_n dX2_act_24 rfl ?_
    refine w_iload_n dX2_act_25 rfl ?_
    refine w_iconst dX2_act_26 ?_
    refine w_iadd dX2_act_27 ?_
    refine w_imul dX2_act_28 ?_
    refine w_iast dX2_act_29 rfl (by decide) (by omega) (by omega) ?_
    refine w_aload_n dX2_act_30 rfl ?_
    refine w_dup dX2_act_31 rfl ?_
    refine w_getiE (v := h 3 0 3) dX2_act_32 fl_X2_33 rfl (by decide) rfl ?_
    refine w_iconst dX2_act_35 ?_
    refine w_iadd dX2_act_36 ?_
    refine w_puti dX2_act_37 fl_X2_33 fp_3_3 rfl (by decide) ?_
    exact w_vret dX2_act_40 rfl (k)
def mBackC (a : Int) : Int := if a < 0 then -a - 1 else a - 1
def mBackD (a : Int) : Int := if a < 0 then 1 else -1
def mBack (h : fwH) : fwH := fwUc (fwUp h 3 0 3 (h 3 0 3 - 1)) 17 0 (fwFu (h 17 0) (mBackC (h 21 0 (h 3 0 3 - 1).toNat)).toNat (h 17 0 (mBackC (h 21 0 (h 3 0 3 - 1).toNat)).toNat + mBackD (h 21 0 (h 3 0 3 - 1).toNat)))
set_option maxRecDepth 100000 in
set_option maxHeartbeats 4000000 in
theorem c_X2_takeBack {d : Nat} {h : fwH} {Q : Option fwV → fwH → Prop}  (ha : 0 ≤ h 3 0 3 ∧ h 3 0 3 ≤ 60) (hG : gOk h 0) (hv : 0 < h 3 0 3 → ((-20 ≤ h 21 0 (h 3 0 3 - 1).toNat ∧ h 21 0 (h 3 0 3 - 1).toNat ≤ 20) ∧ (h 21 0 (h 3 0 3 - 1).toNat < 0 → 0 ≤ -(h 21 0 (h 3 0 3 - 1).toNat) - 1 ∧ -(h 21 0 (h 3 0 3 - 1).toNat) - 1 < h 4 0 1) ∧ (0 ≤ h 21 0 (h 3 0 3 - 1).toNat → 0 ≤ h 21 0 (h 3 0 3 - 1).toNat - 1 ∧ h 21 0 (h 3 0 3 - 1).toNat - 1 < h 4 0 1))) (k : Q (some (aI (fwB (0 < h 3 0 3)))) (if 0 < h 3 0 3 then mBack h else h)) : fwCt mX2_takeBack (d + 2) [aR 3 0] h Q := by
  refine fwCt_of [some (aR 3 0), none] rfl rfl rfl ?_
  have hgn := hG.1
  refine w_aload_n dX2_takeBack_0 rfl ?_
  refine w_getiE (v := h 3 0 3) dX2_takeBack_1 fl_X2_33 rfl (by decide) rfl ?_
  refine w_iconst dX2_takeBack_4 ?_
  refine w_icmp_lt 17 dX2_takeBack_5 (by decide) (by omega) (by omega) (fun c5 => ?_) (fun c5 => ?_)
  · refine w_iconst dX2_takeBack_17 ?_
    exact w_zretE (P := 0 < h 3 0 3) dX2_takeBack_18 rfl (by rw [fwB_f (by omega)]) (by rw [if_neg (by omega)] at k; exact k)
  · refine w_aload_n dX2_takeBack_8 rfl ?_
    refine w_getiE (v := h 3 0 3) dX2_takeBack_9 fl_X2_33 rfl (by decide) rfl ?_
    refine w_bipush dX2_takeBack_12 rfl ?_
    refine w_icmp_le 19 dX2_takeBack_14 (by decide) (by omega) (by omega) (fun c14 => ?_) (fun c14 => ?_)
    · refine w_aload_n dX2_takeBack_19 rfl ?_
      refine w_dup dX2_takeBack_20 rfl ?_
      refine w_getiE (v := h 3 0 3) dX2_takeBack_21 fl_X2_33 rfl (by decide) rfl ?_
      refine w_iconst dX2_takeBack_24 ?_
      refine w_isub dX2_takeBack_25 ?_
      refine w_puti dX2_takeBack_26 fl_X2_33 fp_3_3 rfl (by decide) ?_
      refine w_aload_n dX2_takeBack_29 rfl ?_
      refine w_getr 21 0 dX2_takeBack_30 fl_X2_25 rfl (by decide) ?_
      refine w_aload_n dX2_takeBack_33 rfl ?_
      refine w_getiE (v := h 3 0 3 - 1) dX2_takeBack_34 fl_X2_33 rfl (by decide) rfl ?_
      refine w_ialdE (v := h 21 0 (h 3 0 3 - 1).toNat) dX2_takeBack_37 rfl (by decide) (by omega) (by omega) rfl ?_
      refine w_istore_n [some (aR 3 0), some (aI (h 21 0 (h 3 0 3 - 1).toNat))] dX2_takeBack_38 rfl (by decide) ?_
      refine w_iload_n dX2_takeBack_39 rfl ?_
      refine w_if_ge 58 dX2_takeBack_40 (by decide) (by omega) (fun c40 => ?_) (fun c40 => ?_)
      · refine w_aload_n dX2_takeBack_58 rfl ?_
        refine w_getr 4 0 dX2_takeBack_59 fl_X2_12 rfl (by decide) ?_
        refine w_iload_n dX2_takeBack_62 rfl ?_
        refine w_iconst dX2_takeBack_63 ?_
        refine w_isub dX2_takeBack_64 ?_
        refine w_iconst dX2_takeBack_65 ?_
        refine w_callV (d := d + 1) (S := []) [aI ((h 21 0 (h 3 0 3 - 1).toNat) - 1), aI (-1)] dX2_takeBack_66 ml_X2_63 ok_X1_change vi_X1_change rfl rfl (by decide) rfl (Nat.le_of_ble_eq_true rfl) ?_
        refine c_X1_changeE (d := d) 0 ((h 21 0 (h 3 0 3 - 1).toNat) - 1) (-1) (by decide) (by first | assumption | omega | decide) (by first | assumption | omega | decide) (show (h 21 0 (h 3 0 3 - 1).toNat) - 1 < h 4 0 1 by first | assumption | omega | decide) ?_
        show fwWP mX2_takeBack (d + 2) 69 [some (aR 3 0), some (aI (h 21 0 (h 3 0 3 - 1).toNat))] [] (fwUc (fwUp h 3 0 3 ((h 3 0 3) - 1)) 17 0 (fwFu (h 17 0) ((h 21 0 (h 3 0 3 - 1).toNat) - 1).toNat (h 17 0 ((h 21 0 (h 3 0 3 - 1).toNat) - 1).toNat + (-1)))) Q
        refine w_iconst dX2_takeBack_69 ?_
        exact w_zretE (P := 0 < h 3 0 3) dX2_takeBack_70 rfl (by rw [fwB_t (by omega)]) (by rw [if_pos (by omega), mBack, mBackC, mBackD] at k; first | (rw [if_pos (by omega), if_pos (by omega)] at k; exact k) | (rw [if_neg (by omega), if_neg (by omega)] at k; exact k))
      · refine w_aload_n dX2_takeBack_43 rfl ?_
        refine w_getr 4 0 dX2_takeBack_44 fl_X2_12 rfl (by decide) ?_
        refine w_iload_n dX2_takeBack_47 rfl ?_
        refine w_ineg dX2_takeBack_48 ?_
        refine w_iconst dX2_takeBack_49 ?_
        refine w_isub dX2_takeBack_50 ?_
        refine w_iconst dX2_takeBack_51 ?_
        refine w_callV (d := d + 1) (S := []) [aI ((-(h 21 0 (h 3 0 3 - 1).toNat)) - 1), aI 1] dX2_takeBack_52 ml_X2_63 ok_X1_change vi_X1_change rfl rfl (by decide) rfl (Nat.le_of_ble_eq_true rfl) ?_
        refine c_X1_changeE (d := d) 0 ((-(h 21 0 (h 3 0 3 - 1).toNat)) - 1) 1 (by decide) (by first | assumption | omega | decide) (by first | assumption | omega | decide) (show (-(h 21 0 (h 3 0 3 - 1).toNat)) - 1 < h 4 0 1 by first | assumption | omega | decide) ?_
        show fwWP mX2_takeBack (d + 2) 55 [some (aR 3 0), some (aI (h 21 0 (h 3 0 3 - 1).toNat))] [] (fwUc (fwUp h 3 0 3 ((h 3 0 3) - 1)) 17 0 (fwFu (h 17 0) ((-(h 21 0 (h 3 0 3 - 1).toNat)) - 1).toNat (h 17 0 ((-(h 21 0 (h 3 0 3 - 1).toNat)) - 1).toNat + 1))) Q
        refine w_goto 69 dX2_takeBack_55 (by decide) ?_
        refine w_iconst dX2_takeBack_69 ?_
        exact w_zretE (P := 0 < h 3 0 3) dX2_takeBack_70 rfl (by rw [fwB_t (by omega)]) (by rw [if_pos (by omega), mBack, mBackC, mBackD] at k; first | (rw [if_pos (by omega), if_pos (by omega)] at k; exact k) | (rw [if_neg (by omega), if_neg (by omega)] at k; exact k))
    · (exfalso; omega)
theorem mNames_rng {F : Nat → Int} (x : Int) : ∀ n : Nat, n ≤ 8 → (∀ f : Nat, f < 8 → 0 ≤ F (7 * f + 1) ∧ F (7 * f + 1) ≤ 99) → 0 ≤ mNames F x n ∧ mNames F x n ≤ 99 * n := by
  intro n
  induction n with
  | zero => intro _ _; simp [mNames]
  | succ n ih =>
    intro hn hF
    have h1 := ih (by omega) hF
    have h2 := hF n (by omega)
    rw [mNames]
    split <;> omega
theorem mNames_r2 {h : fwH} (hP : pOk h 0) (x : Int) : 0 ≤ mNames (h 18 0) x (h 5 0 3).toNat ∧ mNames (h 18 0) x (h 5 0 3).toNat ≤ 792 := by
  have := mNames_rng (F := h 18 0) x (h 5 0 3).toNat (by have := hP.1; omega) (fun f hf => (hP.2 f hf).2.1)
  have h2 := hP.1
  omega
abbrev mEno (F : Nat → Int) (n : Nat) (lw su ba : Int) : Prop := lw ≤ mNames F (mSign F n su ba) n
set_option maxRecDepth 100000 in
set_option maxHeartbeats 4000000 in
theorem c_X2_isEnough {d : Nat} {h : fwH} {Q : Option fwV → fwH → Prop} (x y : Int) (hP : pOk h 0) (hlw : 0 ≤ h 3 0 4 ∧ h 3 0 4 ≤ 999) (k : Q (some (aI (fwB (mEno (h 18 0) (h 5 0 3).toNat (h 3 0 4) x y)))) h) : fwCt mX2_isEnough (d + 2) [aR 3 0, aI x, aI y] h Q := by
  refine fwCt_of [some (aR 3 0), some (aI x), some (aI y)] rfl rfl rfl ?_
  refine w_aload_n dX2_isEnough_0 rfl ?_
  refine w_getr 5 0 dX2_isEnough_1 fl_X2_21 rfl (by decide) ?_
  refine w_aload_n dX2_isEnough_4 rfl ?_
  refine w_getr 5 0 dX2_isEnough_5 fl_X2_21 rfl (by decide) ?_
  refine w_iload_n dX2_isEnough_8 rfl ?_
  refine w_iload_n dX2_isEnough_9 rfl ?_
  refine w_callV (d := d + 1) (S := [aR 5 0]) [aI x, aI y] dX2_isEnough_10 ml_X2_67 ok_X3_signersOf vi_X3_signersOf rfl rfl (by decide) rfl (Nat.le_of_ble_eq_true rfl) ?_
  refine c_X3_signersOf (d := d) 0 x y (by decide) (by first | assumption | omega | decide) ?_
  show fwWP mX2_isEnough (d + 2) 13 [some (aR 3 0), some (aI x), some (aI y)] [aI (mSign (h 18 0) (h 5 0 3).toNat x y), aR 5 0] h Q
  refine w_callV (d := d + 1) (S := []) [aI (mSign (h 18 0) (h 5 0 3).toNat x y)] dX2_isEnough_13 ml_X2_71 ok_X3_namesOf vi_X3_namesOf rfl rfl (by decide) rfl (Nat.le_of_ble_eq_true rfl) ?_
  refine c_X3_namesOf (d := d) 0 (mSign (h 18 0) (h 5 0 3).toNat x y) (by decide) (by first | assumption | omega | decide) ?_
  show fwWP mX2_isEnough (d + 2) 16 [some (aR 3 0), some (aI x), some (aI y)] [aI (mNames (h 18 0) (mSign (h 18 0) (h 5 0 3).toNat x y) (h 5 0 3).toNat)] h Q
  have hnr := mNames_r2 hP (mSign (h 18 0) (h 5 0 3).toNat x y)
  refine w_aload_n dX2_isEnough_16 rfl ?_
  refine w_geti dX2_isEnough_17 fl_X2_37 rfl (by decide) ?_
  refine w_icmp_lt 27 dX2_isEnough_20 (by decide) (by omega) (by omega) (fun c20 => ?_) (fun c20 => ?_)
  · refine w_iconst dX2_isEnough_27 ?_
    exact w_zretE dX2_isEnough_28 rfl (by first | (exfalso; omega) | (rw [fwB_t (by omega)]) | (rw [fwB_f (by omega)])) k
  · refine w_iconst dX2_isEnough_23 ?_
    refine w_goto 28 dX2_isEnough_24 (by decide) ?_
    exact w_zretE dX2_isEnough_28 rfl (by first | (exfalso; omega) | (rw [fwB_t (by omega)]) | (rw [fwB_f (by omega)])) k
end
section
/-! FootLower$Petition, but the play -/
def mWil (h : fwH) (g : Nat) : Int := mGers (h 4 g 1) (h 17 g) (h 4 g 2) (h 4 g 4) (h 18 0) (h 5 0 3).toNat (-1)
theorem c_willing0 {d : Nat} {h : fwH} {Q : Option fwV → fwH → Prop} (hP : pOk h 0) (hG : gOk h 0) (hn : 1 ≤ h 4 0 1) (hM : ∀ c : Nat, c < 10 → h 17 0 c ≤ 999) (k : ∀ A B, Q (some (aI (mWil h 0))) (fwUc (fwUc h 19 0 A) 20 0 B)) : fwCt mX3_gainersBy (d + 3) [aR 5 0, aR 4 0, aI (-1)] h Q := c_X3_gainersBy0 (-1) hP hG hn hM (Or.inr rfl) k
theorem c_willing5 {d : Nat} {h : fwH} {Q : Option fwV → fwH → Prop} (hP : pOk h 0) (hG : gOk h 5) (hn : 1 ≤ h 4 5 1) (hM : ∀ c : Nat, c < 10 → h 17 5 c ≤ 999) (k : ∀ A B, Q (some (aI (mWil h 5))) (fwUc (fwUc h 19 0 A) 20 0 B)) : fwCt mX3_gainersBy (d + 3) [aR 5 0, aR 4 5, aI (-1)] h Q := c_X3_gainersBy5 (-1) hP hG hn hM (Or.inr rfl) k
set_option maxRecDepth 100000 in
set_option maxHeartbeats 4000000 in
theorem c_X4_signersOfWon {d : Nat} {h : fwH} {Q : Option fwV → fwH → Prop} (x : Int) (hP : pOk h 0) (hG : gOk h 0) (hn : 1 ≤ h 4 0 1) (hM : ∀ c : Nat, c < 10 → h 17 0 c ≤ 999) (k : ∀ A B, Q (some (aI (mSign (h 18 0) (h 5 0 3).toNat (fwOr (mWil h 0) x) 0))) (fwUc (fwUc h 19 0 A) 20 0 B)) : fwCt mX4_signersOfWon (d + 4) [aR 6 0, aI x] h Q := by
  refine fwCt_of [some (aR 6 0), some (aI x)] rfl rfl rfl ?_
  refine w_aload_n dX4_signersOfWon_0 rfl ?_
  refine w_getr 3 0 dX4_signersOfWon_1 fl_X4_15 rfl (by decide) ?_
  refine w_getr 5 0 dX4_signersOfWon_4 fl_X4_19 rfl (by decide) ?_
  refine w_aload_n dX4_signersOfWon_7 rfl ?_
  refine w_getr 3 0 dX4_signersOfWon_8 fl_X4_15 rfl (by decide) ?_
  refine w_getr 5 0 dX4_signersOfWon_11 fl_X4_19 rfl (by decide) ?_
  refine w_aload_n dX4_signersOfWon_14 rfl ?_
  refine w_getr 3 0 dX4_signersOfWon_15 fl_X4_15 rfl (by decide) ?_
  refine w_getr 4 0 dX4_signersOfWon_18 fl_X4_25 rfl (by decide) ?_
  refine w_iconst dX4_signersOfWon_21 ?_
  refine w_callV (d := d + 3) (S := [aR 5 0]) [aR 4 0, aI (-1)] dX4_signersOfWon_22 ml_X4_29 ok_X3_gainersBy vi_X3_gainersBy rfl rfl (by decide) rfl (Nat.le_of_ble_eq_true rfl) ?_
  refine c_willing0 (d := d) (by first | assumption | omega | decide) (by first | assumption | omega | decide) (show 1 ≤ (h 4 0 1) by first | assumption | omega | decide) (by first | assumption | omega | decide) ?_
  intro A1 B2
  show fwWP mX4_signersOfWon (d + 4) 25 [some (aR 6 0), some (aI x)] [aI (mWil h 0), aR 5 0] (fwUc (fwUc h 19 0 A1) 20 0 B2) Q
  refine w_iload_n dX4_signersOfWon_25 rfl ?_
  refine w_ior dX4_signersOfWon_26 ?_
  refine w_iconst dX4_signersOfWon_27 ?_
  refine w_callV (d := d + 3) (S := []) [aI (fwOr (mWil h 0) x), aI 0] dX4_signersOfWon_28 ml_X4_35 ok_X3_signersOf vi_X3_signersOf rfl rfl (by decide) rfl (Nat.le_of_ble_eq_true rfl) ?_
  refine c_X3_signersOf (d := (d + 2)) 0 (fwOr (mWil h 0) x) 0 (by decide) (by first | assumption | omega | decide) ?_
  show fwWP mX4_signersOfWon (d + 4) 31 [some (aR 6 0), some (aI x)] [aI (mSign (h 18 0) (h 5 0 3).toNat (fwOr (mWil h 0) x) 0)] (fwUc (fwUc h 19 0 A1) 20 0 B2) Q
  exact w_iret dX4_signersOfWon_31 rfl (k _ _)
def mFew (E : Int → Bool) : Nat → Int × Int
  | 0 => (-1, 9)
  | s + 1 => if fwPop (s : Int) < (mFew E s).2 ∧ E (s : Int) = true then ((s : Int), fwPop (s : Int)) else mFew E s
theorem mFew_rng (E : Int → Bool) : ∀ s, 0 ≤ (mFew E s).2 ∧ (mFew E s).2 < 64 := by
  intro s
  induction s with
  | zero => simp [mFew]
  | succ s ih =>
    rw [mFew]
    split
    · exact fwPop_rng _
    · exact ih
/-- is it ENOUGH, with a set won -/
def mEnoB (h : fwH) (x : Int) : Bool := decide (mEno (h 18 0) (h 5 0 3).toNat (h 3 0 4) (fwOr (mWil h 0) x) 0)
set_option maxRecDepth 100000 in
set_option maxHeartbeats 4000000 in
theorem c_X4_fewestSet {d : Nat} {h : fwH} {Q : Option fwV → fwH → Prop}  (hP : pOk h 0) (hG : gOk h 0) (hn : 1 ≤ h 4 0 1) (hM : ∀ c : Nat, c < 10 → h 17 0 c ≤ 999) (hlw : 0 ≤ h 3 0 4 ∧ h 3 0 4 ≤ 999) (k : ∀ A B, Q (some (aI ((mFew (mEnoB h) (fwShl 1 (h 5 0 3)).toNat).1))) (fwUc (fwUc h 19 0 A) 20 0 B)) : fwCt mX4_fewestSet (d + 4) [aR 6 0] h Q := by
  refine fwCt_of [some (aR 6 0), none, none, none, none, none] rfl rfl rfl ?_
  refine w_aload_n dX4_fewestSet_0 rfl ?_
  refine w_getr 3 0 dX4_fewestSet_1 fl_X4_15 rfl (by decide) ?_
  refine w_getr 5 0 dX4_fewestSet_4 fl_X4_19 rfl (by decide) ?_
  refine w_aload_n dX4_fewestSet_7 rfl ?_
  refine w_getr 3 0 dX4_fewestSet_8 fl_X4_15 rfl (by decide) ?_
  refine w_getr 4 0 dX4_fewestSet_11 fl_X4_25 rfl (by decide) ?_
  refine w_iconst dX4_fewestSet_14 ?_
  refine w_callV (d := d + 3) (S := []) [aR 4 0, aI (-1)] dX4_fewestSet_15 ml_X4_29 ok_X3_gainersBy vi_X3_gainersBy rfl rfl (by decide) rfl (Nat.le_of_ble_eq_true rfl) ?_
  refine c_willing0 (d := d) (by first | assumption | omega | decide) (by first | assumption | omega | decide) (show 1 ≤ (h 4 0 1) by first | assumption | omega | decide) (by first | assumption | omega | decide) ?_
  intro A1 B2
  show fwWP mX4_fewestSet (d + 4) 18 [some (aR 6 0), none, none, none, none, none] [aI (mWil h 0)] (fwUc (fwUc h 19 0 A1) 20 0 B2) Q
  refine w_istore_n [some (aR 6 0), some (aI (mWil h 0)), none, none, none, none] dX4_fewestSet_18 rfl (by decide) ?_
  refine w_iconst dX4_fewestSet_19 ?_
  refine w_istore_n [some (aR 6 0), some (aI (mWil h 0)), some (aI (-1)), none, none, none] dX4_fewestSet_20 rfl (by decide) ?_
  refine w_bipush dX4_fewestSet_21 rfl ?_
  refine w_istore_n [some (aR 6 0), some (aI (mWil h 0)), some (aI (-1)), some (aI 9), none, none] dX4_fewestSet_23 rfl (by decide) ?_
  have hsh := fwShl1_rng (x := h 5 0 3) (by have := hP.1; omega)
  refine w_iconst dX4_fewestSet_24 ?_
  refine w_istore [some (aR 6 0), some (aI (mWil h 0)), some (aI (-1)), some (aI 9), some (aI 0), none] dX4_fewestSet_25 rfl (by decide) ?_
  have lp27 : ∀ c : Nat, c ≤ (fwShl 1 (h 5 0 3)).toNat → ∀ (y27 fo fe : Int), y27 = (c : Int) → fo = (mFew (mEnoB h) c).1 → fe = (mFew (mEnoB h) c).2 → fwWP mX4_fewestSet (d + 4) 27 [some (aR 6 0), some (aI (mWil h 0)), some (aI fo), some (aI fe), some (aI y27), none] [] (fwUc (fwUc h 19 0 A1) 20 0 B2) Q := by
    refine fw_up (fun c hc27 ih27 => ?_)
    intro y27 fo fe ey27 e_fo e_fe
    subst ey27
    subst e_fo
    subst e_fe
    have hfr := mFew_rng (mEnoB h) c
    show fwWP mX4_fewestSet (d + 4) 27 [some (aR 6 0), some (aI (mWil h 0)), some (aI ((mFew (mEnoB h) c).1)), some (aI ((mFew (mEnoB h) c).2)), some (aI (c : Int)), none] [] (fwUc (fwUc h 19 0 A1) 20 0 B2) Q
    refine w_iload dX4_fewestSet_27 rfl ?_
    refine w_iconst dX4_fewestSet_29 ?_
    refine w_aload_n dX4_fewestSet_30 rfl ?_
    refine w_getr 3 0 dX4_fewestSet_31 fl_X4_15 rfl (by decide) ?_
    refine w_getr 5 0 dX4_fewestSet_34 fl_X4_19 rfl (by decide) ?_
    refine w_getiE (v := h 5 0 3) dX4_fewestSet_37 fl_X4_39 rfl (by decide) (by first | rfl | simp [fwUp, fwUc]) ?_
    refine w_ishl dX4_fewestSet_40 ?_
    refine w_icmp_ge 84 dX4_fewestSet_41 (by decide) (by omega) (by omega) (fun c41 => ?_) (fun c41 => ?_)
    · have ec27 : (fwShl 1 (h 5 0 3)).toNat = c := by omega
      subst ec27
      refine w_iload_n dX4_fewestSet_84 rfl ?_
      exact w_iret dX4_fewestSet_85 rfl (k _ _)
    · refine w_iload dX4_fewestSet_44 rfl ?_
      refine w_callS (d := d + 3) (S := []) [aI (c : Int)] dX4_fewestSet_46 ml_X4_43 ok_J6_bitCount_0f7a4 st_J6_bitCount_0f7a4 rfl (Nat.le_of_ble_eq_true rfl) ?_
      refine c_bitCount (d := (d + 3)) (c : Int) ?_
      show fwWP mX4_fewestSet (d + 4) 49 [some (aR 6 0), some (aI (mWil h 0)), some (aI ((mFew (mEnoB h) c).1)), some (aI ((mFew (mEnoB h) c).2)), some (aI (c : Int)), none] [aI (fwPop (c : Int))] (fwUc (fwUc h 19 0 A1) 20 0 B2) Q
      have hpp := fwPop_rng (c : Int)
      refine w_istore [some (aR 6 0), some (aI (mWil h 0)), some (aI ((mFew (mEnoB h) c).1)), some (aI ((mFew (mEnoB h) c).2)), some (aI (c : Int)), some (aI (fwPop (c : Int)))] dX4_fewestSet_49 rfl (by decide) ?_
      refine w_iload dX4_fewestSet_51 rfl ?_
      refine w_iload_n dX4_fewestSet_53 rfl ?_
      refine w_icmp_ge 78 dX4_fewestSet_54 (by decide) (by omega) (by omega) (fun c54 => ?_) (fun c54 => ?_)
      · refine w_iinc [some (aR 6 0), some (aI (mWil h 0)), some (aI ((mFew (mEnoB h) c).1)), some (aI ((mFew (mEnoB h) c).2)), some (aI ((c : Int) + 1)), some (aI (fwPop (c : Int)))] dX4_fewestSet_78 rfl rfl (by decide) ?_
        refine w_goto 27 dX4_fewestSet_81 (by decide) ?_
        refine w_drop [5] [some (aR 6 0), some (aI (mWil h 0)), some (aI ((mFew (mEnoB h) c).1)), some (aI ((mFew (mEnoB h) c).2)), some (aI ((c : Int) + 1)), none] rfl ?_
        refine ih27 (by omega) _ _ _ ?_ ?_ ?_
        · exact (by omega)
        · exact (by rw [mFew]; first | rw [if_pos (by exact ⟨by omega, decide_eq_true ce⟩)] | rw [if_neg (by intro q; first | omega | exact ce (of_decide_eq_true q.2))])
        · exact (by rw [mFew]; first | rw [if_pos (by exact ⟨by omega, decide_eq_true ce⟩)] | rw [if_neg (by intro q; first | omega | exact ce (of_decide_eq_true q.2))])
      · refine w_aload_n dX4_fewestSet_57 rfl ?_
        refine w_getr 3 0 dX4_fewestSet_58 fl_X4_15 rfl (by decide) ?_
        refine w_iload_n dX4_fewestSet_61 rfl ?_
        refine w_iload dX4_fewestSet_62 rfl ?_
        refine w_ior dX4_fewestSet_64 ?_
        refine w_iconst dX4_fewestSet_65 ?_
        refine w_callV (d := d + 3) (S := []) [aI (fwOr (mWil h 0) (c : Int)), aI 0] dX4_fewestSet_66 ml_X4_49 ok_X2_isEnough vi_X2_isEnough rfl rfl (by decide) rfl (Nat.le_of_ble_eq_true rfl) ?_
        refine c_X2_isEnough (d := (d + 1)) (fwOr (mWil h 0) (c : Int)) 0 (by first | assumption | omega | decide) (by first | assumption | omega | decide) ?_
        show fwWP mX4_fewestSet (d + 4) 69 [some (aR 6 0), some (aI (mWil h 0)), some (aI ((mFew (mEnoB h) c).1)), some (aI ((mFew (mEnoB h) c).2)), some (aI (c : Int)), some (aI (fwPop (c : Int)))] [aI (fwB (mEno (h 18 0) (h 5 0 3).toNat (h 3 0 4) (fwOr (mWil h 0) (c : Int)) 0))] (fwUc (fwUc h 19 0 A1) 20 0 B2) Q
        refine w_ifB_eq 78 dX4_fewestSet_69 (by decide) (fun ce => ?_) (fun ce => ?_)
        · refine w_iinc [some (aR 6 0), some (aI (mWil h 0)), some (aI ((mFew (mEnoB h) c).1)), some (aI ((mFew (mEnoB h) c).2)), some (aI ((c : Int) + 1)), some (aI (fwPop (c : Int)))] dX4_fewestSet_78 rfl rfl (by decide) ?_
          refine w_goto 27 dX4_fewestSet_81 (by decide) ?_
          refine w_drop [5] [some (aR 6 0), some (aI (mWil h 0)), some (aI ((mFew (mEnoB h) c).1)), some (aI ((mFew (mEnoB h) c).2)), some (aI ((c : Int) + 1)), none] rfl ?_
          refine ih27 (by omega) _ _ _ ?_ ?_ ?_
          · exact (by omega)
          · exact (by rw [mFew]; first | rw [if_pos (by exact ⟨by omega, decide_eq_true ce⟩)] | rw [if_neg (by intro q; first | omega | exact ce (of_decide_eq_true q.2))])
          · exact (by rw [mFew]; first | rw [if_pos (by exact ⟨by omega, decide_eq_true ce⟩)] | rw [if_neg (by intro q; first | omega | exact ce (of_decide_eq_true q.2))])
        · refine w_iload dX4_fewestSet_72 rfl ?_
          refine w_istore_n [some (aR 6 0), some (aI (mWil h 0)), some (aI ((mFew (mEnoB h) c).1)), some (aI (fwPop (c : Int))), some (aI (c : Int)), some (aI (fwPop (c : Int)))] dX4_fewestSet_74 rfl (by decide) ?_
          refine w_iload dX4_fewestSet_75 rfl ?_
          refine w_istore_n [some (aR 6 0), some (aI (mWil h 0)), some (aI (c : Int)), some (aI (fwPop (c : Int))), some (aI (c : Int)), some (aI (fwPop (c : Int)))] dX4_fewestSet_77 rfl (by decide) ?_
          refine w_iinc [some (aR 6 0), some (aI (mWil h 0)), some (aI (c : Int)), some (aI (fwPop (c : Int))), some (aI ((c : Int) + 1)), some (aI (fwPop (c : Int)))] dX4_fewestSet_78 rfl rfl (by decide) ?_
          refine w_goto 27 dX4_fewestSet_81 (by decide) ?_
          refine w_drop [5] [some (aR 6 0), some (aI (mWil h 0)), some (aI (c : Int)), some (aI (fwPop (c : Int))), some (aI ((c : Int) + 1)), none] rfl ?_
          refine ih27 (by omega) _ _ _ ?_ ?_ ?_
          · exact (by omega)
          · exact (by rw [mFew]; first | rw [if_pos (by exact ⟨by omega, decide_eq_true ce⟩)] | rw [if_neg (by intro q; first | omega | exact ce (of_decide_eq_true q.2))])
          · exact (by rw [mFew]; first | rw [if_pos (by exact ⟨by omega, decide_eq_true ce⟩)] | rw [if_neg (by intro q; first | omega | exact ce (of_decide_eq_true q.2))])
  refine lp27 0 (Nat.zero_le _) _ _ _ ?_ ?_ ?_
  · exact (by omega)
  · exact rfl
  · exact rfl
def mBesN (h : fwH) (x : Int) (f : Nat) : Int := mNames (h 18 0) (mSign (h 18 0) (h 5 0 3).toNat (fwOr (fwOr (mWil h 0) x) (fwShl 1 (f : Int))) 0) (h 5 0 3).toNat
def mBes (h : fwH) (x : Int) : Nat → Int × Int
  | 0 => (-1, mNames (h 18 0) (mSign (h 18 0) (h 5 0 3).toNat (fwOr (mWil h 0) x) 0) (h 5 0 3).toNat)
  | f + 1 => if (mBes h x f).2 < mBesN h x f then ((f : Int), mBesN h x f) else mBes h x f
theorem mBes_rng {h : fwH} (hP : pOk h 0) (x : Int) : ∀ f, 0 ≤ (mBes h x f).2 ∧ (mBes h x f).2 ≤ 792 := by
  intro f
  induction f with
  | zero => exact mNames_r2 hP _
  | succ f ih =>
    rw [mBes]
    split
    · exact mNames_r2 hP _
    · exact ih
set_option maxRecDepth 100000 in
set_option maxHeartbeats 4000000 in
theorem c_X4_bestBeside {d : Nat} {h : fwH} {Q : Option fwV → fwH → Prop} (x : Int) (hP : pOk h 0) (hG : gOk h 0) (hn : 1 ≤ h 4 0 1) (hM : ∀ c : Nat, c < 10 → h 17 0 c ≤ 999) (k : ∀ A B, Q (some (aI ((mBes h x (h 5 0 3).toNat).1))) (fwUc (fwUc h 19 0 A) 20 0 B)) : fwCt mX4_bestBeside (d + 4) [aR 6 0, aI x] h Q := by
  refine fwCt_of [some (aR 6 0), some (aI x), none, none, none, none, none] rfl rfl rfl ?_
  have hpz0 := hP.1
  refine w_aload_n dX4_bestBeside_0 rfl ?_
  refine w_getr 3 0 dX4_bestBeside_1 fl_X4_15 rfl (by decide) ?_
  refine w_getr 5 0 dX4_bestBeside_4 fl_X4_19 rfl (by decide) ?_
  refine w_aload_n dX4_bestBeside_7 rfl ?_
  refine w_getr 3 0 dX4_bestBeside_8 fl_X4_15 rfl (by decide) ?_
  refine w_getr 4 0 dX4_bestBeside_11 fl_X4_25 rfl (by decide) ?_
  refine w_iconst dX4_bestBeside_14 ?_
  refine w_callV (d := d + 3) (S := []) [aR 4 0, aI (-1)] dX4_bestBeside_15 ml_X4_29 ok_X3_gainersBy vi_X3_gainersBy rfl rfl (by decide) rfl (Nat.le_of_ble_eq_true rfl) ?_
  refine c_willing0 (d := d) (by first | assumption | omega | decide) (by first | assumption | omega | decide) (show 1 ≤ (h 4 0 1) by first | assumption | omega | decide) (by first | assumption | omega | decide) ?_
  intro A1 B2
  show fwWP mX4_bestBeside (d + 4) 18 [some (aR 6 0), some (aI x), none, none, none, none, none] [aI (mWil h 0)] (fwUc (fwUc h 19 0 A1) 20 0 B2) Q
  refine w_iload_n dX4_bestBeside_18 rfl ?_
  refine w_ior dX4_bestBeside_19 ?_
  refine w_istore_n [some (aR 6 0), some (aI x), some (aI (fwOr (mWil h 0) x)), none, none, none, none] dX4_bestBeside_20 rfl (by decide) ?_
  refine w_iconst dX4_bestBeside_21 ?_
  refine w_istore_n [some (aR 6 0), some (aI x), some (aI (fwOr (mWil h 0) x)), some (aI (-1)), none, none, none] dX4_bestBeside_22 rfl (by decide) ?_
  refine w_aload_n dX4_bestBeside_23 rfl ?_
  refine w_getr 3 0 dX4_bestBeside_24 fl_X4_15 rfl (by decide) ?_
  refine w_getr 5 0 dX4_bestBeside_27 fl_X4_19 rfl (by decide) ?_
  refine w_aload_n dX4_bestBeside_30 rfl ?_
  refine w_getr 3 0 dX4_bestBeside_31 fl_X4_15 rfl (by decide) ?_
  refine w_getr 5 0 dX4_bestBeside_34 fl_X4_19 rfl (by decide) ?_
  refine w_iload_n dX4_bestBeside_37 rfl ?_
  refine w_iconst dX4_bestBeside_38 ?_
  refine w_callV (d := d + 3) (S := [aR 5 0]) [aI (fwOr (mWil h 0) x), aI 0] dX4_bestBeside_39 ml_X4_35 ok_X3_signersOf vi_X3_signersOf rfl rfl (by decide) rfl (Nat.le_of_ble_eq_true rfl) ?_
  refine c_X3_signersOf (d := (d + 2)) 0 (fwOr (mWil h 0) x) 0 (by decide) (by first | assumption | omega | decide) ?_
  show fwWP mX4_bestBeside (d + 4) 42 [some (aR 6 0), some (aI x), some (aI (fwOr (mWil h 0) x)), some (aI (-1)), none, none, none] [aI (mSign (h 18 0) (h 5 0 3).toNat (fwOr (mWil h 0) x) 0), aR 5 0] (fwUc (fwUc h 19 0 A1) 20 0 B2) Q
  refine w_callV (d := d + 3) (S := []) [aI (mSign (h 18 0) (h 5 0 3).toNat (fwOr (mWil h 0) x) 0)] dX4_bestBeside_42 ml_X4_53 ok_X3_namesOf vi_X3_namesOf rfl rfl (by decide) rfl (Nat.le_of_ble_eq_true rfl) ?_
  refine c_X3_namesOf (d := (d + 2)) 0 (mSign (h 18 0) (h 5 0 3).toNat (fwOr (mWil h 0) x) 0) (by decide) (by first | assumption | omega | decide) ?_
  show fwWP mX4_bestBeside (d + 4) 45 [some (aR 6 0), some (aI x), some (aI (fwOr (mWil h 0) x)), some (aI (-1)), none, none, none] [aI (mNames (h 18 0) (mSign (h 18 0) (h 5 0 3).toNat (fwOr (mWil h 0) x) 0) (h 5 0 3).toNat)] (fwUc (fwUc h 19 0 A1) 20 0 B2) Q
  refine w_istore [some (aR 6 0), some (aI x), some (aI (fwOr (mWil h 0) x)), some (aI (-1)), some (aI (mNames (h 18 0) (mSign (h 18 0) (h 5 0 3).toNat (fwOr (mWil h 0) x) 0) (h 5 0 3).toNat)), none, none] dX4_bestBeside_45 rfl (by decide) ?_
  refine w_iconst dX4_bestBeside_47 ?_
  refine w_istore [some (aR 6 0), some (aI x), some (aI (fwOr (mWil h 0) x)), some (aI (-1)), some (aI (mNames (h 18 0) (mSign (h 18 0) (h 5 0 3).toNat (fwOr (mWil h 0) x) 0) (h 5 0 3).toNat)), some (aI 0), none] dX4_bestBeside_48 rfl (by decide) ?_
  have lp50 : ∀ c : Nat, c ≤ (h 5 0 3).toNat → ∀ (y50 fo mo : Int), y50 = (c : Int) → fo = (mBes h x c).1 → mo = (mBes h x c).2 → fwWP mX4_bestBeside (d + 4) 50 [some (aR 6 0), some (aI x), some (aI (fwOr (mWil h 0) x)), some (aI fo), some (aI mo), some (aI y50), none] [] (fwUc (fwUc h 19 0 A1) 20 0 B2) Q := by
    refine fw_up (fun c hc50 ih50 => ?_)
    intro y50 fo mo ey50 e_fo e_mo
    subst ey50
    subst e_fo
    subst e_mo
    have hbr := mBes_rng hP x c
    have hpz := hP.1
    show fwWP mX4_bestBeside (d + 4) 50 [some (aR 6 0), some (aI x), some (aI (fwOr (mWil h 0) x)), some (aI ((mBes h x c).1)), some (aI ((mBes h x c).2)), some (aI (c : Int)), none] [] (fwUc (fwUc h 19 0 A1) 20 0 B2) Q
    refine w_iload dX4_bestBeside_50 rfl ?_
    refine w_aload_n dX4_bestBeside_52 rfl ?_
    refine w_getr 3 0 dX4_bestBeside_53 fl_X4_15 rfl (by decide) ?_
    refine w_getr 5 0 dX4_bestBeside_56 fl_X4_19 rfl (by decide) ?_
    refine w_getiE (v := h 5 0 3) dX4_bestBeside_59 fl_X4_39 rfl (by decide) (by first | rfl | simp [fwUp, fwUc]) ?_
    refine w_icmp_ge 114 dX4_bestBeside_62 (by decide) (by omega) (by omega) (fun c62 => ?_) (fun c62 => ?_)
    · have ec50 : (h 5 0 3).toNat = c := by omega
      subst ec50
      refine w_iload_n dX4_bestBeside_114 rfl ?_
      exact w_iret dX4_bestBeside_115 rfl (k _ _)
    · refine w_aload_n dX4_bestBeside_65 rfl ?_
      refine w_getr 3 0 dX4_bestBeside_66 fl_X4_15 rfl (by decide) ?_
      refine w_getr 5 0 dX4_bestBeside_69 fl_X4_19 rfl (by decide) ?_
      refine w_aload_n dX4_bestBeside_72 rfl ?_
      refine w_getr 3 0 dX4_bestBeside_73 fl_X4_15 rfl (by decide) ?_
      refine w_getr 5 0 dX4_bestBeside_76 fl_X4_19 rfl (by decide) ?_
      refine w_iload_n dX4_bestBeside_79 rfl ?_
      refine w_iconst dX4_bestBeside_80 ?_
      refine w_iload dX4_bestBeside_81 rfl ?_
      refine w_ishl dX4_bestBeside_83 ?_
      refine w_ior dX4_bestBeside_84 ?_
      refine w_iconst dX4_bestBeside_85 ?_
      refine w_callV (d := d + 3) (S := [aR 5 0]) [aI (fwOr (fwOr (mWil h 0) x) (fwShl 1 (c : Int))), aI 0] dX4_bestBeside_86 ml_X4_35 ok_X3_signersOf vi_X3_signersOf rfl rfl (by decide) rfl (Nat.le_of_ble_eq_true rfl) ?_
      refine c_X3_signersOf (d := (d + 2)) 0 (fwOr (fwOr (mWil h 0) x) (fwShl 1 (c : Int))) 0 (by decide) (by first | assumption | omega | decide) ?_
      show fwWP mX4_bestBeside (d + 4) 89 [some (aR 6 0), some (aI x), some (aI (fwOr (mWil h 0) x)), some (aI ((mBes h x c).1)), some (aI ((mBes h x c).2)), some (aI (c : Int)), none] [aI (mSign (h 18 0) (h 5 0 3).toNat (fwOr (fwOr (mWil h 0) x) (fwShl 1 (c : Int))) 0), aR 5 0] (fwUc (fwUc h 19 0 A1) 20 0 B2) Q
      refine w_callV (d := d + 3) (S := []) [aI (mSign (h 18 0) (h 5 0 3).toNat (fwOr (fwOr (mWil h 0) x) (fwShl 1 (c : Int))) 0)] dX4_bestBeside_89 ml_X4_53 ok_X3_namesOf vi_X3_namesOf rfl rfl (by decide) rfl (Nat.le_of_ble_eq_true rfl) ?_
      refine c_X3_namesOf (d := (d + 2)) 0 (mSign (h 18 0) (h 5 0 3).toNat (fwOr (fwOr (mWil h 0) x) (fwShl 1 (c : Int))) 0) (by decide) (by first | assumption | omega | decide) ?_
      show fwWP mX4_bestBeside (d + 4) 92 [some (aR 6 0), some (aI x), some (aI (fwOr (mWil h 0) x)), some (aI ((mBes h x c).1)), some (aI ((mBes h x c).2)), some (aI (c : Int)), none] [aI (mNames (h 18 0) (mSign (h 18 0) (h 5 0 3).toNat (fwOr (fwOr (mWil h 0) x) (fwShl 1 (c : Int))) 0) (h 5 0 3).toNat)] (fwUc (fwUc h 19 0 A1) 20 0 B2) Q
      have hbn : 0 ≤ mBesN h x c ∧ mBesN h x c ≤ 792 := mNames_r2 hP _
      change fwWP mX4_bestBeside (d + 4) 92 [some (aR 6 0), some (aI x), some (aI (fwOr (mWil h 0) x)), some (aI ((mBes h x c).1)), some (aI ((mBes h x c).2)), some (aI (c : Int)), none] [aI (mBesN h x c)] (fwUc (fwUc h 19 0 A1) 20 0 B2) Q
      refine w_istore [some (aR 6 0), some (aI x), some (aI (fwOr (mWil h 0) x)), some (aI ((mBes h x c).1)), some (aI ((mBes h x c).2)), some (aI (c : Int)), some (aI (mBesN h x c))] dX4_bestBeside_92 rfl (by decide) ?_
      refine w_iload dX4_bestBeside_94 rfl ?_
      refine w_iload dX4_bestBeside_96 rfl ?_
      refine w_icmp_le 108 dX4_bestBeside_98 (by decide) (by omega) (by omega) (fun c98 => ?_) (fun c98 => ?_)
      · refine w_iinc [some (aR 6 0), some (aI x), some (aI (fwOr (mWil h 0) x)), some (aI ((mBes h x c).1)), some (aI ((mBes h x c).2)), some (aI ((c : Int) + 1)), some (aI (mBesN h x c))] dX4_bestBeside_108 rfl rfl (by decide) ?_
        refine w_goto 50 dX4_bestBeside_111 (by decide) ?_
        refine w_drop [6] [some (aR 6 0), some (aI x), some (aI (fwOr (mWil h 0) x)), some (aI ((mBes h x c).1)), some (aI ((mBes h x c).2)), some (aI ((c : Int) + 1)), none] rfl ?_
        refine ih50 (by omega) _ _ _ ?_ ?_ ?_
        · exact (by omega)
        · exact (by rw [mBes]; first | rw [if_pos (by omega)] | rw [if_neg (by omega)])
        · exact (by rw [mBes]; first | rw [if_pos (by omega)] | rw [if_neg (by omega)])
      · refine w_iload dX4_bestBeside_101 rfl ?_
        refine w_istore [some (aR 6 0), some (aI x), some (aI (fwOr (mWil h 0) x)), some (aI ((mBes h x c).1)), some (aI (mBesN h x c)), some (aI (c : Int)), some (aI (mBesN h x c))] dX4_bestBeside_103 rfl (by decide) ?_
        refine w_iload dX4_bestBeside_105 rfl ?_
        refine w_istore_n [some (aR 6 0), some (aI x), some (aI (fwOr (mWil h 0) x)), some (aI (c : Int)), some (aI (mBesN h x c)), some (aI (c : Int)), some (aI (mBesN h x c))] dX4_bestBeside_107 rfl (by decide) ?_
        refine w_iinc [some (aR 6 0), some (aI x), some (aI (fwOr (mWil h 0) x)), some (aI (c : Int)), some (aI (mBesN h x c)), some (aI ((c : Int) + 1)), some (aI (mBesN h x c))] dX4_bestBeside_108 rfl rfl (by decide) ?_
        refine w_goto 50 dX4_bestBeside_111 (by decide) ?_
        refine w_drop [6] [some (aR 6 0), some (aI x), some (aI (fwOr (mWil h 0) x)), some (aI (c : Int)), some (aI (mBesN h x c)), some (aI ((c : Int) + 1)), none] rfl ?_
        refine ih50 (by omega) _ _ _ ?_ ?_ ?_
        · exact (by omega)
        · exact (by rw [mBes]; first | rw [if_pos (by omega)] | rw [if_neg (by omega)])
        · exact (by rw [mBes]; first | rw [if_pos (by omega)] | rw [if_neg (by omega)])
  refine lp50 0 (Nat.zero_le _) _ _ _ ?_ ?_ ?_
  · exact (by omega)
  · exact rfl
  · exact rfl
def mNeedB (h : fwH) (f : Nat) : Bool := decide (¬ mEno (h 18 0) (h 5 0 3).toNat (h 3 0 4) (mWil h 0) (fwShl 1 (f : Int)))
def mNeed (h : fwH) : Int := if mEno (h 18 0) (h 5 0 3).toNat (h 3 0 4) (mWil h 0) 0 then mBits (mNeedB h) (h 5 0 3).toNat else 0
set_option maxRecDepth 100000 in
set_option maxHeartbeats 4000000 in
theorem c_X4_neededFolk {d : Nat} {h : fwH} {Q : Option fwV → fwH → Prop}  (hP : pOk h 0) (hG : gOk h 0) (hn : 1 ≤ h 4 0 1) (hM : ∀ c : Nat, c < 10 → h 17 0 c ≤ 999) (hlw : 0 ≤ h 3 0 4 ∧ h 3 0 4 ≤ 999) (k : ∀ A B, Q (some (aI (mNeed h))) (fwUc (fwUc h 19 0 A) 20 0 B)) : fwCt mX4_neededFolk (d + 4) [aR 6 0] h Q := by
  refine fwCt_of [some (aR 6 0), none, none, none] rfl rfl rfl ?_
  have hpz0 := hP.1
  refine w_aload_n dX4_neededFolk_0 rfl ?_
  refine w_getr 3 0 dX4_neededFolk_1 fl_X4_15 rfl (by decide) ?_
  refine w_getr 5 0 dX4_neededFolk_4 fl_X4_19 rfl (by decide) ?_
  refine w_aload_n dX4_neededFolk_7 rfl ?_
  refine w_getr 3 0 dX4_neededFolk_8 fl_X4_15 rfl (by decide) ?_
  refine w_getr 4 0 dX4_neededFolk_11 fl_X4_25 rfl (by decide) ?_
  refine w_iconst dX4_neededFolk_14 ?_
  refine w_callV (d := d + 3) (S := []) [aR 4 0, aI (-1)] dX4_neededFolk_15 ml_X4_29 ok_X3_gainersBy vi_X3_gainersBy rfl rfl (by decide) rfl (Nat.le_of_ble_eq_true rfl) ?_
  refine c_willing0 (d := d) (by first | assumption | omega | decide) (by first | assumption | omega | decide) (show 1 ≤ (h 4 0 1) by first | assumption | omega | decide) (by first | assumption | omega | decide) ?_
  intro A1 B2
  show fwWP mX4_neededFolk (d + 4) 18 [some (aR 6 0), none, none, none] [aI (mWil h 0)] (fwUc (fwUc h 19 0 A1) 20 0 B2) Q
  refine w_istore_n [some (aR 6 0), some (aI (mWil h 0)), none, none] dX4_neededFolk_18 rfl (by decide) ?_
  refine w_aload_n dX4_neededFolk_19 rfl ?_
  refine w_getr 3 0 dX4_neededFolk_20 fl_X4_15 rfl (by decide) ?_
  refine w_iload_n dX4_neededFolk_23 rfl ?_
  refine w_iconst dX4_neededFolk_24 ?_
  refine w_callV (d := d + 3) (S := []) [aI (mWil h 0), aI 0] dX4_neededFolk_25 ml_X4_49 ok_X2_isEnough vi_X2_isEnough rfl rfl (by decide) rfl (Nat.le_of_ble_eq_true rfl) ?_
  refine c_X2_isEnough (d := (d + 1)) (mWil h 0) 0 (by first | assumption | omega | decide) (by first | assumption | omega | decide) ?_
  show fwWP mX4_neededFolk (d + 4) 28 [some (aR 6 0), some (aI (mWil h 0)), none, none] [aI (fwB (mEno (h 18 0) (h 5 0 3).toNat (h 3 0 4) (mWil h 0) 0))] (fwUc (fwUc h 19 0 A1) 20 0 B2) Q
  refine w_ifB_ne 33 dX4_neededFolk_28 (by decide) (fun c0 => ?_) (fun c0 => ?_)
  · refine w_iconst dX4_neededFolk_33 ?_
    refine w_istore_n [some (aR 6 0), some (aI (mWil h 0)), some (aI 0), none] dX4_neededFolk_34 rfl (by decide) ?_
    refine w_iconst dX4_neededFolk_35 ?_
    refine w_istore_n [some (aR 6 0), some (aI (mWil h 0)), some (aI 0), some (aI 0)] dX4_neededFolk_36 rfl (by decide) ?_
    have lp37 : ∀ c : Nat, c ≤ (h 5 0 3).toNat → ∀ (y37 bi : Int), y37 = (c : Int) → bi = mBits (mNeedB h) c → fwWP mX4_neededFolk (d + 4) 37 [some (aR 6 0), some (aI (mWil h 0)), some (aI bi), some (aI y37)] [] (fwUc (fwUc h 19 0 A1) 20 0 B2) Q := by
      refine fw_up (fun c hc37 ih37 => ?_)
      intro y37 bi ey37 e_bi
      subst ey37
      subst e_bi
      have hpz := hP.1
      show fwWP mX4_neededFolk (d + 4) 37 [some (aR 6 0), some (aI (mWil h 0)), some (aI (mBits (mNeedB h) c)), some (aI (c : Int))] [] (fwUc (fwUc h 19 0 A1) 20 0 B2) Q
      refine w_iload_n dX4_neededFolk_37 rfl ?_
      refine w_aload_n dX4_neededFolk_38 rfl ?_
      refine w_getr 3 0 dX4_neededFolk_39 fl_X4_15 rfl (by decide) ?_
      refine w_getr 5 0 dX4_neededFolk_42 fl_X4_19 rfl (by decide) ?_
      refine w_getiE (v := h 5 0 3) dX4_neededFolk_45 fl_X4_39 rfl (by decide) (by first | rfl | simp [fwUp, fwUc]) ?_
      refine w_icmp_ge 77 dX4_neededFolk_48 (by decide) (by omega) (by omega) (fun c48 => ?_) (fun c48 => ?_)
      · have ec37 : (h 5 0 3).toNat = c := by omega
        subst ec37
        refine w_iload_n dX4_neededFolk_77 rfl ?_
        exact w_iretE dX4_neededFolk_78 rfl (by rw [mNeed, if_pos c0]) (k _ _)
      · refine w_aload_n dX4_neededFolk_51 rfl ?_
        refine w_getr 3 0 dX4_neededFolk_52 fl_X4_15 rfl (by decide) ?_
        refine w_iload_n dX4_neededFolk_55 rfl ?_
        refine w_iconst dX4_neededFolk_56 ?_
        refine w_iload_n dX4_neededFolk_57 rfl ?_
        refine w_ishl dX4_neededFolk_58 ?_
        refine w_callV (d := d + 3) (S := []) [aI (mWil h 0), aI (fwShl 1 (c : Int))] dX4_neededFolk_59 ml_X4_49 ok_X2_isEnough vi_X2_isEnough rfl rfl (by decide) rfl (Nat.le_of_ble_eq_true rfl) ?_
        refine c_X2_isEnough (d := (d + 1)) (mWil h 0) (fwShl 1 (c : Int)) (by first | assumption | omega | decide) (by first | assumption | omega | decide) ?_
        show fwWP mX4_neededFolk (d + 4) 62 [some (aR 6 0), some (aI (mWil h 0)), some (aI (mBits (mNeedB h) c)), some (aI (c : Int))] [aI (fwB (mEno (h 18 0) (h 5 0 3).toNat (h 3 0 4) (mWil h 0) (fwShl 1 (c : Int))))] (fwUc (fwUc h 19 0 A1) 20 0 B2) Q
        refine w_ifB_ne 71 dX4_neededFolk_62 (by decide) (fun ce => ?_) (fun ce => ?_)
        · refine w_iinc [some (aR 6 0), some (aI (mWil h 0)), some (aI (mBits (mNeedB h) c)), some (aI ((c : Int) + 1))] dX4_neededFolk_71 rfl rfl (by decide) ?_
          refine w_goto 37 dX4_neededFolk_74 (by decide) ?_
          refine ih37 (by omega) _ _ ?_ ?_
          · exact (by omega)
          · exact (by rw [mBits]; first | rw [if_pos (by exact decide_eq_true ce)] | rw [if_neg (by intro q; exact (of_decide_eq_true q) ce)])
        · refine w_iload_n dX4_neededFolk_65 rfl ?_
          refine w_iconst dX4_neededFolk_66 ?_
          refine w_iload_n dX4_neededFolk_67 rfl ?_
          refine w_ishl dX4_neededFolk_68 ?_
          refine w_ior dX4_neededFolk_69 ?_
          refine w_istore_n [some (aR 6 0), some (aI (mWil h 0)), some (aI (fwOr (mBits (mNeedB h) c) (fwShl 1 (c : Int)))), some (aI (c : Int))] dX4_neededFolk_70 rfl (by decide) ?_
          refine w_iinc [some (aR 6 0), some (aI (mWil h 0)), some (aI (fwOr (mBits (mNeedB h) c) (fwShl 1 (c : Int)))), some (aI ((c : Int) + 1))] dX4_neededFolk_71 rfl rfl (by decide) ?_
          refine w_goto 37 dX4_neededFolk_74 (by decide) ?_
          refine ih37 (by omega) _ _ ?_ ?_
          · exact (by omega)
          · exact (by rw [mBits]; first | rw [if_pos (by exact decide_eq_true ce)] | rw [if_neg (by intro q; exact (of_decide_eq_true q) ce)])
    refine lp37 0 (Nat.zero_le _) _ _ ?_ ?_
    · exact (by omega)
    · exact rfl
  · refine w_iconst dX4_neededFolk_31 ?_
    exact w_iretE dX4_neededFolk_32 rfl (by rw [mNeed, if_neg c0]) (k _ _)
end
section
/-! FootLower$Walks -/
def mHereF (F : Nat → Int) (wl : Int) (c : Nat) : Nat → Int
  | 0 => 0
  | f + 1 => if fwAnd (fwShr wl f) 1 = 1 ∧ F (7 * f) = (c : Int) then mHereF F wl c f + F (7 * f + 1) else mHereF F wl c f
def mAh (F : Nat → Int) (wl : Int) (n : Nat) : Nat → Int
  | 0 => 0
  | c + 1 => mAh F wl n c + mHereF F wl c n
theorem mHereF_rng {F : Nat → Int} (wl : Int) (c : Nat) : ∀ n : Nat, n ≤ 8 → (∀ f : Nat, f < 8 → 0 ≤ F (7 * f + 1) ∧ F (7 * f + 1) ≤ 99) → 0 ≤ mHereF F wl c n ∧ mHereF F wl c n ≤ 99 * n := by
  intro n
  induction n with
  | zero => intro _ _; simp [mHereF]
  | succ n ih =>
    intro hn hF
    have h1 := ih (by omega) hF
    have h2 := hF n (by omega)
    rw [mHereF]
    split <;> omega
theorem mAh_rng {F : Nat → Int} (wl : Int) {n : Nat} (hn : n ≤ 8) (hF : ∀ f : Nat, f < 8 → 0 ≤ F (7 * f + 1) ∧ F (7 * f + 1) ≤ 99) : ∀ c, 0 ≤ mAh F wl n c ∧ mAh F wl n c ≤ 800 * c := by
  intro c
  induction c with
  | zero => simp [mAh]
  | succ c ih =>
    have h1 := mHereF_rng wl c n hn hF
    rw [mAh]
    omega
theorem fwFl_1 {g f : Nat → Int} (h : g 0 = f 0) : fwFl g f 1 = f := by
  funext s
  unfold fwFl
  by_cases e : s < 1
  · rw [if_pos e, show s = 0 by omega, h]
  · rw [if_neg e]
set_option maxRecDepth 100000 in
set_option maxHeartbeats 4000000 in
theorem c_X10_gather {d : Nat} {h : fwH} {Q : Option fwV → fwH → Prop}  (hP : pOk h 0) (hG : gOk h 0) (hn : 1 ≤ h 4 0 1) (hM : ∀ c : Nat, c < 10 → h 17 0 c ≤ 999) (hna : h 25 0 0 = 0) (k : ∀ A B, Q none (fwUc (fwUc (fwUc h 19 0 A) 20 0 B) 25 0 (mAh (h 18 0) (mWil h 0) (h 5 0 3).toNat))) : fwCt mX10_gatherNames (d + 4) [aR 7 0] h Q := by
  refine fwCt_of [some (aR 7 0), none, none, none, none] rfl rfl rfl ?_
  have hpz0 := hP.1
  refine w_aload_n dX10_gatherNames_0 rfl ?_
  refine w_getr 3 0 dX10_gatherNames_1 fl_X10_15 rfl (by decide) ?_
  refine w_getr 5 0 dX10_gatherNames_4 fl_X10_19 rfl (by decide) ?_
  refine w_aload_n dX10_gatherNames_7 rfl ?_
  refine w_getr 3 0 dX10_gatherNames_8 fl_X10_15 rfl (by decide) ?_
  refine w_getr 4 0 dX10_gatherNames_11 fl_X10_25 rfl (by decide) ?_
  refine w_iconst dX10_gatherNames_14 ?_
  refine w_callV (d := d + 3) (S := []) [aR 4 0, aI (-1)] dX10_gatherNames_15 ml_X10_29 ok_X3_gainersBy vi_X3_gainersBy rfl rfl (by decide) rfl (Nat.le_of_ble_eq_true rfl) ?_
  refine c_willing0 (d := d) (by first | assumption | omega | decide) (by first | assumption | omega | decide) (show 1 ≤ (h 4 0 1) by first | assumption | omega | decide) (by first | assumption | omega | decide) ?_
  intro A1 B2
  show fwWP mX10_gatherNames (d + 4) 18 [some (aR 7 0), none, none, none, none] [aI (mWil h 0)] (fwUc (fwUc h 19 0 A1) 20 0 B2) Q
  refine w_istore_n [some (aR 7 0), some (aI (mWil h 0)), none, none, none] dX10_gatherNames_18 rfl (by decide) ?_
  refine w_iconst dX10_gatherNames_19 ?_
  refine w_istore_n [some (aR 7 0), some (aI (mWil h 0)), some (aI 0), none, none] dX10_gatherNames_20 rfl (by decide) ?_
  have lp21 : ∀ c : Nat, c ≤ 10 → ∀ (y21  : Int) (hh21 : fwH), y21 = (c : Int) → hh21 = (fwUc (fwUc (fwUc h 19 0 A1) 20 0 B2) 25 0 (fwFl (mAh (h 18 0) (mWil h 0) (h 5 0 3).toNat) (h 25 0) (c + 1))) → fwWP mX10_gatherNames (d + 4) 21 [some (aR 7 0), some (aI (mWil h 0)), some (aI y21), none, none] [] hh21 Q := by
    refine fw_up (fun c hc21 ih21 => ?_)
    intro y21  hh21 ey21 eh21
    subst ey21
    subst eh21
    show fwWP mX10_gatherNames (d + 4) 21 [some (aR 7 0), some (aI (mWil h 0)), some (aI (c : Int)), none, none] [] (fwUc (fwUc (fwUc h 19 0 A1) 20 0 B2) 25 0 (fwFl (mAh (h 18 0) (mWil h 0) (h 5 0 3).toNat) (h 25 0) (c + 1))) Q
    refine w_iload_n dX10_gatherNames_21 rfl ?_
    refine w_bipush dX10_gatherNames_22 rfl ?_
    refine w_icmp_ge 118 dX10_gatherNames_24 (by decide) (by omega) (by omega) (fun c24 => ?_) (fun c24 => ?_)
    · have ec21 : 10 = c := by omega
      subst ec21
      refine w_heq _ (fwFl_all (by decide)) ?_
      exact w_vret dX10_gatherNames_118 rfl (k _ _)
    · refine w_iconst dX10_gatherNames_27 ?_
      refine w_istore_n [some (aR 7 0), some (aI (mWil h 0)), some (aI (c : Int)), some (aI 0), none] dX10_gatherNames_28 rfl (by decide) ?_
      refine w_iconst dX10_gatherNames_29 ?_
      refine w_istore [some (aR 7 0), some (aI (mWil h 0)), some (aI (c : Int)), some (aI 0), some (aI 0)] dX10_gatherNames_30 rfl (by decide) ?_
      have lp32 : ∀ f : Nat, f ≤ (h 5 0 3).toNat → ∀ (y32 he : Int), y32 = (f : Int) → he = mHereF (h 18 0) (mWil h 0) c f → fwWP mX10_gatherNames (d + 4) 32 [some (aR 7 0), some (aI (mWil h 0)), some (aI (c : Int)), some (aI he), some (aI y32)] [] (fwUc (fwUc (fwUc h 19 0 A1) 20 0 B2) 25 0 (fwFl (mAh (h 18 0) (mWil h 0) (h 5 0 3).toNat) (h 25 0) (c + 1))) Q := by
        refine fw_up (fun f hc32 ih32 => ?_)
        intro y32 he ey32 e_he
        subst ey32
        subst e_he
        have hpz := hP.1
        show fwWP mX10_gatherNames (d + 4) 32 [some (aR 7 0), some (aI (mWil h 0)), some (aI (c : Int)), some (aI (mHereF (h 18 0) (mWil h 0) c f)), some (aI (f : Int))] [] (fwUc (fwUc (fwUc h 19 0 A1) 20 0 B2) 25 0 (fwFl (mAh (h 18 0) (mWil h 0) (h 5 0 3).toNat) (h 25 0) (c + 1))) Q
        refine w_iload dX10_gatherNames_32 rfl ?_
        refine w_aload_n dX10_gatherNames_34 rfl ?_
        refine w_getr 3 0 dX10_gatherNames_35 fl_X10_15 rfl (by decide) ?_
        refine w_getr 5 0 dX10_gatherNames_38 fl_X10_19 rfl (by decide) ?_
        refine w_getiE (v := h 5 0 3) dX10_gatherNames_41 fl_X10_35 rfl (by decide) (by first | rfl | simp [fwUp, fwUc]) ?_
        refine w_icmp_ge 96 dX10_gatherNames_44 (by decide) (by omega) (by omega) (fun c44 => ?_) (fun c44 => ?_)
        · have ec32 : (h 5 0 3).toNat = f := by omega
          subst ec32
          refine w_aload_n dX10_gatherNames_96 rfl ?_
          refine w_getr 25 0 dX10_gatherNames_97 fl_X10_9 rfl (by decide) ?_
          refine w_iload_n dX10_gatherNames_100 rfl ?_
          refine w_iconst dX10_gatherNames_101 ?_
          refine w_iadd dX10_gatherNames_102 ?_
          refine w_aload_n dX10_gatherNames_103 rfl ?_
          refine w_getr 25 0 dX10_gatherNames_104 fl_X10_9 rfl (by decide) ?_
          refine w_iload_n dX10_gatherNames_107 rfl ?_
          refine w_ialdE (v := mAh (h 18 0) (mWil h 0) (h 5 0 3).toNat c) dX10_gatherNames_108 rfl (by decide) (by omega) (by omega) (by rw [fwUc_at]; exact fwFl_lt (by omega)) ?_
          refine w_iload_n dX10_gatherNames_109 rfl ?_
          refine w_iadd dX10_gatherNames_110 ?_
          refine w_iast dX10_gatherNames_111 rfl (by decide) (by omega) (by omega) ?_
          refine w_iinc [some (aR 7 0), some (aI (mWil h 0)), some (aI ((c : Int) + 1)), some (aI (mHereF (h 18 0) (mWil h 0) c (h 5 0 3).toNat)), some (aI (((h 5 0 3).toNat : Nat) : Int))] dX10_gatherNames_112 rfl rfl (by decide) ?_
          refine w_goto 21 dX10_gatherNames_115 (by decide) ?_
          refine w_drop [3, 4] [some (aR 7 0), some (aI (mWil h 0)), some (aI ((c : Int) + 1)), none, none] rfl ?_
          refine ih21 (by omega) _ _ ?_ ?_
          · exact (by omega)
          · exact (by rw [fwUp_uc, show ((c : Int) + 1).toNat = c + 1 by omega]; exact congrArg _ (fwFl_succ (mAh (h 18 0) (mWil h 0) (h 5 0 3).toNat) (h 25 0) (c + 1)))
        · refine w_iload_n dX10_gatherNames_47 rfl ?_
          refine w_iload dX10_gatherNames_48 rfl ?_
          refine w_ishr dX10_gatherNames_50 ?_
          refine w_iconst dX10_gatherNames_51 ?_
          have hb := fwAnd_rng1 (fwShr (mWil h 0) (f : Int))
          refine w_iand dX10_gatherNames_52 ?_
          refine w_iconst dX10_gatherNames_53 ?_
          refine w_icmp_ne 90 dX10_gatherNames_54 (by decide) (by omega) (by omega) (fun c54 => ?_) (fun c54 => ?_)
          · refine w_iinc [some (aR 7 0), some (aI (mWil h 0)), some (aI (c : Int)), some (aI (mHereF (h 18 0) (mWil h 0) c f)), some (aI ((f : Int) + 1))] dX10_gatherNames_90 rfl rfl (by decide) ?_
            refine w_goto 32 dX10_gatherNames_93 (by decide) ?_
            refine ih32 (by omega) _ _ ?_ ?_
            · exact (by omega)
            · exact (by rw [mHereF]; first | rw [if_pos (by omega)] | rw [if_neg (by omega)])
          · refine w_aload_n dX10_gatherNames_57 rfl ?_
            refine w_getr 3 0 dX10_gatherNames_58 fl_X10_15 rfl (by decide) ?_
            refine w_getr 5 0 dX10_gatherNames_61 fl_X10_19 rfl (by decide) ?_
            refine w_iload dX10_gatherNames_64 rfl ?_
            refine w_iconst dX10_gatherNames_66 ?_
            refine w_callV (d := d + 3) (S := []) [aI (f : Int), aI 0] dX10_gatherNames_67 ml_X10_39 ok_X3_fact vi_X3_fact rfl rfl (by decide) rfl (Nat.le_of_ble_eq_true rfl) ?_
            refine c_X3_fact (d := (d + 3)) 0 f 0 (by decide) (by first | assumption | omega | decide) (by first | assumption | omega | decide) ?_
            show fwWP mX10_gatherNames (d + 4) 70 [some (aR 7 0), some (aI (mWil h 0)), some (aI (c : Int)), some (aI (mHereF (h 18 0) (mWil h 0) c f)), some (aI (f : Int))] [aI (h 18 0 (7 * f))] (fwUc (fwUc (fwUc h 19 0 A1) 20 0 B2) 25 0 (fwFl (mAh (h 18 0) (mWil h 0) (h 5 0 3).toNat) (h 25 0) (c + 1))) Q
            have hfc := (hP.2 f (by omega)).1
            refine w_iload_n dX10_gatherNames_70 rfl ?_
            refine w_icmp_ne 90 dX10_gatherNames_71 (by decide) (by omega) (by omega) (fun c71 => ?_) (fun c71 => ?_)
            · refine w_iinc [some (aR 7 0), some (aI (mWil h 0)), some (aI (c : Int)), some (aI (mHereF (h 18 0) (mWil h 0) c f)), some (aI ((f : Int) + 1))] dX10_gatherNames_90 rfl rfl (by decide) ?_
              refine w_goto 32 dX10_gatherNames_93 (by decide) ?_
              refine ih32 (by omega) _ _ ?_ ?_
              · exact (by omega)
              · exact (by rw [mHereF]; first | rw [if_pos (by omega)] | rw [if_neg (by omega)])
            · refine w_iload_n dX10_gatherNames_74 rfl ?_
              refine w_aload_n dX10_gatherNames_75 rfl ?_
              refine w_getr 3 0 dX10_gatherNames_76 fl_X10_15 rfl (by decide) ?_
              refine w_getr 5 0 dX10_gatherNames_79 fl_X10_19 rfl (by decide) ?_
              refine w_iload dX10_gatherNames_82 rfl ?_
              refine w_iconst dX10_gatherNames_84 ?_
              refine w_callV (d := d + 3) (S := [aI (mHereF (h 18 0) (mWil h 0) c f)]) [aI (f : Int), aI 1] dX10_gatherNames_85 ml_X10_39 ok_X3_fact vi_X3_fact rfl rfl (by decide) rfl (Nat.le_of_ble_eq_true rfl) ?_
              refine c_X3_fact (d := (d + 3)) 0 f 1 (by decide) (by first | assumption | omega | decide) (by first | assumption | omega | decide) ?_
              show fwWP mX10_gatherNames (d + 4) 88 [some (aR 7 0), some (aI (mWil h 0)), some (aI (c : Int)), some (aI (mHereF (h 18 0) (mWil h 0) c f)), some (aI (f : Int))] [aI (h 18 0 (7 * f + 1)), aI (mHereF (h 18 0) (mWil h 0) c f)] (fwUc (fwUc (fwUc h 19 0 A1) 20 0 B2) 25 0 (fwFl (mAh (h 18 0) (mWil h 0) (h 5 0 3).toNat) (h 25 0) (c + 1))) Q
              refine w_iadd dX10_gatherNames_88 ?_
              refine w_istore_n [some (aR 7 0), some (aI (mWil h 0)), some (aI (c : Int)), some (aI ((mHereF (h 18 0) (mWil h 0) c f) + (h 18 0 (7 * f + 1)))), some (aI (f : Int))] dX10_gatherNames_89 rfl (by decide) ?_
              refine w_iinc [some (aR 7 0), some (aI (mWil h 0)), some (aI (c : Int)), some (aI ((mHereF (h 18 0) (mWil h 0) c f) + (h 18 0 (7 * f + 1)))), some (aI ((f : Int) + 1))] dX10_gatherNames_90 rfl rfl (by decide) ?_
              refine w_goto 32 dX10_gatherNames_93 (by decide) ?_
              refine ih32 (by omega) _ _ ?_ ?_
              · exact (by omega)
              · exact (by rw [mHereF]; first | rw [if_pos (by omega)] | rw [if_neg (by omega)])
      refine lp32 0 (Nat.zero_le _) _ _ ?_ ?_
      · exact (by omega)
      · exact rfl
  refine lp21 0 (Nat.zero_le _) _ _ ?_ ?_
  · exact (by omega)
  · exact (by rw [fwFl_1 (by rw [mAh]; exact hna.symm)]; exact (fwUc_self _ 25 0).symm)
def mWi (N : Nat → Int) (x y : Int) : Int := if x ≤ y ∧ 0 ≤ x ∧ y < 10 then N (y + 1).toNat - N x.toNat else 0
set_option maxRecDepth 100000 in
set_option maxHeartbeats 4000000 in
theorem c_X10_within {d : Nat} {h : fwH} {Q : Option fwV → fwH → Prop} (x y : Int) (hx : -1000 ≤ x ∧ x ≤ 1000) (hy : -1000 ≤ y ∧ y ≤ 1000) (k : Q (some (aI (mWi (h 25 0) x y))) h) : fwCt mX10_namesWithin (d + 0) [aR 7 0, aI x, aI y] h Q := by
  refine fwCt_of [some (aR 7 0), some (aI x), some (aI y)] rfl rfl rfl ?_
  refine w_iload_n dX10_namesWithin_0 rfl ?_
  refine w_iload_n dX10_namesWithin_1 rfl ?_
  refine w_icmp_gt 20 dX10_namesWithin_2 (by decide) (by omega) (by omega) (fun c2 => ?_) (fun c2 => ?_)
  · refine w_iconst dX10_namesWithin_20 ?_
    exact w_iretE dX10_namesWithin_21 rfl (by rw [mWi]; first | (exfalso; omega) | rw [if_pos (by omega)] | rw [if_neg (by omega)]) k
  · refine w_iload_n dX10_namesWithin_5 rfl ?_
    refine w_if_lt 20 dX10_namesWithin_6 (by decide) (by omega) (fun c6 => ?_) (fun c6 => ?_)
    · refine w_iconst dX10_namesWithin_20 ?_
      exact w_iretE dX10_namesWithin_21 rfl (by rw [mWi]; first | (exfalso; omega) | rw [if_pos (by omega)] | rw [if_neg (by omega)]) k
    · refine w_iload_n dX10_namesWithin_9 rfl ?_
      refine w_iconst dX10_namesWithin_10 ?_
      refine w_iadd dX10_namesWithin_11 ?_
      refine w_aload_n dX10_namesWithin_12 rfl ?_
      refine w_getr 25 0 dX10_namesWithin_13 fl_X10_9 rfl (by decide) ?_
      refine w_alen dX10_namesWithin_16 rfl (by decide) (by decide) ?_
      refine w_icmp_lt 22 dX10_namesWithin_17 (by decide) (by omega) (by omega) (fun c17 => ?_) (fun c17 => ?_)
      · refine w_aload_n dX10_namesWithin_22 rfl ?_
        refine w_getr 25 0 dX10_namesWithin_23 fl_X10_9 rfl (by decide) ?_
        refine w_iload_n dX10_namesWithin_26 rfl ?_
        refine w_iconst dX10_namesWithin_27 ?_
        refine w_iadd dX10_namesWithin_28 ?_
        refine w_iald dX10_namesWithin_29 rfl (by decide) (by omega) (by omega) ?_
        refine w_aload_n dX10_namesWithin_30 rfl ?_
        refine w_getr 25 0 dX10_namesWithin_31 fl_X10_9 rfl (by decide) ?_
        refine w_iload_n dX10_namesWithin_34 rfl ?_
        refine w_iald dX10_namesWithin_35 rfl (by decide) (by omega) (by omega) ?_
        refine w_isub dX10_namesWithin_36 ?_
        exact w_iretE dX10_namesWithin_37 rfl (by rw [mWi]; first | (exfalso; omega) | rw [if_pos (by omega)] | rw [if_neg (by omega)]) k
      · refine w_iconst dX10_namesWithin_20 ?_
        exact w_iretE dX10_namesWithin_21 rfl (by rw [mWi]; first | (exfalso; omega) | rw [if_pos (by omega)] | rw [if_neg (by omega)]) k
def mBoth (N : Nat → Int) (x y u v : Int) : Int := mWi N x y + mWi N u v - mWi N (max x u) (min y v)
set_option maxRecDepth 100000 in
set_option maxHeartbeats 4000000 in
theorem c_X10_both {d : Nat} {h : fwH} {Q : Option fwV → fwH → Prop} (x y u v : Int) (hx : -1000 ≤ x ∧ x ≤ 1000) (hy : -1000 ≤ y ∧ y ≤ 1000) (hu : -1000 ≤ u ∧ u ≤ 1000) (hv : -1000 ≤ v ∧ v ≤ 1000) (k : Q (some (aI (mBoth (h 25 0) x y u v))) h) : fwCt mX10_namesOfBoth (d + 1) [aR 7 0, aI x, aI y, aI u, aI v] h Q := by
  refine fwCt_of [some (aR 7 0), some (aI x), some (aI y), some (aI u), some (aI v), none] rfl rfl rfl ?_
  refine w_aload_n dX10_namesOfBoth_0 rfl ?_
  refine w_iload_n dX10_namesOfBoth_1 rfl ?_
  refine w_iload_n dX10_namesOfBoth_2 rfl ?_
  refine w_max (d := d + 0) (S := [aR 7 0]) dX10_namesOfBoth_3 ml_X10_43 (by omega) (by omega) (Nat.le_of_ble_eq_true rfl) ?_
  refine w_iload_n dX10_namesOfBoth_6 rfl ?_
  refine w_iload dX10_namesOfBoth_7 rfl ?_
  refine w_min (d := d + 0) (S := [aI (max x u), aR 7 0]) dX10_namesOfBoth_9 ml_X10_48 (by omega) (by omega) (Nat.le_of_ble_eq_true rfl) ?_
  refine w_callV (d := d + 0) (S := []) [aI (max x u), aI (min y v)] dX10_namesOfBoth_12 ml_X10_51 ok_X10_namesWithin vi_X10_namesWithin rfl rfl (by decide) rfl (Nat.le_of_ble_eq_true rfl) ?_
  refine c_X10_within (d := d) (max x u) (min y v) (by first | assumption | omega | decide) (by first | assumption | omega | decide) ?_
  show fwWP mX10_namesOfBoth (d + 1) 15 [some (aR 7 0), some (aI x), some (aI y), some (aI u), some (aI v), none] [aI (mWi (h 25 0) (max x u) (min y v))] h Q
  refine w_istore [some (aR 7 0), some (aI x), some (aI y), some (aI u), some (aI v), some (aI (mWi (h 25 0) (max x u) (min y v)))] dX10_namesOfBoth_15 rfl (by decide) ?_
  refine w_aload_n dX10_namesOfBoth_17 rfl ?_
  refine w_iload_n dX10_namesOfBoth_18 rfl ?_
  refine w_iload_n dX10_namesOfBoth_19 rfl ?_
  refine w_callV (d := d + 0) (S := []) [aI x, aI y] dX10_namesOfBoth_20 ml_X10_51 ok_X10_namesWithin vi_X10_namesWithin rfl rfl (by decide) rfl (Nat.le_of_ble_eq_true rfl) ?_
  refine c_X10_within (d := d) x y (by first | assumption | omega | decide) (by first | assumption | omega | decide) ?_
  show fwWP mX10_namesOfBoth (d + 1) 23 [some (aR 7 0), some (aI x), some (aI y), some (aI u), some (aI v), some (aI (mWi (h 25 0) (max x u) (min y v)))] [aI (mWi (h 25 0) x y)] h Q
  refine w_aload_n dX10_namesOfBoth_23 rfl ?_
  refine w_iload_n dX10_namesOfBoth_24 rfl ?_
  refine w_iload dX10_namesOfBoth_25 rfl ?_
  refine w_callV (d := d + 0) (S := [aI (mWi (h 25 0) x y)]) [aI u, aI v] dX10_namesOfBoth_27 ml_X10_51 ok_X10_namesWithin vi_X10_namesWithin rfl rfl (by decide) rfl (Nat.le_of_ble_eq_true rfl) ?_
  refine c_X10_within (d := d) u v (by first | assumption | omega | decide) (by first | assumption | omega | decide) ?_
  show fwWP mX10_namesOfBoth (d + 1) 30 [some (aR 7 0), some (aI x), some (aI y), some (aI u), some (aI v), some (aI (mWi (h 25 0) (max x u) (min y v)))] [aI (mWi (h 25 0) u v), aI (mWi (h 25 0) x y)] h Q
  refine w_iadd dX10_namesOfBoth_30 ?_
  refine w_iload dX10_namesOfBoth_31 rfl ?_
  refine w_isub dX10_namesOfBoth_33 ?_
  exact w_iretE dX10_namesOfBoth_34 rfl (by rfl) k
def mSteps (x a b : Int) : Int := b - a + min (x - a) (b - x)
set_option maxRecDepth 100000 in
set_option maxHeartbeats 4000000 in
theorem c_X10_steps {d : Nat} {h : fwH} {Q : Option fwV → fwH → Prop} (x a b : Int) (hx : -1000 ≤ x ∧ x ≤ 1000) (ha : -1000 ≤ a ∧ a ≤ 1000) (hb : -1000 ≤ b ∧ b ≤ 1000) (k : Q (some (aI (mSteps x a b))) h) : fwCt mX10_stepsOf (d + 1) [aI x, aI a, aI b] h Q := by
  refine fwCt_of [some (aI x), some (aI a), some (aI b)] rfl rfl rfl ?_
  refine w_iload_n dX10_stepsOf_0 rfl ?_
  refine w_iload_n dX10_stepsOf_1 rfl ?_
  refine w_isub dX10_stepsOf_2 ?_
  refine w_iload_n dX10_stepsOf_3 rfl ?_
  refine w_iload_n dX10_stepsOf_4 rfl ?_
  refine w_isub dX10_stepsOf_5 ?_
  refine w_iload_n dX10_stepsOf_6 rfl ?_
  refine w_iload_n dX10_stepsOf_7 rfl ?_
  refine w_isub dX10_stepsOf_8 ?_
  refine w_min (d := d + 0) (S := [aI (b - a)]) dX10_stepsOf_9 ml_X10_48 (by omega) (by omega) (Nat.le_of_ble_eq_true rfl) ?_
  refine w_iadd dX10_stepsOf_12 ?_
  exact w_iretE dX10_stepsOf_13 rfl (by rfl) k
def mW1i (N : Nat → Int) (x : Nat) (n : Int) (a : Nat) (s0 : Int × Int × Int) : Nat → Int × Int × Int
  | 0 => s0
  | j + 1 => if ((mW1i N x n a s0 j).1 = -1 ∨ mSteps x a (x + j) < (mW1i N x n a s0 j).1) ∧ n ≤ mWi N a (x + j) then (mSteps x a (x + j), (a : Int), (x : Int) + j) else mW1i N x n a s0 j
def mW1o (N : Nat → Int) (x : Nat) (n : Int) (m : Nat) (s0 : Int × Int × Int) : Nat → Int × Int × Int
  | 0 => s0
  | a + 1 => mW1i N x n a (mW1o N x n m s0 a) m
theorem mW1i_rng {N : Nat → Int} {x : Nat} {n : Int} {a : Nat} {s0 : Int × Int × Int} (hx : x < 10) (ha : a ≤ x) (hs : -1 ≤ s0.1 ∧ s0.1 ≤ 1000) : ∀ j, x + j ≤ 10 → -1 ≤ (mW1i N x n a s0 j).1 ∧ (mW1i N x n a s0 j).1 ≤ 1000 := by
  intro j
  induction j with
  | zero => intro _; exact hs
  | succ j ih =>
    intro hj
    have := ih (by omega)
    rw [mW1i]
    split
    · unfold mSteps; dsimp only; omega
    · exact this
theorem mW1o_rng {N : Nat → Int} {x : Nat} {n : Int} {m : Nat} {s0 : Int × Int × Int} (hx : x + m ≤ 10) (hx2 : x < 10) (hs : -1 ≤ s0.1 ∧ s0.1 ≤ 1000) : ∀ a, a ≤ x + 1 → -1 ≤ (mW1o N x n m s0 a).1 ∧ (mW1o N x n m s0 a).1 ≤ 1000 := by
  intro a
  induction a with
  | zero => intro _; exact hs
  | succ a ih =>
    intro ha
    exact mW1i_rng hx2 (by omega) (ih (by omega)) m hx
theorem fwUp4 (h : fwH) (l r a b : Int) : fwUp (fwUp (fwUp (fwUp h 7 0 2 l) 7 0 3 r) 7 0 2 a) 7 0 3 b = fwUp (fwUp h 7 0 2 a) 7 0 3 b := by
  funext k i s
  unfold fwUp
  (repeat' split)
  all_goals first | rfl | (exfalso; omega)
theorem fwUp_self2 (h : fwH) : fwUp (fwUp h 7 0 2 (h 7 0 2)) 7 0 3 (h 7 0 3) = h := by
  funext k i s
  unfold fwUp
  (repeat' split)
  all_goals first | rfl | (rename_i q; obtain ⟨rfl, rfl, rfl⟩ := q; rfl) | (rename_i q1 q2; obtain ⟨rfl, rfl, rfl⟩ := q2; rfl) | (rename_i q1 q2; obtain ⟨rfl, rfl, rfl⟩ := q1; rfl)
theorem mWi_rng {F : Nat → Int} (wl : Int) {n : Nat} (hn : n ≤ 8) (hF : ∀ f : Nat, f < 8 → 0 ≤ F (7 * f + 1) ∧ F (7 * f + 1) ≤ 99) (x y : Int) : -8000 ≤ mWi (mAh F wl n) x y ∧ mWi (mAh F wl n) x y ≤ 8000 := by
  unfold mWi
  split
  · have h1 := mAh_rng wl hn hF (y + 1).toNat
    have h2 := mAh_rng wl hn hF x.toNat
    omega
  · omega
set_option maxRecDepth 100000 in
set_option maxHeartbeats 4000000 in
theorem c_X10_walkOne {d : Nat} {h : fwH} {Q : Option fwV → fwH → Prop} (x : Nat) (n : Int) (hP : pOk h 0) (hG : gOk h 0) (hn : 1 ≤ h 4 0 1) (hM : ∀ c : Nat, c < 10 → h 17 0 c ≤ 999) (hna : h 25 0 0 = 0) (hx : (x : Int) < h 4 0 1) (hnn : 0 ≤ n ∧ n ≤ 1000) (k : ∀ A B, Q (some (aI ((mW1o (mAh (h 18 0) (mWil h 0) (h 5 0 3).toNat) x n ((h 4 0 1).toNat - x) (-1, h 7 0 2, h 7 0 3) (x + 1)).1))) (fwUp (fwUp (fwUc (fwUc (fwUc h 19 0 A) 20 0 B) 25 0 (mAh (h 18 0) (mWil h 0) (h 5 0 3).toNat)) 7 0 2 (mW1o (mAh (h 18 0) (mWil h 0) (h 5 0 3).toNat) x n ((h 4 0 1).toNat - x) (-1, h 7 0 2, h 7 0 3) (x + 1)).2.1) 7 0 3 (mW1o (mAh (h 18 0) (mWil h 0) (h 5 0 3).toNat) x n ((h 4 0 1).toNat - x) (-1, h 7 0 2, h 7 0 3) (x + 1)).2.2)) : fwCt mX10_walkOne (d + 5) [aR 7 0, aI (x : Int), aI n] h Q := by
  refine fwCt_of [some (aR 7 0), some (aI (x : Int)), some (aI n), none, none, none, none] rfl rfl rfl ?_
  have hpz := hP.1
  have hgz := hG.1
  refine w_aload_n dX10_walkOne_0 rfl ?_
  refine w_callV (d := d + 4) (S := []) [] dX10_walkOne_1 ml_X10_54 ok_X10_gatherNames vi_X10_gatherNames rfl rfl (by decide) rfl (Nat.le_of_ble_eq_true rfl) ?_
  refine c_X10_gather (d := d) (by first | assumption | omega | decide) (by first | assumption | omega | decide) (by first | assumption | omega | decide) (by first | assumption | omega | decide) (by first | assumption | omega | decide) ?_
  intro A1 B2
  show fwWP mX10_walkOne (d + 5) 4 [some (aR 7 0), some (aI (x : Int)), some (aI n), none, none, none, none] [] (fwUc (fwUc (fwUc h 19 0 A1) 20 0 B2) 25 0 (mAh (h 18 0) (mWil h 0) (h 5 0 3).toNat)) Q
  refine w_iconst dX10_walkOne_4 ?_
  refine w_istore_n [some (aR 7 0), some (aI (x : Int)), some (aI n), some (aI (-1)), none, none, none] dX10_walkOne_5 rfl (by decide) ?_
  refine w_iconst dX10_walkOne_6 ?_
  refine w_istore [some (aR 7 0), some (aI (x : Int)), some (aI n), some (aI (-1)), some (aI 0), none, none] dX10_walkOne_7 rfl (by decide) ?_
  have lp9 : ∀ a : Nat, a ≤ (x + 1) → ∀ (y9 fo : Int) (hh9 : fwH), y9 = (a : Int) → fo = (mW1o (mAh (h 18 0) (mWil h 0) (h 5 0 3).toNat) x n ((h 4 0 1).toNat - x) (-1, h 7 0 2, h 7 0 3) a).1 → hh9 = (fwUp (fwUp (fwUc (fwUc (fwUc h 19 0 A1) 20 0 B2) 25 0 (mAh (h 18 0) (mWil h 0) (h 5 0 3).toNat)) 7 0 2 (mW1o (mAh (h 18 0) (mWil h 0) (h 5 0 3).toNat) x n ((h 4 0 1).toNat - x) (-1, h 7 0 2, h 7 0 3) a).2.1) 7 0 3 (mW1o (mAh (h 18 0) (mWil h 0) (h 5 0 3).toNat) x n ((h 4 0 1).toNat - x) (-1, h 7 0 2, h 7 0 3) a).2.2) → fwWP mX10_walkOne (d + 5) 9 [some (aR 7 0), some (aI (x : Int)), some (aI n), some (aI fo), some (aI y9), none, none] [] hh9 Q := by
    refine fw_up (fun a hc9 ih9 => ?_)
    intro y9 fo hh9 ey9 e_fo eh9
    subst ey9
    subst e_fo
    subst eh9
    show fwWP mX10_walkOne (d + 5) 9 [some (aR 7 0), some (aI (x : Int)), some (aI n), some (aI ((mW1o (mAh (h 18 0) (mWil h 0) (h 5 0 3).toNat) x n ((h 4 0 1).toNat - x) (-1, h 7 0 2, h 7 0 3) a).1)), some (aI (a : Int)), none, none] [] (fwUp (fwUp (fwUc (fwUc (fwUc h 19 0 A1) 20 0 B2) 25 0 (mAh (h 18 0) (mWil h 0) (h 5 0 3).toNat)) 7 0 2 (mW1o (mAh (h 18 0) (mWil h 0) (h 5 0 3).toNat) x n ((h 4 0 1).toNat - x) (-1, h 7 0 2, h 7 0 3) a).2.1) 7 0 3 (mW1o (mAh (h 18 0) (mWil h 0) (h 5 0 3).toNat) x n ((h 4 0 1).toNat - x) (-1, h 7 0 2, h 7 0 3) a).2.2) Q
    refine w_iload dX10_walkOne_9 rfl ?_
    refine w_iload_n dX10_walkOne_11 rfl ?_
    refine w_icmp_gt 93 dX10_walkOne_12 (by decide) (by omega) (by omega) (fun c12 => ?_) (fun c12 => ?_)
    · have ec9 : (x + 1) = a := by omega
      subst ec9
      refine w_iload_n dX10_walkOne_93 rfl ?_
      exact w_iret dX10_walkOne_94 rfl (k _ _)
    · refine w_iload_n dX10_walkOne_15 rfl ?_
      refine w_istore [some (aR 7 0), some (aI (x : Int)), some (aI n), some (aI ((mW1o (mAh (h 18 0) (mWil h 0) (h 5 0 3).toNat) x n ((h 4 0 1).toNat - x) (-1, h 7 0 2, h 7 0 3) a).1)), some (aI (a : Int)), some (aI (x : Int)), none] dX10_walkOne_16 rfl (by decide) ?_
      have lp18 : ∀ j : Nat, j ≤ ((h 4 0 1).toNat - x) → ∀ (y18 fe : Int) (hh18 : fwH), y18 = (x : Int) + (j : Int) → fe = (mW1i (mAh (h 18 0) (mWil h 0) (h 5 0 3).toNat) x n a (mW1o (mAh (h 18 0) (mWil h 0) (h 5 0 3).toNat) x n ((h 4 0 1).toNat - x) (-1, h 7 0 2, h 7 0 3) a) j).1 → hh18 = (fwUp (fwUp (fwUc (fwUc (fwUc h 19 0 A1) 20 0 B2) 25 0 (mAh (h 18 0) (mWil h 0) (h 5 0 3).toNat)) 7 0 2 (mW1i (mAh (h 18 0) (mWil h 0) (h 5 0 3).toNat) x n a (mW1o (mAh (h 18 0) (mWil h 0) (h 5 0 3).toNat) x n ((h 4 0 1).toNat - x) (-1, h 7 0 2, h 7 0 3) a) j).2.1) 7 0 3 (mW1i (mAh (h 18 0) (mWil h 0) (h 5 0 3).toNat) x n a (mW1o (mAh (h 18 0) (mWil h 0) (h 5 0 3).toNat) x n ((h 4 0 1).toNat - x) (-1, h 7 0 2, h 7 0 3) a) j).2.2) → fwWP mX10_walkOne (d + 5) 18 [some (aR 7 0), some (aI (x : Int)), some (aI n), some (aI fe), some (aI (a : Int)), some (aI y18), none] [] hh18 Q := by
        refine fw_up (fun j hc18 ih18 => ?_)
        intro y18 fe hh18 ey18 e_fe eh18
        subst ey18
        subst e_fe
        subst eh18
        have hir := mW1i_rng (N := (mAh (h 18 0) (mWil h 0) (h 5 0 3).toNat)) (n := n) (x := x) (a := a) (s0 := mW1o (mAh (h 18 0) (mWil h 0) (h 5 0 3).toNat) x n ((h 4 0 1).toNat - x) (-1, h 7 0 2, h 7 0 3) a) (by omega) (by omega) (mW1o_rng (by omega) (by omega) (by dsimp only; omega) a (by omega)) j (by omega)
        show fwWP mX10_walkOne (d + 5) 18 [some (aR 7 0), some (aI (x : Int)), some (aI n), some (aI ((mW1i (mAh (h 18 0) (mWil h 0) (h 5 0 3).toNat) x n a (mW1o (mAh (h 18 0) (mWil h 0) (h 5 0 3).toNat) x n ((h 4 0 1).toNat - x) (-1, h 7 0 2, h 7 0 3) a) j).1)), some (aI (a : Int)), some (aI ((x : Int) + (j : Int))), none] [] (fwUp (fwUp (fwUc (fwUc (fwUc h 19 0 A1) 20 0 B2) 25 0 (mAh (h 18 0) (mWil h 0) (h 5 0 3).toNat)) 7 0 2 (mW1i (mAh (h 18 0) (mWil h 0) (h 5 0 3).toNat) x n a (mW1o (mAh (h 18 0) (mWil h 0) (h 5 0 3).toNat) x n ((h 4 0 1).toNat - x) (-1, h 7 0 2, h 7 0 3) a) j).2.1) 7 0 3 (mW1i (mAh (h 18 0) (mWil h 0) (h 5 0 3).toNat) x n a (mW1o (mAh (h 18 0) (mWil h 0) (h 5 0 3).toNat) x n ((h 4 0 1).toNat - x) (-1, h 7 0 2, h 7 0 3) a) j).2.2) Q
        refine w_iload dX10_walkOne_18 rfl ?_
        refine w_aload_n dX10_walkOne_20 rfl ?_
        refine w_getr 3 0 dX10_walkOne_21 fl_X10_15 rfl (by decide) ?_
        refine w_getr 4 0 dX10_walkOne_24 fl_X10_25 rfl (by decide) ?_
        refine w_getiE (v := h 4 0 1) dX10_walkOne_27 fl_X10_57 rfl (by decide) (by first | rfl | simp [fwUp, fwUc]) ?_
        refine w_icmp_ge 87 dX10_walkOne_30 (by decide) (by omega) (by omega) (fun c30 => ?_) (fun c30 => ?_)
        · have ec18 : ((h 4 0 1).toNat - x) = j := by omega
          subst ec18
          refine w_iinc [some (aR 7 0), some (aI (x : Int)), some (aI n), some (aI ((mW1i (mAh (h 18 0) (mWil h 0) (h 5 0 3).toNat) x n a (mW1o (mAh (h 18 0) (mWil h 0) (h 5 0 3).toNat) x n ((h 4 0 1).toNat - x) (-1, h 7 0 2, h 7 0 3) a) ((h 4 0 1).toNat - x)).1)), some (aI ((a : Int) + 1)), some (aI ((x : Int) + ((((h 4 0 1).toNat - x) : Nat) : Int))), none] dX10_walkOne_87 rfl rfl (by decide) ?_
          refine w_goto 9 dX10_walkOne_90 (by decide) ?_
          refine w_drop [5] [some (aR 7 0), some (aI (x : Int)), some (aI n), some (aI ((mW1i (mAh (h 18 0) (mWil h 0) (h 5 0 3).toNat) x n a (mW1o (mAh (h 18 0) (mWil h 0) (h 5 0 3).toNat) x n ((h 4 0 1).toNat - x) (-1, h 7 0 2, h 7 0 3) a) ((h 4 0 1).toNat - x)).1)), some (aI ((a : Int) + 1)), none, none] rfl ?_
          refine ih9 (by omega) _ _ _ ?_ ?_ ?_
          · exact (by omega)
          · exact rfl
          · exact rfl
        · refine w_iload_n dX10_walkOne_33 rfl ?_
          refine w_iload dX10_walkOne_34 rfl ?_
          refine w_iload dX10_walkOne_36 rfl ?_
          refine w_callS (d := d + 4) (S := []) [aI (x : Int), aI (a : Int), aI ((x : Int) + (j : Int))] dX10_walkOne_38 ml_X10_62 ok_X10_stepsOf st_X10_stepsOf rfl (Nat.le_of_ble_eq_true rfl) ?_
          refine c_X10_steps (d := (d + 3)) (x : Int) (a : Int) ((x : Int) + (j : Int)) (by first | assumption | omega | decide) (by first | assumption | omega | decide) (by first | assumption | omega | decide) ?_
          show fwWP mX10_walkOne (d + 5) 41 [some (aR 7 0), some (aI (x : Int)), some (aI n), some (aI ((mW1i (mAh (h 18 0) (mWil h 0) (h 5 0 3).toNat) x n a (mW1o (mAh (h 18 0) (mWil h 0) (h 5 0 3).toNat) x n ((h 4 0 1).toNat - x) (-1, h 7 0 2, h 7 0 3) a) j).1)), some (aI (a : Int)), some (aI ((x : Int) + (j : Int))), none] [aI (mSteps (x : Int) (a : Int) ((x : Int) + (j : Int)))] (fwUp (fwUp (fwUc (fwUc (fwUc h 19 0 A1) 20 0 B2) 25 0 (mAh (h 18 0) (mWil h 0) (h 5 0 3).toNat)) 7 0 2 (mW1i (mAh (h 18 0) (mWil h 0) (h 5 0 3).toNat) x n a (mW1o (mAh (h 18 0) (mWil h 0) (h 5 0 3).toNat) x n ((h 4 0 1).toNat - x) (-1, h 7 0 2, h 7 0 3) a) j).2.1) 7 0 3 (mW1i (mAh (h 18 0) (mWil h 0) (h 5 0 3).toNat) x n a (mW1o (mAh (h 18 0) (mWil h 0) (h 5 0 3).toNat) x n ((h 4 0 1).toNat - x) (-1, h 7 0 2, h 7 0 3) a) j).2.2) Q
          refine w_istore [some (aR 7 0), some (aI (x : Int)), some (aI n), some (aI ((mW1i (mAh (h 18 0) (mWil h 0) (h 5 0 3).toNat) x n a (mW1o (mAh (h 18 0) (mWil h 0) (h 5 0 3).toNat) x n ((h 4 0 1).toNat - x) (-1, h 7 0 2, h 7 0 3) a) j).1)), some (aI (a : Int)), some (aI ((x : Int) + (j : Int))), some (aI (mSteps (x : Int) (a : Int) ((x : Int) + (j : Int))))] dX10_walkOne_41 rfl (by decide) ?_
          have hst : -1000 ≤ mSteps x a (x + j) ∧ mSteps x a (x + j) ≤ 1000 := by unfold mSteps; omega
          refine w_iload_n dX10_walkOne_43 rfl ?_
          refine w_iconst dX10_walkOne_44 ?_
          refine w_icmp_eq 54 dX10_walkOne_45 (by decide) (by omega) (by omega) (fun c45 => ?_) (fun c45 => ?_)
          · refine w_aload_n dX10_walkOne_54 rfl ?_
            refine w_iload dX10_walkOne_55 rfl ?_
            refine w_iload dX10_walkOne_57 rfl ?_
            refine w_callV (d := d + 4) (S := []) [aI (a : Int), aI ((x : Int) + (j : Int))] dX10_walkOne_59 ml_X10_51 ok_X10_namesWithin vi_X10_namesWithin rfl rfl (by decide) rfl (Nat.le_of_ble_eq_true rfl) ?_
            refine c_X10_within (d := (d + 4)) (a : Int) ((x : Int) + (j : Int)) (by first | assumption | omega | decide) (by first | assumption | omega | decide) ?_
            show fwWP mX10_walkOne (d + 5) 62 [some (aR 7 0), some (aI (x : Int)), some (aI n), some (aI ((mW1i (mAh (h 18 0) (mWil h 0) (h 5 0 3).toNat) x n a (mW1o (mAh (h 18 0) (mWil h 0) (h 5 0 3).toNat) x n ((h 4 0 1).toNat - x) (-1, h 7 0 2, h 7 0 3) a) j).1)), some (aI (a : Int)), some (aI ((x : Int) + (j : Int))), some (aI (mSteps (x : Int) (a : Int) ((x : Int) + (j : Int))))] [aI (mWi (mAh (h 18 0) (mWil h 0) (h 5 0 3).toNat) (a : Int) ((x : Int) + (j : Int)))] (fwUp (fwUp (fwUc (fwUc (fwUc h 19 0 A1) 20 0 B2) 25 0 (mAh (h 18 0) (mWil h 0) (h 5 0 3).toNat)) 7 0 2 (mW1i (mAh (h 18 0) (mWil h 0) (h 5 0 3).toNat) x n a (mW1o (mAh (h 18 0) (mWil h 0) (h 5 0 3).toNat) x n ((h 4 0 1).toNat - x) (-1, h 7 0 2, h 7 0 3) a) j).2.1) 7 0 3 (mW1i (mAh (h 18 0) (mWil h 0) (h 5 0 3).toNat) x n a (mW1o (mAh (h 18 0) (mWil h 0) (h 5 0 3).toNat) x n ((h 4 0 1).toNat - x) (-1, h 7 0 2, h 7 0 3) a) j).2.2) Q
            have hwr := mWi_rng (mWil h 0) (n := (h 5 0 3).toNat) (by omega) (fun f hf => (hP.2 f hf).2.1) (a : Int) ((x : Int) + (j : Int))
            refine w_iload_n dX10_walkOne_62 rfl ?_
            refine w_icmp_lt 81 dX10_walkOne_63 (by decide) (by omega) (by omega) (fun c63 => ?_) (fun c63 => ?_)
            · refine w_iinc [some (aR 7 0), some (aI (x : Int)), some (aI n), some (aI ((mW1i (mAh (h 18 0) (mWil h 0) (h 5 0 3).toNat) x n a (mW1o (mAh (h 18 0) (mWil h 0) (h 5 0 3).toNat) x n ((h 4 0 1).toNat - x) (-1, h 7 0 2, h 7 0 3) a) j).1)), some (aI (a : Int)), some (aI (((x : Int) + (j : Int)) + 1)), some (aI (mSteps (x : Int) (a : Int) ((x : Int) + (j : Int))))] dX10_walkOne_81 rfl rfl (by decide) ?_
              refine w_goto 18 dX10_walkOne_84 (by decide) ?_
              refine w_drop [6] [some (aR 7 0), some (aI (x : Int)), some (aI n), some (aI ((mW1i (mAh (h 18 0) (mWil h 0) (h 5 0 3).toNat) x n a (mW1o (mAh (h 18 0) (mWil h 0) (h 5 0 3).toNat) x n ((h 4 0 1).toNat - x) (-1, h 7 0 2, h 7 0 3) a) j).1)), some (aI (a : Int)), some (aI (((x : Int) + (j : Int)) + 1)), none] rfl ?_
              refine ih18 (by omega) _ _ _ ?_ ?_ ?_
              · exact (by omega)
              · exact (by rw [mW1i]; first | rw [if_pos (by omega)] | rw [if_neg (by omega)])
              · exact (by rw [mW1i]; first | rw [if_pos (by omega)] | rw [if_neg (by omega)])
            · refine w_iload dX10_walkOne_66 rfl ?_
              refine w_istore_n [some (aR 7 0), some (aI (x : Int)), some (aI n), some (aI (mSteps (x : Int) (a : Int) ((x : Int) + (j : Int)))), some (aI (a : Int)), some (aI ((x : Int) + (j : Int))), some (aI (mSteps (x : Int) (a : Int) ((x : Int) + (j : Int))))] dX10_walkOne_68 rfl (by decide) ?_
              refine w_aload_n dX10_walkOne_69 rfl ?_
              refine w_iload dX10_walkOne_70 rfl ?_
              refine w_puti dX10_walkOne_72 fl_X10_66 fp_7_2 rfl (by decide) ?_
              refine w_aload_n dX10_walkOne_75 rfl ?_
              refine w_iload dX10_walkOne_76 rfl ?_
              refine w_puti dX10_walkOne_78 fl_X10_69 fp_7_3 rfl (by decide) ?_
              refine w_iinc [some (aR 7 0), some (aI (x : Int)), some (aI n), some (aI (mSteps (x : Int) (a : Int) ((x : Int) + (j : Int)))), some (aI (a : Int)), some (aI (((x : Int) + (j : Int)) + 1)), some (aI (mSteps (x : Int) (a : Int) ((x : Int) + (j : Int))))] dX10_walkOne_81 rfl rfl (by decide) ?_
              refine w_goto 18 dX10_walkOne_84 (by decide) ?_
              refine w_drop [6] [some (aR 7 0), some (aI (x : Int)), some (aI n), some (aI (mSteps (x : Int) (a : Int) ((x : Int) + (j : Int)))), some (aI (a : Int)), some (aI (((x : Int) + (j : Int)) + 1)), none] rfl ?_
              refine ih18 (by omega) _ _ _ ?_ ?_ ?_
              · exact (by omega)
              · exact (by rw [mW1i]; first | rw [if_pos (by omega)] | rw [if_neg (by omega)])
              · exact (by rw [fwUp4, mW1i]; first | rw [if_pos (by omega)] | rw [if_neg (by omega)])
          · refine w_iload dX10_walkOne_48 rfl ?_
            refine w_iload_n dX10_walkOne_50 rfl ?_
            refine w_icmp_ge 81 dX10_walkOne_51 (by decide) (by omega) (by omega) (fun c51 => ?_) (fun c51 => ?_)
            · refine w_iinc [some (aR 7 0), some (aI (x : Int)), some (aI n), some (aI ((mW1i (mAh (h 18 0) (mWil h 0) (h 5 0 3).toNat) x n a (mW1o (mAh (h 18 0) (mWil h 0) (h 5 0 3).toNat) x n ((h 4 0 1).toNat - x) (-1, h 7 0 2, h 7 0 3) a) j).1)), some (aI (a : Int)), some (aI (((x : Int) + (j : Int)) + 1)), some (aI (mSteps (x : Int) (a : Int) ((x : Int) + (j : Int))))] dX10_walkOne_81 rfl rfl (by decide) ?_
              refine w_goto 18 dX10_walkOne_84 (by decide) ?_
              refine w_drop [6] [some (aR 7 0), some (aI (x : Int)), some (aI n), some (aI ((mW1i (mAh (h 18 0) (mWil h 0) (h 5 0 3).toNat) x n a (mW1o (mAh (h 18 0) (mWil h 0) (h 5 0 3).toNat) x n ((h 4 0 1).toNat - x) (-1, h 7 0 2, h 7 0 3) a) j).1)), some (aI (a : Int)), some (aI (((x : Int) + (j : Int)) + 1)), none] rfl ?_
              refine ih18 (by omega) _ _ _ ?_ ?_ ?_
              · exact (by omega)
              · exact (by rw [mW1i]; first | rw [if_pos (by omega)] | rw [if_neg (by omega)])
              · exact (by rw [mW1i]; first | rw [if_pos (by omega)] | rw [if_neg (by omega)])
            · refine w_aload_n dX10_walkOne_54 rfl ?_
              refine w_iload dX10_walkOne_55 rfl ?_
              refine w_iload dX10_walkOne_57 rfl ?_
              refine w_callV (d := d + 4) (S := []) [aI (a : Int), aI ((x : Int) + (j : Int))] dX10_walkOne_59 ml_X10_51 ok_X10_namesWithin vi_X10_namesWithin rfl rfl (by decide) rfl (Nat.le_of_ble_eq_true rfl) ?_
              refine c_X10_within (d := (d + 4)) (a : Int) ((x : Int) + (j : Int)) (by first | assumption | omega | decide) (by first | assumption | omega | decide) ?_
              show fwWP mX10_walkOne (d + 5) 62 [some (aR 7 0), some (aI (x : Int)), some (aI n), some (aI ((mW1i (mAh (h 18 0) (mWil h 0) (h 5 0 3).toNat) x n a (mW1o (mAh (h 18 0) (mWil h 0) (h 5 0 3).toNat) x n ((h 4 0 1).toNat - x) (-1, h 7 0 2, h 7 0 3) a) j).1)), some (aI (a : Int)), some (aI ((x : Int) + (j : Int))), some (aI (mSteps (x : Int) (a : Int) ((x : Int) + (j : Int))))] [aI (mWi (mAh (h 18 0) (mWil h 0) (h 5 0 3).toNat) (a : Int) ((x : Int) + (j : Int)))] (fwUp (fwUp (fwUc (fwUc (fwUc h 19 0 A1) 20 0 B2) 25 0 (mAh (h 18 0) (mWil h 0) (h 5 0 3).toNat)) 7 0 2 (mW1i (mAh (h 18 0) (mWil h 0) (h 5 0 3).toNat) x n a (mW1o (mAh (h 18 0) (mWil h 0) (h 5 0 3).toNat) x n ((h 4 0 1).toNat - x) (-1, h 7 0 2, h 7 0 3) a) j).2.1) 7 0 3 (mW1i (mAh (h 18 0) (mWil h 0) (h 5 0 3).toNat) x n a (mW1o (mAh (h 18 0) (mWil h 0) (h 5 0 3).toNat) x n ((h 4 0 1).toNat - x) (-1, h 7 0 2, h 7 0 3) a) j).2.2) Q
              have hwr := mWi_rng (mWil h 0) (n := (h 5 0 3).toNat) (by omega) (fun f hf => (hP.2 f hf).2.1) (a : Int) ((x : Int) + (j : Int))
              refine w_iload_n dX10_walkOne_62 rfl ?_
              refine w_icmp_lt 81 dX10_walkOne_63 (by decide) (by omega) (by omega) (fun c63 => ?_) (fun c63 => ?_)
              · refine w_iinc [some (aR 7 0), some (aI (x : Int)), some (aI n), some (aI ((mW1i (mAh (h 18 0) (mWil h 0) (h 5 0 3).toNat) x n a (mW1o (mAh (h 18 0) (mWil h 0) (h 5 0 3).toNat) x n ((h 4 0 1).toNat - x) (-1, h 7 0 2, h 7 0 3) a) j).1)), some (aI (a : Int)), some (aI (((x : Int) + (j : Int)) + 1)), some (aI (mSteps (x : Int) (a : Int) ((x : Int) + (j : Int))))] dX10_walkOne_81 rfl rfl (by decide) ?_
                refine w_goto 18 dX10_walkOne_84 (by decide) ?_
                refine w_drop [6] [some (aR 7 0), some (aI (x : Int)), some (aI n), some (aI ((mW1i (mAh (h 18 0) (mWil h 0) (h 5 0 3).toNat) x n a (mW1o (mAh (h 18 0) (mWil h 0) (h 5 0 3).toNat) x n ((h 4 0 1).toNat - x) (-1, h 7 0 2, h 7 0 3) a) j).1)), some (aI (a : Int)), some (aI (((x : Int) + (j : Int)) + 1)), none] rfl ?_
                refine ih18 (by omega) _ _ _ ?_ ?_ ?_
                · exact (by omega)
                · exact (by rw [mW1i]; first | rw [if_pos (by omega)] | rw [if_neg (by omega)])
                · exact (by rw [mW1i]; first | rw [if_pos (by omega)] | rw [if_neg (by omega)])
              · refine w_iload dX10_walkOne_66 rfl ?_
                refine w_istore_n [some (aR 7 0), some (aI (x : Int)), some (aI n), some (aI (mSteps (x : Int) (a : Int) ((x : Int) + (j : Int)))), some (aI (a : Int)), some (aI ((x : Int) + (j : Int))), some (aI (mSteps (x : Int) (a : Int) ((x : Int) + (j : Int))))] dX10_walkOne_68 rfl (by decide) ?_
                refine w_aload_n dX10_walkOne_69 rfl ?_
                refine w_iload dX10_walkOne_70 rfl ?_
                refine w_puti dX10_walkOne_72 fl_X10_66 fp_7_2 rfl (by decide) ?_
                refine w_aload_n dX10_walkOne_75 rfl ?_
                refine w_iload dX10_walkOne_76 rfl ?_
                refine w_puti dX10_walkOne_78 fl_X10_69 fp_7_3 rfl (by decide) ?_
                refine w_iinc [some (aR 7 0), some (aI (x : Int)), some (aI n), some (aI (mSteps (x : Int) (a : Int) ((x : Int) + (j : Int)))), some (aI (a : Int)), some (aI (((x : Int) + (j : Int)) + 1)), some (aI (mSteps (x : Int) (a : Int) ((x : Int) + (j : Int))))] dX10_walkOne_81 rfl rfl (by decide) ?_
                refine w_goto 18 dX10_walkOne_84 (by decide) ?_
                refine w_drop [6] [some (aR 7 0), some (aI (x : Int)), some (aI n), some (aI (mSteps (x : Int) (a : Int) ((x : Int) + (j : Int)))), some (aI (a : Int)), some (aI (((x : Int) + (j : Int)) + 1)), none] rfl ?_
                refine ih18 (by omega) _ _ _ ?_ ?_ ?_
                · exact (by omega)
                · exact (by rw [mW1i]; first | rw [if_pos (by omega)] | rw [if_neg (by omega)])
                · exact (by rw [fwUp4, mW1i]; first | rw [if_pos (by omega)] | rw [if_neg (by omega)])
      refine lp18 0 (Nat.zero_le _) _ _ _ ?_ ?_ ?_
      · exact (by omega)
      · exact rfl
      · exact rfl
  refine lp9 0 (Nat.zero_le _) _ _ _ ?_ ?_ ?_
  · exact (by omega)
  · exact rfl
  · exact (by exact (fwUp_self2 _).symm)
def mBei (N : Nat → Int) (y : Nat) (n a b : Int) (u : Nat) (s0 : Int) : Nat → Int
  | 0 => s0
  | j + 1 => if (mBei N y n a b u s0 j = -1 ∨ mSteps y u (y + j) < mBei N y n a b u s0 j) ∧ n ≤ mBoth N a b u (y + j) then mSteps y u (y + j) else mBei N y n a b u s0 j
def mBeo (N : Nat → Int) (y : Nat) (n a b : Int) (m : Nat) : Nat → Int
  | 0 => -1
  | u + 1 => mBei N y n a b u (mBeo N y n a b m u) m
theorem mBei_rng {N : Nat → Int} {y : Nat} {n a b : Int} {u : Nat} {s0 : Int} (hy : y < 10) (hu : u ≤ y) (hs : -1 ≤ s0 ∧ s0 ≤ 1000) : ∀ j, y + j ≤ 10 → -1 ≤ mBei N y n a b u s0 j ∧ mBei N y n a b u s0 j ≤ 1000 := by
  intro j
  induction j with
  | zero => intro _; exact hs
  | succ j ih =>
    intro hj
    have := ih (by omega)
    rw [mBei]
    split
    · unfold mSteps; omega
    · exact this
theorem mBeo_rng {N : Nat → Int} {y : Nat} {n a b : Int} {m : Nat} (hm : y + m ≤ 10) (hy : y < 10) : ∀ u, u ≤ y + 1 → -1 ≤ mBeo N y n a b m u ∧ mBeo N y n a b m u ≤ 1000 := by
  intro u
  induction u with
  | zero => intro _; simp [mBeo]
  | succ u ih =>
    intro hu
    exact mBei_rng hy (by omega) (ih (by omega)) m hm
theorem mWi_r2 {N : Nat → Int} (hN : ∀ c : Nat, c ≤ 10 → 0 ≤ N c ∧ N c ≤ 8000) (x y : Int) : -8000 ≤ mWi N x y ∧ mWi N x y ≤ 8000 := by
  unfold mWi
  split
  · have h1 := hN (y + 1).toNat (by omega)
    have h2 := hN x.toNat (by omega)
    omega
  · omega
theorem mBoth_rng {N : Nat → Int} (hN : ∀ c : Nat, c ≤ 10 → 0 ≤ N c ∧ N c ≤ 8000) (x y u v : Int) : -24000 ≤ mBoth N x y u v ∧ mBoth N x y u v ≤ 24000 := by
  unfold mBoth
  have h1 := mWi_r2 hN x y
  have h2 := mWi_r2 hN u v
  have h3 := mWi_r2 hN (max x u) (min y v)
  omega
set_option maxRecDepth 100000 in
set_option maxHeartbeats 4000000 in
theorem c_X10_besides {d : Nat} {h : fwH} {Q : Option fwV → fwH → Prop} (y : Nat) (n a b : Int) (hG : gOk h 0) (hN : ∀ c : Nat, c ≤ 10 → 0 ≤ h 25 0 c ∧ h 25 0 c ≤ 8000) (hy : (y : Int) < h 4 0 1) (hnn : 0 ≤ n ∧ n ≤ 1000) (ha : 0 ≤ a ∧ a ≤ 10) (hb : 0 ≤ b ∧ b ≤ 10) (k : Q (some (aI (mBeo (h 25 0) y n a b ((h 4 0 1).toNat - y) (y + 1)))) h) : fwCt mX10_besides (d + 2) [aR 7 0, aI (y : Int), aI n, aI a, aI b] h Q := by
  refine fwCt_of [some (aR 7 0), some (aI (y : Int)), some (aI n), some (aI a), some (aI b), none, none, none, none] rfl rfl rfl ?_
  have hgz := hG.1
  refine w_iconst dX10_besides_0 ?_
  refine w_istore [some (aR 7 0), some (aI (y : Int)), some (aI n), some (aI a), some (aI b), some (aI (-1)), none, none, none] dX10_besides_1 rfl (by decide) ?_
  refine w_iconst dX10_besides_3 ?_
  refine w_istore [some (aR 7 0), some (aI (y : Int)), some (aI n), some (aI a), some (aI b), some (aI (-1)), some (aI 0), none, none] dX10_besides_4 rfl (by decide) ?_
  have lp6 : ∀ u : Nat, u ≤ (y + 1) → ∀ (y6 fo : Int), y6 = (u : Int) → fo = mBeo (h 25 0) y n a b ((h 4 0 1).toNat - y) u → fwWP mX10_besides (d + 2) 6 [some (aR 7 0), some (aI (y : Int)), some (aI n), some (aI a), some (aI b), some (aI fo), some (aI y6), none, none] [] h Q := by
    refine fw_up (fun u hc6 ih6 => ?_)
    intro y6 fo ey6 e_fo
    subst ey6
    subst e_fo
    show fwWP mX10_besides (d + 2) 6 [some (aR 7 0), some (aI (y : Int)), some (aI n), some (aI a), some (aI b), some (aI (mBeo (h 25 0) y n a b ((h 4 0 1).toNat - y) u)), some (aI (u : Int)), none, none] [] h Q
    refine w_iload dX10_besides_6 rfl ?_
    refine w_iload_n dX10_besides_8 rfl ?_
    refine w_icmp_gt 84 dX10_besides_9 (by decide) (by omega) (by omega) (fun c9 => ?_) (fun c9 => ?_)
    · have ec6 : (y + 1) = u := by omega
      subst ec6
      refine w_iload dX10_besides_84 rfl ?_
      exact w_iretE dX10_besides_86 rfl (by rfl) k
    · refine w_iload_n dX10_besides_12 rfl ?_
      refine w_istore [some (aR 7 0), some (aI (y : Int)), some (aI n), some (aI a), some (aI b), some (aI (mBeo (h 25 0) y n a b ((h 4 0 1).toNat - y) u)), some (aI (u : Int)), some (aI (y : Int)), none] dX10_besides_13 rfl (by decide) ?_
      have lp15 : ∀ j : Nat, j ≤ ((h 4 0 1).toNat - y) → ∀ (y15 fe : Int), y15 = (y : Int) + (j : Int) → fe = mBei (h 25 0) y n a b u (mBeo (h 25 0) y n a b ((h 4 0 1).toNat - y) u) j → fwWP mX10_besides (d + 2) 15 [some (aR 7 0), some (aI (y : Int)), some (aI n), some (aI a), some (aI b), some (aI fe), some (aI (u : Int)), some (aI y15), none] [] h Q := by
        refine fw_up (fun j hc15 ih15 => ?_)
        intro y15 fe ey15 e_fe
        subst ey15
        subst e_fe
        have hir := mBei_rng (N := h 25 0) (n := n) (y := y) (a := a) (b := b) (u := u) (s0 := mBeo (h 25 0) y n a b ((h 4 0 1).toNat - y) u) (by omega) (by omega) (mBeo_rng (by omega) (by omega) u (by omega)) j (by omega)
        show fwWP mX10_besides (d + 2) 15 [some (aR 7 0), some (aI (y : Int)), some (aI n), some (aI a), some (aI b), some (aI (mBei (h 25 0) y n a b u (mBeo (h 25 0) y n a b ((h 4 0 1).toNat - y) u) j)), some (aI (u : Int)), some (aI ((y : Int) + (j : Int))), none] [] h Q
        refine w_iload dX10_besides_15 rfl ?_
        refine w_aload_n dX10_besides_17 rfl ?_
        refine w_getr 3 0 dX10_besides_18 fl_X10_15 rfl (by decide) ?_
        refine w_getr 4 0 dX10_besides_21 fl_X10_25 rfl (by decide) ?_
        refine w_geti dX10_besides_24 fl_X10_57 rfl (by decide) ?_
        refine w_icmp_ge 78 dX10_besides_27 (by decide) (by omega) (by omega) (fun c27 => ?_) (fun c27 => ?_)
        · have ec15 : ((h 4 0 1).toNat - y) = j := by omega
          subst ec15
          refine w_iinc [some (aR 7 0), some (aI (y : Int)), some (aI n), some (aI a), some (aI b), some (aI (mBei (h 25 0) y n a b u (mBeo (h 25 0) y n a b ((h 4 0 1).toNat - y) u) ((h 4 0 1).toNat - y))), some (aI ((u : Int) + 1)), some (aI ((y : Int) + ((((h 4 0 1).toNat - y) : Nat) : Int))), none] dX10_besides_78 rfl rfl (by decide) ?_
          refine w_goto 6 dX10_besides_81 (by decide) ?_
          refine w_drop [7] [some (aR 7 0), some (aI (y : Int)), some (aI n), some (aI a), some (aI b), some (aI (mBei (h 25 0) y n a b u (mBeo (h 25 0) y n a b ((h 4 0 1).toNat - y) u) ((h 4 0 1).toNat - y))), some (aI ((u : Int) + 1)), none, none] rfl ?_
          refine ih6 (by omega) _ _ ?_ ?_
          · exact (by omega)
          · exact rfl
        · refine w_iload_n dX10_besides_30 rfl ?_
          refine w_iload dX10_besides_31 rfl ?_
          refine w_iload dX10_besides_33 rfl ?_
          refine w_callS (d := d + 1) (S := []) [aI (y : Int), aI (u : Int), aI ((y : Int) + (j : Int))] dX10_besides_35 ml_X10_62 ok_X10_stepsOf st_X10_stepsOf rfl (Nat.le_of_ble_eq_true rfl) ?_
          refine c_X10_steps (d := d) (y : Int) (u : Int) ((y : Int) + (j : Int)) (by first | assumption | omega | decide) (by first | assumption | omega | decide) (by first | assumption | omega | decide) ?_
          show fwWP mX10_besides (d + 2) 38 [some (aR 7 0), some (aI (y : Int)), some (aI n), some (aI a), some (aI b), some (aI (mBei (h 25 0) y n a b u (mBeo (h 25 0) y n a b ((h 4 0 1).toNat - y) u) j)), some (aI (u : Int)), some (aI ((y : Int) + (j : Int))), none] [aI (mSteps (y : Int) (u : Int) ((y : Int) + (j : Int)))] h Q
          refine w_istore [some (aR 7 0), some (aI (y : Int)), some (aI n), some (aI a), some (aI b), some (aI (mBei (h 25 0) y n a b u (mBeo (h 25 0) y n a b ((h 4 0 1).toNat - y) u) j)), some (aI (u : Int)), some (aI ((y : Int) + (j : Int))), some (aI (mSteps (y : Int) (u : Int) ((y : Int) + (j : Int))))] dX10_besides_38 rfl (by decide) ?_
          have hst : -1000 ≤ mSteps y u (y + j) ∧ mSteps y u (y + j) ≤ 1000 := by unfold mSteps; omega
          refine w_iload dX10_besides_40 rfl ?_
          refine w_iconst dX10_besides_42 ?_
          refine w_icmp_eq 53 dX10_besides_43 (by decide) (by omega) (by omega) (fun c43 => ?_) (fun c43 => ?_)
          · refine w_aload_n dX10_besides_53 rfl ?_
            refine w_iload_n dX10_besides_54 rfl ?_
            refine w_iload dX10_besides_55 rfl ?_
            refine w_iload dX10_besides_57 rfl ?_
            refine w_iload dX10_besides_59 rfl ?_
            refine w_callV (d := d + 1) (S := []) [aI a, aI b, aI (u : Int), aI ((y : Int) + (j : Int))] dX10_besides_61 ml_X10_76 ok_X10_namesOfBoth vi_X10_namesOfBoth rfl rfl (by decide) rfl (Nat.le_of_ble_eq_true rfl) ?_
            refine c_X10_both (d := d) a b (u : Int) ((y : Int) + (j : Int)) (by first | assumption | omega | decide) (by first | assumption | omega | decide) (by first | assumption | omega | decide) (by first | assumption | omega | decide) ?_
            show fwWP mX10_besides (d + 2) 64 [some (aR 7 0), some (aI (y : Int)), some (aI n), some (aI a), some (aI b), some (aI (mBei (h 25 0) y n a b u (mBeo (h 25 0) y n a b ((h 4 0 1).toNat - y) u) j)), some (aI (u : Int)), some (aI ((y : Int) + (j : Int))), some (aI (mSteps (y : Int) (u : Int) ((y : Int) + (j : Int))))] [aI (mBoth (h 25 0) a b (u : Int) ((y : Int) + (j : Int)))] h Q
            have hwr := mBoth_rng hN a b (u : Int) ((y : Int) + (j : Int))
            refine w_iload_n dX10_besides_64 rfl ?_
            refine w_icmp_lt 72 dX10_besides_65 (by decide) (by omega) (by omega) (fun c65 => ?_) (fun c65 => ?_)
            · refine w_iinc [some (aR 7 0), some (aI (y : Int)), some (aI n), some (aI a), some (aI b), some (aI (mBei (h 25 0) y n a b u (mBeo (h 25 0) y n a b ((h 4 0 1).toNat - y) u) j)), some (aI (u : Int)), some (aI (((y : Int) + (j : Int)) + 1)), some (aI (mSteps (y : Int) (u : Int) ((y : Int) + (j : Int))))] dX10_besides_72 rfl rfl (by decide) ?_
              refine w_goto 15 dX10_besides_75 (by decide) ?_
              refine w_drop [8] [some (aR 7 0), some (aI (y : Int)), some (aI n), some (aI a), some (aI b), some (aI (mBei (h 25 0) y n a b u (mBeo (h 25 0) y n a b ((h 4 0 1).toNat - y) u) j)), some (aI (u : Int)), some (aI (((y : Int) + (j : Int)) + 1)), none] rfl ?_
              refine ih15 (by omega) _ _ ?_ ?_
              · exact (by omega)
              · exact (by rw [mBei]; first | rw [if_pos (by omega)] | rw [if_neg (by omega)])
            · refine w_iload dX10_besides_68 rfl ?_
              refine w_istore [some (aR 7 0), some (aI (y : Int)), some (aI n), some (aI a), some (aI b), some (aI (mSteps (y : Int) (u : Int) ((y : Int) + (j : Int)))), some (aI (u : Int)), some (aI ((y : Int) + (j : Int))), some (aI (mSteps (y : Int) (u : Int) ((y : Int) + (j : Int))))] dX10_besides_70 rfl (by decide) ?_
              refine w_iinc [some (aR 7 0), some (aI (y : Int)), some (aI n), some (aI a), some (aI b), some (aI (mSteps (y : Int) (u : Int) ((y : Int) + (j : Int)))), some (aI (u : Int)), some (aI (((y : Int) + (j : Int)) + 1)), some (aI (mSteps (y : Int) (u : Int) ((y : Int) + (j : Int))))] dX10_besides_72 rfl rfl (by decide) ?_
              refine w_goto 15 dX10_besides_75 (by decide) ?_
              refine w_drop [8] [some (aR 7 0), some (aI (y : Int)), some (aI n), some (aI a), some (aI b), some (aI (mSteps (y : Int) (u : Int) ((y : Int) + (j : Int)))), some (aI (u : Int)), some (aI (((y : Int) + (j : Int)) + 1)), none] rfl ?_
              refine ih15 (by omega) _ _ ?_ ?_
              · exact (by omega)
              · exact (by rw [mBei]; first | rw [if_pos (by omega)] | rw [if_neg (by omega)])
          · refine w_iload dX10_besides_46 rfl ?_
            refine w_iload dX10_besides_48 rfl ?_
            refine w_icmp_ge 72 dX10_besides_50 (by decide) (by omega) (by omega) (fun c50 => ?_) (fun c50 => ?_)
            · refine w_iinc [some (aR 7 0), some (aI (y : Int)), some (aI n), some (aI a), some (aI b), some (aI (mBei (h 25 0) y n a b u (mBeo (h 25 0) y n a b ((h 4 0 1).toNat - y) u) j)), some (aI (u : Int)), some (aI (((y : Int) + (j : Int)) + 1)), some (aI (mSteps (y : Int) (u : Int) ((y : Int) + (j : Int))))] dX10_besides_72 rfl rfl (by decide) ?_
              refine w_goto 15 dX10_besides_75 (by decide) ?_
              refine w_drop [8] [some (aR 7 0), some (aI (y : Int)), some (aI n), some (aI a), some (aI b), some (aI (mBei (h 25 0) y n a b u (mBeo (h 25 0) y n a b ((h 4 0 1).toNat - y) u) j)), some (aI (u : Int)), some (aI (((y : Int) + (j : Int)) + 1)), none] rfl ?_
              refine ih15 (by omega) _ _ ?_ ?_
              · exact (by omega)
              · exact (by rw [mBei]; first | rw [if_pos (by omega)] | rw [if_neg (by omega)])
            · refine w_aload_n dX10_besides_53 rfl ?_
              refine w_iload_n dX10_besides_54 rfl ?_
              refine w_iload dX10_besides_55 rfl ?_
              refine w_iload dX10_besides_57 rfl ?_
              refine w_iload dX10_besides_59 rfl ?_
              refine w_callV (d := d + 1) (S := []) [aI a, aI b, aI (u : Int), aI ((y : Int) + (j : Int))] dX10_besides_61 ml_X10_76 ok_X10_namesOfBoth vi_X10_namesOfBoth rfl rfl (by decide) rfl (Nat.le_of_ble_eq_true rfl) ?_
              refine c_X10_both (d := d) a b (u : Int) ((y : Int) + (j : Int)) (by first | assumption | omega | decide) (by first | assumption | omega | decide) (by first | assumption | omega | decide) (by first | assumption | omega | decide) ?_
              show fwWP mX10_besides (d + 2) 64 [some (aR 7 0), some (aI (y : Int)), some (aI n), some (aI a), some (aI b), some (aI (mBei (h 25 0) y n a b u (mBeo (h 25 0) y n a b ((h 4 0 1).toNat - y) u) j)), some (aI (u : Int)), some (aI ((y : Int) + (j : Int))), some (aI (mSteps (y : Int) (u : Int) ((y : Int) + (j : Int))))] [aI (mBoth (h 25 0) a b (u : Int) ((y : Int) + (j : Int)))] h Q
              have hwr := mBoth_rng hN a b (u : Int) ((y : Int) + (j : Int))
              refine w_iload_n dX10_besides_64 rfl ?_
              refine w_icmp_lt 72 dX10_besides_65 (by decide) (by omega) (by omega) (fun c65 => ?_) (fun c65 => ?_)
              · refine w_iinc [some (aR 7 0), some (aI (y : Int)), some (aI n), some (aI a), some (aI b), some (aI (mBei (h 25 0) y n a b u (mBeo (h 25 0) y n a b ((h 4 0 1).toNat - y) u) j)), some (aI (u : Int)), some (aI (((y : Int) + (j : Int)) + 1)), some (aI (mSteps (y : Int) (u : Int) ((y : Int) + (j : Int))))] dX10_besides_72 rfl rfl (by decide) ?_
                refine w_goto 15 dX10_besides_75 (by decide) ?_
                refine w_drop [8] [some (aR 7 0), some (aI (y : Int)), some (aI n), some (aI a), some (aI b), some (aI (mBei (h 25 0) y n a b u (mBeo (h 25 0) y n a b ((h 4 0 1).toNat - y) u) j)), some (aI (u : Int)), some (aI (((y : Int) + (j : Int)) + 1)), none] rfl ?_
                refine ih15 (by omega) _ _ ?_ ?_
                · exact (by omega)
                · exact (by rw [mBei]; first | rw [if_pos (by omega)] | rw [if_neg (by omega)])
              · refine w_iload dX10_besides_68 rfl ?_
                refine w_istore [some (aR 7 0), some (aI (y : Int)), some (aI n), some (aI a), some (aI b), some (aI (mSteps (y : Int) (u : Int) ((y : Int) + (j : Int)))), some (aI (u : Int)), some (aI ((y : Int) + (j : Int))), some (aI (mSteps (y : Int) (u : Int) ((y : Int) + (j : Int))))] dX10_besides_70 rfl (by decide) ?_
                refine w_iinc [some (aR 7 0), some (aI (y : Int)), some (aI n), some (aI a), some (aI b), some (aI (mSteps (y : Int) (u : Int) ((y : Int) + (j : Int)))), some (aI (u : Int)), some (aI (((y : Int) + (j : Int)) + 1)), some (aI (mSteps (y : Int) (u : Int) ((y : Int) + (j : Int))))] dX10_besides_72 rfl rfl (by decide) ?_
                refine w_goto 15 dX10_besides_75 (by decide) ?_
                refine w_drop [8] [some (aR 7 0), some (aI (y : Int)), some (aI n), some (aI a), some (aI b), some (aI (mSteps (y : Int) (u : Int) ((y : Int) + (j : Int)))), some (aI (u : Int)), some (aI (((y : Int) + (j : Int)) + 1)), none] rfl ?_
                refine ih15 (by omega) _ _ ?_ ?_
                · exact (by omega)
                · exact (by rw [mBei]; first | rw [if_pos (by omega)] | rw [if_neg (by omega)])
      refine lp15 0 (Nat.zero_le _) _ _ ?_ ?_
      · exact (by omega)
      · exact rfl
  refine lp6 0 (Nat.zero_le _) _ _ ?_ ?_
  · exact (by omega)
  · exact rfl
def mT2i (N : Nat → Int) (x y : Nat) (n : Int) (my a : Nat) (s0 : Int) : Nat → Int
  | 0 => s0
  | j + 1 => if mBeo N y n a (x + j) my (y + 1) = -1 then mT2i N x y n my a s0 j else if mT2i N x y n my a s0 j = -1 then max (mBeo N y n a (x + j) my (y + 1)) (mSteps x a (x + j)) else min (mT2i N x y n my a s0 j) (max (mBeo N y n a (x + j) my (y + 1)) (mSteps x a (x + j)))
def mT2o (N : Nat → Int) (x y : Nat) (n : Int) (mx my : Nat) : Nat → Int
  | 0 => -1
  | a + 1 => mT2i N x y n my a (mT2o N x y n mx my a) mx
theorem mT2i_rng {N : Nat → Int} {x y : Nat} {n : Int} {my a : Nat} {s0 : Int} (hx : x < 10) (hy : y < 10) (hm : y + my ≤ 10) (ha : a ≤ x) (hs : -1 ≤ s0 ∧ s0 ≤ 1000) : ∀ j, x + j ≤ 10 → -1 ≤ mT2i N x y n my a s0 j ∧ mT2i N x y n my a s0 j ≤ 1000 := by
  intro j
  induction j with
  | zero => intro _; exact hs
  | succ j ih =>
    intro hj
    have h1 := ih (by omega)
    have h2 := mBeo_rng (N := N) (n := n) (a := (a : Int)) (b := (x : Int) + j) hm hy (y + 1) (by omega)
    have h3 : 0 ≤ mSteps x a (x + j) ∧ mSteps x a (x + j) ≤ 1000 := by unfold mSteps; omega
    rw [mT2i]
    split
    · exact h1
    · split <;> omega
theorem mT2o_rng {N : Nat → Int} {x y : Nat} {n : Int} {mx my : Nat} (hx : x < 10) (hy : y < 10) (hm : y + my ≤ 10) (hm2 : x + mx ≤ 10) : ∀ a, a ≤ x + 1 → -1 ≤ mT2o N x y n mx my a ∧ mT2o N x y n mx my a ≤ 1000 := by
  intro a
  induction a with
  | zero => intro _; simp [mT2o]
  | succ a ih =>
    intro ha
    exact mT2i_rng hx hy hm (by omega) (ih (by omega)) mx hm2
set_option maxRecDepth 100000 in
set_option maxHeartbeats 4000000 in
theorem c_X10_walkTwo {d : Nat} {h : fwH} {Q : Option fwV → fwH → Prop} (x y : Nat) (n : Int) (hP : pOk h 0) (hG : gOk h 0) (hn : 1 ≤ h 4 0 1) (hM : ∀ c : Nat, c < 10 → h 17 0 c ≤ 999) (hna : h 25 0 0 = 0) (hx : (x : Int) < h 4 0 1) (hy : (y : Int) < h 4 0 1) (hnn : 0 ≤ n ∧ n ≤ 1000) (k : ∀ A B, Q (some (aI (mT2o (mAh (h 18 0) (mWil h 0) (h 5 0 3).toNat) x y n ((h 4 0 1).toNat - x) ((h 4 0 1).toNat - y) (x + 1)))) (fwUc (fwUc (fwUc h 19 0 A) 20 0 B) 25 0 (mAh (h 18 0) (mWil h 0) (h 5 0 3).toNat))) : fwCt mX10_walkTwo (d + 5) [aR 7 0, aI (x : Int), aI (y : Int), aI n] h Q := by
  refine fwCt_of [some (aR 7 0), some (aI (x : Int)), some (aI (y : Int)), some (aI n), none, none, none, none] rfl rfl rfl ?_
  have hpz := hP.1
  have hgz := hG.1
  refine w_aload_n dX10_walkTwo_0 rfl ?_
  refine w_callV (d := d + 4) (S := []) [] dX10_walkTwo_1 ml_X10_54 ok_X10_gatherNames vi_X10_gatherNames rfl rfl (by decide) rfl (Nat.le_of_ble_eq_true rfl) ?_
  refine c_X10_gather (d := d) (by first | assumption | omega | decide) (by first | assumption | omega | decide) (by first | assumption | omega | decide) (by first | assumption | omega | decide) (by first | assumption | omega | decide) ?_
  intro A1 B2
  show fwWP mX10_walkTwo (d + 5) 4 [some (aR 7 0), some (aI (x : Int)), some (aI (y : Int)), some (aI n), none, none, none, none] [] (fwUc (fwUc (fwUc h 19 0 A1) 20 0 B2) 25 0 (mAh (h 18 0) (mWil h 0) (h 5 0 3).toNat)) Q
  have hN : ∀ c : Nat, c ≤ 10 → 0 ≤ (mAh (h 18 0) (mWil h 0) (h 5 0 3).toNat) c ∧ (mAh (h 18 0) (mWil h 0) (h 5 0 3).toNat) c ≤ 8000 := fun c hc => by have := mAh_rng (F := h 18 0) (mWil h 0) (n := (h 5 0 3).toNat) (by omega) (fun f hf => (hP.2 f hf).2.1) c; omega
  refine w_iconst dX10_walkTwo_4 ?_
  refine w_istore [some (aR 7 0), some (aI (x : Int)), some (aI (y : Int)), some (aI n), some (aI (-1)), none, none, none] dX10_walkTwo_5 rfl (by decide) ?_
  refine w_iconst dX10_walkTwo_7 ?_
  refine w_istore [some (aR 7 0), some (aI (x : Int)), some (aI (y : Int)), some (aI n), some (aI (-1)), some (aI 0), none, none] dX10_walkTwo_8 rfl (by decide) ?_
  have lp10 : ∀ a : Nat, a ≤ (x + 1) → ∀ (y10 fo : Int), y10 = (a : Int) → fo = mT2o (mAh (h 18 0) (mWil h 0) (h 5 0 3).toNat) x y n ((h 4 0 1).toNat - x) ((h 4 0 1).toNat - y) a → fwWP mX10_walkTwo (d + 5) 10 [some (aR 7 0), some (aI (x : Int)), some (aI (y : Int)), some (aI n), some (aI fo), some (aI y10), none, none] [] (fwUc (fwUc (fwUc h 19 0 A1) 20 0 B2) 25 0 (mAh (h 18 0) (mWil h 0) (h 5 0 3).toNat)) Q := by
    refine fw_up (fun a hc10 ih10 => ?_)
    intro y10 fo ey10 e_fo
    subst ey10
    subst e_fo
    show fwWP mX10_walkTwo (d + 5) 10 [some (aR 7 0), some (aI (x : Int)), some (aI (y : Int)), some (aI n), some (aI (mT2o (mAh (h 18 0) (mWil h 0) (h 5 0 3).toNat) x y n ((h 4 0 1).toNat - x) ((h 4 0 1).toNat - y) a)), some (aI (a : Int)), none, none] [] (fwUc (fwUc (fwUc h 19 0 A1) 20 0 B2) 25 0 (mAh (h 18 0) (mWil h 0) (h 5 0 3).toNat)) Q
    refine w_iload dX10_walkTwo_10 rfl ?_
    refine w_iload_n dX10_walkTwo_12 rfl ?_
    refine w_icmp_gt 99 dX10_walkTwo_13 (by decide) (by omega) (by omega) (fun c13 => ?_) (fun c13 => ?_)
    · have ec10 : (x + 1) = a := by omega
      subst ec10
      refine w_iload dX10_walkTwo_99 rfl ?_
      exact w_iret dX10_walkTwo_101 rfl (k _ _)
    · refine w_iload_n dX10_walkTwo_16 rfl ?_
      refine w_istore [some (aR 7 0), some (aI (x : Int)), some (aI (y : Int)), some (aI n), some (aI (mT2o (mAh (h 18 0) (mWil h 0) (h 5 0 3).toNat) x y n ((h 4 0 1).toNat - x) ((h 4 0 1).toNat - y) a)), some (aI (a : Int)), some (aI (x : Int)), none] dX10_walkTwo_17 rfl (by decide) ?_
      have lp19 : ∀ j : Nat, j ≤ ((h 4 0 1).toNat - x) → ∀ (y19 fe : Int), y19 = (x : Int) + (j : Int) → fe = mT2i (mAh (h 18 0) (mWil h 0) (h 5 0 3).toNat) x y n ((h 4 0 1).toNat - y) a (mT2o (mAh (h 18 0) (mWil h 0) (h 5 0 3).toNat) x y n ((h 4 0 1).toNat - x) ((h 4 0 1).toNat - y) a) j → fwWP mX10_walkTwo (d + 5) 19 [some (aR 7 0), some (aI (x : Int)), some (aI (y : Int)), some (aI n), some (aI fe), some (aI (a : Int)), some (aI y19), none] [] (fwUc (fwUc (fwUc h 19 0 A1) 20 0 B2) 25 0 (mAh (h 18 0) (mWil h 0) (h 5 0 3).toNat)) Q := by
        refine fw_up (fun j hc19 ih19 => ?_)
        intro y19 fe ey19 e_fe
        subst ey19
        subst e_fe
        have hir := mT2i_rng (N := (mAh (h 18 0) (mWil h 0) (h 5 0 3).toNat)) (n := n) (x := x) (y := y) (my := ((h 4 0 1).toNat - y)) (a := a) (s0 := mT2o (mAh (h 18 0) (mWil h 0) (h 5 0 3).toNat) x y n ((h 4 0 1).toNat - x) ((h 4 0 1).toNat - y) a) (by omega) (by omega) (by omega) (by omega) (mT2o_rng (by omega) (by omega) (by omega) (by omega) a (by omega)) j (by omega)
        show fwWP mX10_walkTwo (d + 5) 19 [some (aR 7 0), some (aI (x : Int)), some (aI (y : Int)), some (aI n), some (aI (mT2i (mAh (h 18 0) (mWil h 0) (h 5 0 3).toNat) x y n ((h 4 0 1).toNat - y) a (mT2o (mAh (h 18 0) (mWil h 0) (h 5 0 3).toNat) x y n ((h 4 0 1).toNat - x) ((h 4 0 1).toNat - y) a) j)), some (aI (a : Int)), some (aI ((x : Int) + (j : Int))), none] [] (fwUc (fwUc (fwUc h 19 0 A1) 20 0 B2) 25 0 (mAh (h 18 0) (mWil h 0) (h 5 0 3).toNat)) Q
        refine w_iload dX10_walkTwo_19 rfl ?_
        refine w_aload_n dX10_walkTwo_21 rfl ?_
        refine w_getr 3 0 dX10_walkTwo_22 fl_X10_15 rfl (by decide) ?_
        refine w_getr 4 0 dX10_walkTwo_25 fl_X10_25 rfl (by decide) ?_
        refine w_getiE (v := h 4 0 1) dX10_walkTwo_28 fl_X10_57 rfl (by decide) (by first | rfl | simp [fwUp, fwUc]) ?_
        refine w_icmp_ge 93 dX10_walkTwo_31 (by decide) (by omega) (by omega) (fun c31 => ?_) (fun c31 => ?_)
        · have ec19 : ((h 4 0 1).toNat - x) = j := by omega
          subst ec19
          refine w_iinc [some (aR 7 0), some (aI (x : Int)), some (aI (y : Int)), some (aI n), some (aI (mT2i (mAh (h 18 0) (mWil h 0) (h 5 0 3).toNat) x y n ((h 4 0 1).toNat - y) a (mT2o (mAh (h 18 0) (mWil h 0) (h 5 0 3).toNat) x y n ((h 4 0 1).toNat - x) ((h 4 0 1).toNat - y) a) ((h 4 0 1).toNat - x))), some (aI ((a : Int) + 1)), some (aI ((x : Int) + ((((h 4 0 1).toNat - x) : Nat) : Int))), none] dX10_walkTwo_93 rfl rfl (by decide) ?_
          refine w_goto 10 dX10_walkTwo_96 (by decide) ?_
          refine w_drop [6] [some (aR 7 0), some (aI (x : Int)), some (aI (y : Int)), some (aI n), some (aI (mT2i (mAh (h 18 0) (mWil h 0) (h 5 0 3).toNat) x y n ((h 4 0 1).toNat - y) a (mT2o (mAh (h 18 0) (mWil h 0) (h 5 0 3).toNat) x y n ((h 4 0 1).toNat - x) ((h 4 0 1).toNat - y) a) ((h 4 0 1).toNat - x))), some (aI ((a : Int) + 1)), none, none] rfl ?_
          refine ih10 (by omega) _ _ ?_ ?_
          · exact (by omega)
          · exact rfl
        · refine w_aload_n dX10_walkTwo_34 rfl ?_
          refine w_iload_n dX10_walkTwo_35 rfl ?_
          refine w_iload_n dX10_walkTwo_36 rfl ?_
          refine w_iload dX10_walkTwo_37 rfl ?_
          refine w_iload dX10_walkTwo_39 rfl ?_
          refine w_callV (d := d + 4) (S := []) [aI (y : Int), aI n, aI (a : Int), aI ((x : Int) + (j : Int))] dX10_walkTwo_41 ml_X10_72 ok_X10_besides vi_X10_besides rfl rfl (by decide) rfl (Nat.le_of_ble_eq_true rfl) ?_
          refine c_X10_besides (d := (d + 2)) y n (a : Int) ((x : Int) + (j : Int)) (by first | assumption | omega | decide) (by first | assumption | omega | decide) (by first | assumption | omega | decide) (by first | assumption | omega | decide) (by first | assumption | omega | decide) (by first | assumption | omega | decide) ?_
          show fwWP mX10_walkTwo (d + 5) 44 [some (aR 7 0), some (aI (x : Int)), some (aI (y : Int)), some (aI n), some (aI (mT2i (mAh (h 18 0) (mWil h 0) (h 5 0 3).toNat) x y n ((h 4 0 1).toNat - y) a (mT2o (mAh (h 18 0) (mWil h 0) (h 5 0 3).toNat) x y n ((h 4 0 1).toNat - x) ((h 4 0 1).toNat - y) a) j)), some (aI (a : Int)), some (aI ((x : Int) + (j : Int))), none] [aI (mBeo (mAh (h 18 0) (mWil h 0) (h 5 0 3).toNat) y n (a : Int) ((x : Int) + (j : Int)) ((h 4 0 1).toNat - y) (y + 1))] (fwUc (fwUc (fwUc h 19 0 A1) 20 0 B2) 25 0 (mAh (h 18 0) (mWil h 0) (h 5 0 3).toNat)) Q
          have hbr := mBeo_rng (N := (mAh (h 18 0) (mWil h 0) (h 5 0 3).toNat)) (n := n) (a := (a : Int)) (b := (x : Int) + (j : Int)) (y := y) (m := ((h 4 0 1).toNat - y)) (by omega) (by omega) (y + 1) (by omega)
          refine w_istore [some (aR 7 0), some (aI (x : Int)), some (aI (y : Int)), some (aI n), some (aI (mT2i (mAh (h 18 0) (mWil h 0) (h 5 0 3).toNat) x y n ((h 4 0 1).toNat - y) a (mT2o (mAh (h 18 0) (mWil h 0) (h 5 0 3).toNat) x y n ((h 4 0 1).toNat - x) ((h 4 0 1).toNat - y) a) j)), some (aI (a : Int)), some (aI ((x : Int) + (j : Int))), some (aI (mBeo (mAh (h 18 0) (mWil h 0) (h 5 0 3).toNat) y n (a : Int) ((x : Int) + (j : Int)) ((h 4 0 1).toNat - y) (y + 1)))] dX10_walkTwo_44 rfl (by decide) ?_
          refine w_iload dX10_walkTwo_46 rfl ?_
          refine w_iconst dX10_walkTwo_48 ?_
          refine w_icmp_eq 87 dX10_walkTwo_49 (by decide) (by omega) (by omega) (fun c49 => ?_) (fun c49 => ?_)
          · refine w_iinc [some (aR 7 0), some (aI (x : Int)), some (aI (y : Int)), some (aI n), some (aI (mT2i (mAh (h 18 0) (mWil h 0) (h 5 0 3).toNat) x y n ((h 4 0 1).toNat - y) a (mT2o (mAh (h 18 0) (mWil h 0) (h 5 0 3).toNat) x y n ((h 4 0 1).toNat - x) ((h 4 0 1).toNat - y) a) j)), some (aI (a : Int)), some (aI (((x : Int) + (j : Int)) + 1)), some (aI (mBeo (mAh (h 18 0) (mWil h 0) (h 5 0 3).toNat) y n (a : Int) ((x : Int) + (j : Int)) ((h 4 0 1).toNat - y) (y + 1)))] dX10_walkTwo_87 rfl rfl (by decide) ?_
            refine w_goto 19 dX10_walkTwo_90 (by decide) ?_
            refine w_drop [7] [some (aR 7 0), some (aI (x : Int)), some (aI (y : Int)), some (aI n), some (aI (mT2i (mAh (h 18 0) (mWil h 0) (h 5 0 3).toNat) x y n ((h 4 0 1).toNat - y) a (mT2o (mAh (h 18 0) (mWil h 0) (h 5 0 3).toNat) x y n ((h 4 0 1).toNat - x) ((h 4 0 1).toNat - y) a) j)), some (aI (a : Int)), some (aI (((x : Int) + (j : Int)) + 1)), none] rfl ?_
            refine ih19 (by omega) _ _ ?_ ?_
            · exact (by omega)
            · exact (by rw [mT2i]; first | rw [if_pos (show mBeo (mAh (h 18 0) (mWil h 0) (h 5 0 3).toNat) y n (a : Int) ((x : Int) + (j : Int)) ((h 4 0 1).toNat - y) (y + 1) = -1 by omega)] | rw [if_neg (show ¬ mBeo (mAh (h 18 0) (mWil h 0) (h 5 0 3).toNat) y n (a : Int) ((x : Int) + (j : Int)) ((h 4 0 1).toNat - y) (y + 1) = -1 by omega)])
          · refine w_iload dX10_walkTwo_52 rfl ?_
            refine w_iload_n dX10_walkTwo_54 rfl ?_
            refine w_iload dX10_walkTwo_55 rfl ?_
            refine w_iload dX10_walkTwo_57 rfl ?_
            refine w_callS (d := d + 4) (S := [aI (mBeo (mAh (h 18 0) (mWil h 0) (h 5 0 3).toNat) y n (a : Int) ((x : Int) + (j : Int)) ((h 4 0 1).toNat - y) (y + 1))]) [aI (x : Int), aI (a : Int), aI ((x : Int) + (j : Int))] dX10_walkTwo_59 ml_X10_62 ok_X10_stepsOf st_X10_stepsOf rfl (Nat.le_of_ble_eq_true rfl) ?_
            refine c_X10_steps (d := (d + 3)) (x : Int) (a : Int) ((x : Int) + (j : Int)) (by first | assumption | omega | decide) (by first | assumption | omega | decide) (by first | assumption | omega | decide) ?_
            show fwWP mX10_walkTwo (d + 5) 62 [some (aR 7 0), some (aI (x : Int)), some (aI (y : Int)), some (aI n), some (aI (mT2i (mAh (h 18 0) (mWil h 0) (h 5 0 3).toNat) x y n ((h 4 0 1).toNat - y) a (mT2o (mAh (h 18 0) (mWil h 0) (h 5 0 3).toNat) x y n ((h 4 0 1).toNat - x) ((h 4 0 1).toNat - y) a) j)), some (aI (a : Int)), some (aI ((x : Int) + (j : Int))), some (aI (mBeo (mAh (h 18 0) (mWil h 0) (h 5 0 3).toNat) y n (a : Int) ((x : Int) + (j : Int)) ((h 4 0 1).toNat - y) (y + 1)))] [aI (mSteps (x : Int) (a : Int) ((x : Int) + (j : Int))), aI (mBeo (mAh (h 18 0) (mWil h 0) (h 5 0 3).toNat) y n (a : Int) ((x : Int) + (j : Int)) ((h 4 0 1).toNat - y) (y + 1))] (fwUc (fwUc (fwUc h 19 0 A1) 20 0 B2) 25 0 (mAh (h 18 0) (mWil h 0) (h 5 0 3).toNat)) Q
            have hst : -1000 ≤ mSteps (x : Int) (a : Int) ((x : Int) + (j : Int)) ∧ mSteps (x : Int) (a : Int) ((x : Int) + (j : Int)) ≤ 1000 := by unfold mSteps; omega
            refine w_max (d := d + 4) (S := []) dX10_walkTwo_62 ml_X10_43 (by omega) (by omega) (Nat.le_of_ble_eq_true rfl) ?_
            refine w_istore [some (aR 7 0), some (aI (x : Int)), some (aI (y : Int)), some (aI n), some (aI (mT2i (mAh (h 18 0) (mWil h 0) (h 5 0 3).toNat) x y n ((h 4 0 1).toNat - y) a (mT2o (mAh (h 18 0) (mWil h 0) (h 5 0 3).toNat) x y n ((h 4 0 1).toNat - x) ((h 4 0 1).toNat - y) a) j)), some (aI (a : Int)), some (aI ((x : Int) + (j : Int))), some (aI (max (mBeo (mAh (h 18 0) (mWil h 0) (h 5 0 3).toNat) y n (a : Int) ((x : Int) + (j : Int)) ((h 4 0 1).toNat - y) (y + 1)) (mSteps (x : Int) (a : Int) ((x : Int) + (j : Int)))))] dX10_walkTwo_65 rfl (by decide) ?_
            have J85 : ∀ v : Int, v = (if mT2i (mAh (h 18 0) (mWil h 0) (h 5 0 3).toNat) x y n ((h 4 0 1).toNat - y) a (mT2o (mAh (h 18 0) (mWil h 0) (h 5 0 3).toNat) x y n ((h 4 0 1).toNat - x) ((h 4 0 1).toNat - y) a) j = -1 then max (mBeo (mAh (h 18 0) (mWil h 0) (h 5 0 3).toNat) y n (a : Int) ((x : Int) + (j : Int)) ((h 4 0 1).toNat - y) (y + 1)) (mSteps (x : Int) (a : Int) ((x : Int) + (j : Int))) else min (mT2i (mAh (h 18 0) (mWil h 0) (h 5 0 3).toNat) x y n ((h 4 0 1).toNat - y) a (mT2o (mAh (h 18 0) (mWil h 0) (h 5 0 3).toNat) x y n ((h 4 0 1).toNat - x) ((h 4 0 1).toNat - y) a) j) (max (mBeo (mAh (h 18 0) (mWil h 0) (h 5 0 3).toNat) y n (a : Int) ((x : Int) + (j : Int)) ((h 4 0 1).toNat - y) (y + 1)) (mSteps (x : Int) (a : Int) ((x : Int) + (j : Int))))) → fwWP mX10_walkTwo (d + 5) 85 [some (aR 7 0), some (aI (x : Int)), some (aI (y : Int)), some (aI n), some (aI (mT2i (mAh (h 18 0) (mWil h 0) (h 5 0 3).toNat) x y n ((h 4 0 1).toNat - y) a (mT2o (mAh (h 18 0) (mWil h 0) (h 5 0 3).toNat) x y n ((h 4 0 1).toNat - x) ((h 4 0 1).toNat - y) a) j)), some (aI (a : Int)), some (aI ((x : Int) + (j : Int))), some (aI (max (mBeo (mAh (h 18 0) (mWil h 0) (h 5 0 3).toNat) y n (a : Int) ((x : Int) + (j : Int)) ((h 4 0 1).toNat - y) (y + 1)) (mSteps (x : Int) (a : Int) ((x : Int) + (j : Int)))))] [aI v] (fwUc (fwUc (fwUc h 19 0 A1) 20 0 B2) 25 0 (mAh (h 18 0) (mWil h 0) (h 5 0 3).toNat)) Q := by
              intro v ev
              subst ev
              refine w_istore [some (aR 7 0), some (aI (x : Int)), some (aI (y : Int)), some (aI n), some (aI (if mT2i (mAh (h 18 0) (mWil h 0) (h 5 0 3).toNat) x y n ((h 4 0 1).toNat - y) a (mT2o (mAh (h 18 0) (mWil h 0) (h 5 0 3).toNat) x y n ((h 4 0 1).toNat - x) ((h 4 0 1).toNat - y) a) j = -1 then max (mBeo (mAh (h 18 0) (mWil h 0) (h 5 0 3).toNat) y n (a : Int) ((x : Int) + (j : Int)) ((h 4 0 1).toNat - y) (y + 1)) (mSteps (x : Int) (a : Int) ((x : Int) + (j : Int))) else min (mT2i (mAh (h 18 0) (mWil h 0) (h 5 0 3).toNat) x y n ((h 4 0 1).toNat - y) a (mT2o (mAh (h 18 0) (mWil h 0) (h 5 0 3).toNat) x y n ((h 4 0 1).toNat - x) ((h 4 0 1).toNat - y) a) j) (max (mBeo (mAh (h 18 0) (mWil h 0) (h 5 0 3).toNat) y n (a : Int) ((x : Int) + (j : Int)) ((h 4 0 1).toNat - y) (y + 1)) (mSteps (x : Int) (a : Int) ((x : Int) + (j : Int)))))), some (aI (a : Int)), some (aI ((x : Int) + (j : Int))), some (aI (max (mBeo (mAh (h 18 0) (mWil h 0) (h 5 0 3).toNat) y n (a : Int) ((x : Int) + (j : Int)) ((h 4 0 1).toNat - y) (y + 1)) (mSteps (x : Int) (a : Int) ((x : Int) + (j : Int)))))] dX10_walkTwo_85 rfl (by decide) ?_
              refine w_iinc [some (aR 7 0), some (aI (x : Int)), some (aI (y : Int)), some (aI n), some (aI (if mT2i (mAh (h 18 0) (mWil h 0) (h 5 0 3).toNat) x y n ((h 4 0 1).toNat - y) a (mT2o (mAh (h 18 0) (mWil h 0) (h 5 0 3).toNat) x y n ((h 4 0 1).toNat - x) ((h 4 0 1).toNat - y) a) j = -1 then max (mBeo (mAh (h 18 0) (mWil h 0) (h 5 0 3).toNat) y n (a : Int) ((x : Int) + (j : Int)) ((h 4 0 1).toNat - y) (y + 1)) (mSteps (x : Int) (a : Int) ((x : Int) + (j : Int))) else min (mT2i (mAh (h 18 0) (mWil h 0) (h 5 0 3).toNat) x y n ((h 4 0 1).toNat - y) a (mT2o (mAh (h 18 0) (mWil h 0) (h 5 0 3).toNat) x y n ((h 4 0 1).toNat - x) ((h 4 0 1).toNat - y) a) j) (max (mBeo (mAh (h 18 0) (mWil h 0) (h 5 0 3).toNat) y n (a : Int) ((x : Int) + (j : Int)) ((h 4 0 1).toNat - y) (y + 1)) (mSteps (x : Int) (a : Int) ((x : Int) + (j : Int)))))), some (aI (a : Int)), some (aI (((x : Int) + (j : Int)) + 1)), some (aI (max (mBeo (mAh (h 18 0) (mWil h 0) (h 5 0 3).toNat) y n (a : Int) ((x : Int) + (j : Int)) ((h 4 0 1).toNat - y) (y + 1)) (mSteps (x : Int) (a : Int) ((x : Int) + (j : Int)))))] dX10_walkTwo_87 rfl rfl (by decide) ?_
              refine w_goto 19 dX10_walkTwo_90 (by decide) ?_
              refine w_drop [7] [some (aR 7 0), some (aI (x : Int)), some (aI (y : Int)), some (aI n), some (aI (if mT2i (mAh (h 18 0) (mWil h 0) (h 5 0 3).toNat) x y n ((h 4 0 1).toNat - y) a (mT2o (mAh (h 18 0) (mWil h 0) (h 5 0 3).toNat) x y n ((h 4 0 1).toNat - x) ((h 4 0 1).toNat - y) a) j = -1 then max (mBeo (mAh (h 18 0) (mWil h 0) (h 5 0 3).toNat) y n (a : Int) ((x : Int) + (j : Int)) ((h 4 0 1).toNat - y) (y + 1)) (mSteps (x : Int) (a : Int) ((x : Int) + (j : Int))) else min (mT2i (mAh (h 18 0) (mWil h 0) (h 5 0 3).toNat) x y n ((h 4 0 1).toNat - y) a (mT2o (mAh (h 18 0) (mWil h 0) (h 5 0 3).toNat) x y n ((h 4 0 1).toNat - x) ((h 4 0 1).toNat - y) a) j) (max (mBeo (mAh (h 18 0) (mWil h 0) (h 5 0 3).toNat) y n (a : Int) ((x : Int) + (j : Int)) ((h 4 0 1).toNat - y) (y + 1)) (mSteps (x : Int) (a : Int) ((x : Int) + (j : Int)))))), some (aI (a : Int)), some (aI (((x : Int) + (j : Int)) + 1)), none] rfl ?_
              refine ih19 (by omega) _ _ ?_ ?_
              · exact (by omega)
              · exact (by rw [mT2i]; first | rw [if_pos (show mBeo (mAh (h 18 0) (mWil h 0) (h 5 0 3).toNat) y n (a : Int) ((x : Int) + (j : Int)) ((h 4 0 1).toNat - y) (y + 1) = -1 by omega)] | rw [if_neg (show ¬ mBeo (mAh (h 18 0) (mWil h 0) (h 5 0 3).toNat) y n (a : Int) ((x : Int) + (j : Int)) ((h 4 0 1).toNat - y) (y + 1) = -1 by omega)])
            refine w_iload dX10_walkTwo_67 rfl ?_
            refine w_iconst dX10_walkTwo_69 ?_
            refine w_icmp_ne 78 dX10_walkTwo_70 (by decide) (by omega) (by omega) (fun c70 => ?_) (fun c70 => ?_)
            · refine w_iload dX10_walkTwo_78 rfl ?_
              refine w_iload dX10_walkTwo_80 rfl ?_
              refine w_min (d := d + 4) (S := []) dX10_walkTwo_82 ml_X10_48 (by omega) (by omega) (Nat.le_of_ble_eq_true rfl) ?_
              exact J85 _ (by first | rw [if_pos (by omega)] | rw [if_neg (by omega)])
            · refine w_iload dX10_walkTwo_73 rfl ?_
              refine w_goto 85 dX10_walkTwo_75 (by decide) ?_
              exact J85 _ (by first | rw [if_pos (by omega)] | rw [if_neg (by omega)])
      refine lp19 0 (Nat.zero_le _) _ _ ?_ ?_
      · exact (by omega)
      · exact rfl
  refine lp10 0 (Nat.zero_le _) _ _ ?_ ?_
  · exact (by omega)
  · exact rfl
end
section
/-! FootLower$Course: the trial ground is number 5 -/
def mLowN (n : Nat) (H : Nat → Int) (ls : Int) : Nat → Nat → Int
  | 0 => H
  | c + 1 => mLow n (mLowN n H ls c) ls
theorem mLow_rng {n : Nat} {H : Nat → Int} {ls b : Int} (hn : n ≤ 10) (hH : ∀ c : Nat, c < 10 → 0 ≤ H c ∧ H c ≤ b) : ∀ c : Nat, c < 10 → 0 ≤ mLow n H ls c ∧ mLow n H ls c ≤ b := by
  intro c hc
  unfold mLow
  split
  · rename_i q
    have ht := mTop_rng H ls n
    have h1 := hH (mTop H ls n).toNat (by omega)
    have h2 := hH c hc
    unfold fwFu
    split <;> omega
  · exact hH c hc
theorem mLowN_rng {n : Nat} {H : Nat → Int} {ls b : Int} (hn : n ≤ 10) (hH : ∀ c : Nat, c < 10 → 0 ≤ H c ∧ H c ≤ b) : ∀ k : Nat, ∀ c : Nat, c < 10 → 0 ≤ mLowN n H ls k c ∧ mLowN n H ls k c ≤ b := by
  intro k
  induction k with
  | zero => exact hH
  | succ k ih => exact mLow_rng hn ih
/-- the mountain's heights with so many FEET taken -/
def mLw (h : fwH) (k : Nat) : Nat → Int := mLowN (h 4 0 1).toNat (h 17 0) (h 4 0 4) k
/-- the trial ground: as the mountain, with heights of its own -/
def fwTr (h : fwH) (H : Nat → Int) : fwH := fwUc (fwUc h 4 5 (h 4 0)) 17 5 H
theorem gOk_tr {h : fwH} (hG : gOk h 0) {H : Nat → Int} (hH : ∀ c : Nat, c < 10 → 0 ≤ H c ∧ H c ≤ 1000) (A B : Nat → Int) : gOk (fwUc (fwUc (fwUc (fwUc h 4 5 (h 4 0)) 17 5 H) 19 0 A) 20 0 B) 5 := ⟨hG.1, hG.2.1, hG.2.2.1, hG.2.2.2.1, hH⟩
theorem fwAB (h : fwH) (H : Nat → Int) : fwUc (fwUc (fwUc (fwUc h 4 5 (h 4 0)) 17 5 H) 19 0 (h 19 0)) 20 0 (h 20 0) = fwUc (fwUc h 4 5 (h 4 0)) 17 5 H := by
  rw [show fwUc (fwUc (fwUc h 4 5 (h 4 0)) 17 5 H) 19 0 (h 19 0) = fwUc (fwUc h 4 5 (h 4 0)) 17 5 H from fwUc_self (fwUc (fwUc h 4 5 (h 4 0)) 17 5 H) 19 0]
  exact fwUc_self (fwUc (fwUc h 4 5 (h 4 0)) 17 5 H) 20 0
set_option maxRecDepth 100000 in
set_option maxHeartbeats 4000000 in
theorem c_X0_gainAfter {d : Nat} {h : fwH} {Q : Option fwV → fwH → Prop} (f n : Nat) (hP : pOk h 0) (hG : gOk h 0) (hn : 1 ≤ h 4 0 1) (hM : ∀ c : Nat, c < 10 → h 17 0 c ≤ 999) (hf : (f : Int) < h 5 0 3) (hnn : n ≤ 1000) (k : ∀ A B, Q (some (aI (mGain (h 4 0 1) (mLw h n) (h 4 0 2) (h 18 0) f))) (fwUc (fwUc (fwUc (fwUc h 4 5 (h 4 0)) 17 5 (mLw h n)) 19 0 A) 20 0 B)) : fwCt mX0_gainAfter (d + 4) [aR 9 0, aI (f : Int), aI (n : Int)] h Q := by
  refine fwCt_of [some (aR 9 0), some (aI (f : Int)), some (aI (n : Int)), none] rfl rfl rfl ?_
  obtain ⟨⟨g1, g2⟩, ⟨g3, g4⟩, ⟨g5, g6⟩, g7, g8⟩ := id hG
  have hpz := hP.1
  refine w_aload_n dX0_gainAfter_0 rfl ?_
  refine w_getr 4 5 dX0_gainAfter_1 fl_X0_15 rfl (by decide) ?_
  refine w_aload_n dX0_gainAfter_4 rfl ?_
  refine w_getr 3 0 dX0_gainAfter_5 fl_X0_9 rfl (by decide) ?_
  refine w_getr 4 0 dX0_gainAfter_8 fl_X0_19 rfl (by decide) ?_
  refine w_callV (d := d + 3) (S := []) [aR 4 0] dX0_gainAfter_11 ml_X0_24 ok_X1_copyFrom vi_X1_copyFrom rfl rfl (by decide) rfl (Nat.le_of_ble_eq_true rfl) ?_
  refine c_X1_copyFrom (d := (d + 3)) 5 0 (by decide) (by decide) (by first | assumption | omega | decide) (by first | assumption | omega | decide) ?_
  show fwWP mX0_gainAfter (d + 4) 14 [some (aR 9 0), some (aI (f : Int)), some (aI (n : Int)), none] [] (fwUc (fwUc h 17 5 (h 17 0)) 4 5 (h 4 0)) Q
  rw [show fwUc (fwUc h 17 5 (h 17 0)) 4 5 (h 4 0) = (fwUc (fwUc h 4 5 (h 4 0)) 17 5 (h 17 0)) from by funext a b; simp only [fwUc]; (repeat' split); all_goals first | rfl | (exfalso; omega)]
  refine w_iconst dX0_gainAfter_14 ?_
  refine w_istore_n [some (aR 9 0), some (aI (f : Int)), some (aI (n : Int)), some (aI 0)] dX0_gainAfter_15 rfl (by decide) ?_
  have lp16 : ∀ c : Nat, c ≤ n → ∀ (y16  : Int) (hh16 : fwH), y16 = (c : Int) → (∃ A B : Nat → Int, hh16 = (fwUc (fwUc (fwUc (fwUc h 4 5 (h 4 0)) 17 5 (mLw h c)) 19 0 A) 20 0 B)) → fwWP mX0_gainAfter (d + 4) 16 [some (aR 9 0), some (aI (f : Int)), some (aI (n : Int)), some (aI y16)] [] hh16 Q := by
    refine fw_up (fun c hc16 ih16 => ?_)
    intro y16  hh16 ey16 eh16
    subst ey16
    obtain ⟨A_16, B_16, eh16⟩ := eh16
    subst eh16
    have hH1 : ∀ q : Nat, q < 10 → 0 ≤ mLw h c q ∧ mLw h c q ≤ 999 := mLowN_rng (by omega) (fun q hq => ⟨(g8 q hq).1, hM q hq⟩) c
    have hH2 : ∀ q : Nat, q < 10 → 0 ≤ mLw h c q ∧ mLw h c q ≤ 1000 := fun q hq => by have := hH1 q hq; omega
    have hG5 := gOk_tr hG hH2 A_16 B_16
    have hM5 : ∀ q : Nat, q < 10 → mLw h c q ≤ 999 := fun q hq => (hH1 q hq).2
    show fwWP mX0_gainAfter (d + 4) 16 [some (aR 9 0), some (aI (f : Int)), some (aI (n : Int)), some (aI (c : Int))] [] (fwUc (fwUc (fwUc (fwUc h 4 5 (h 4 0)) 17 5 (mLw h c)) 19 0 A_16) 20 0 B_16) Q
    refine w_iload_n dX0_gainAfter_16 rfl ?_
    refine w_iload_n dX0_gainAfter_17 rfl ?_
    refine w_icmp_ge 35 dX0_gainAfter_18 (by decide) (by omega) (by omega) (fun c18 => ?_) (fun c18 => ?_)
    · have ec16 : n = c := by omega
      subst ec16
      refine w_aload_n dX0_gainAfter_35 rfl ?_
      refine w_getr 3 0 dX0_gainAfter_36 fl_X0_9 rfl (by decide) ?_
      refine w_getr 5 0 dX0_gainAfter_39 fl_X0_34 rfl (by decide) ?_
      refine w_aload_n dX0_gainAfter_42 rfl ?_
      refine w_getr 4 5 dX0_gainAfter_43 fl_X0_15 rfl (by decide) ?_
      refine w_iload_n dX0_gainAfter_46 rfl ?_
      refine w_callV (d := d + 3) (S := []) [aR 4 5, aI (f : Int)] dX0_gainAfter_47 ml_X0_38 ok_X3_gainOn vi_X3_gainOn rfl rfl (by decide) rfl (Nat.le_of_ble_eq_true rfl) ?_
      refine c_X3_gainOn (d := d) 0 5 f (by decide) (by decide) (by first | assumption | omega | decide) (by first | assumption | omega | decide) (show (f : Int) < (h 5 0 3) by first | assumption | omega | decide) ?_
      intro A2
      show fwWP mX0_gainAfter (d + 4) 50 [some (aR 9 0), some (aI (f : Int)), some (aI (n : Int)), some (aI ((n : Nat) : Int))] [aI (mGain ((h 4 0) 1) (mLw h n) ((h 4 0) 2) (h 18 0) f)] (fwUc (fwUc (fwUc (fwUc (fwUc h 4 5 (h 4 0)) 17 5 (mLw h n)) 19 0 A_16) 20 0 B_16) 20 0 A2) Q
      rw [show fwUc (fwUc (fwUc (fwUc (fwUc h 4 5 (h 4 0)) 17 5 (mLw h n)) 19 0 A_16) 20 0 B_16) 20 0 A2 = (fwUc (fwUc (fwUc (fwUc h 4 5 (h 4 0)) 17 5 (mLw h n)) 19 0 A_16) 20 0 A2) from by funext a b; simp only [fwUc]; (repeat' split); all_goals first | rfl | (exfalso; omega)]
      exact w_iret dX0_gainAfter_50 rfl (k _ _)
    · refine w_aload_n dX0_gainAfter_21 rfl ?_
      refine w_getr 4 5 dX0_gainAfter_22 fl_X0_15 rfl (by decide) ?_
      refine w_callV (d := d + 3) (S := []) [] dX0_gainAfter_25 ml_X0_30 ok_X1_lower vi_X1_lower rfl rfl (by decide) rfl (Nat.le_of_ble_eq_true rfl) ?_
      refine c_X1_lower (d := (d + 1)) 5 (by decide) (by first | assumption | omega | decide) ?_
      show fwWP mX0_gainAfter (d + 4) 28 [some (aR 9 0), some (aI (f : Int)), some (aI (n : Int)), some (aI (c : Int))] [aI (fwB (0 < ((h 4 0) 1).toNat ∧ (mLw h c) (mTop (mLw h c) ((h 4 0) 4) ((h 4 0) 1).toNat).toNat ≠ 0))] (fwUc (fwUc (fwUc (fwUc (fwUc h 4 5 (h 4 0)) 17 5 (mLw h c)) 19 0 A_16) 20 0 B_16) 17 5 (mLow ((h 4 0) 1).toNat (mLw h c) ((h 4 0) 4))) Q
      rw [show fwUc (fwUc (fwUc (fwUc (fwUc h 4 5 (h 4 0)) 17 5 (mLw h c)) 19 0 A_16) 20 0 B_16) 17 5 (mLow ((h 4 0) 1).toNat (mLw h c) ((h 4 0) 4)) = (fwUc (fwUc (fwUc (fwUc h 4 5 (h 4 0)) 17 5 (mLow ((h 4 0) 1).toNat (mLw h c) ((h 4 0) 4))) 19 0 A_16) 20 0 B_16) from by funext a b; simp only [fwUc]; (repeat' split); all_goals first | rfl | (exfalso; omega)]
      refine w_pop dX0_gainAfter_28 rfl ?_
      refine w_iinc [some (aR 9 0), some (aI (f : Int)), some (aI (n : Int)), some (aI ((c : Int) + 1))] dX0_gainAfter_29 rfl rfl (by decide) ?_
      refine w_goto 16 dX0_gainAfter_32 (by decide) ?_
      refine ih16 (by omega) _ _ ?_ ?_
      · exact (by omega)
      · exact ⟨_, _, rfl⟩
  refine lp16 0 (Nat.zero_le _) _ _ ?_ ?_
  · exact (by omega)
  · exact ⟨h 19 0, h 20 0, (fwAB h (h 17 0)).symm⟩
def mWish (h : fwH) (f : Nat) : Nat → Int × Int
  | 0 => (0, mGain (h 4 0 1) (mLw h 0) (h 4 0 2) (h 18 0) f)
  | k + 1 => if (mWish h f k).2 < mGain (h 4 0 1) (mLw h (k + 1)) (h 4 0 2) (h 18 0) f then ((k : Int) + 1, mGain (h 4 0 1) (mLw h (k + 1)) (h 4 0 2) (h 18 0) f) else mWish h f k
theorem mWish_rng {h : fwH} {f : Nat} (hn : (h 4 0 1).toNat ≤ 10 ∧ h 4 0 1 ≤ 10) (hH : ∀ c : Nat, c < 10 → 0 ≤ h 17 0 c ∧ h 17 0 c ≤ 1000) (h2 : 0 ≤ h 18 0 (7 * f + 2) ∧ h 18 0 (7 * f + 2) ≤ 9) (h3 : 0 ≤ h 18 0 (7 * f + 3) ∧ h 18 0 (7 * f + 3) ≤ 9) (h4 : 0 ≤ h 18 0 (7 * f + 4) ∧ h 18 0 (7 * f + 4) ≤ 9) : ∀ k, 0 ≤ (mWish h f k).2 ∧ (mWish h f k).2 ≤ 27000 := by
  intro k
  induction k with
  | zero => exact mGain_rng hn.2 hH h2 h3 h4
  | succ k ih =>
    rw [mWish]
    split
    · exact mGain_rng hn.2 (mLowN_rng hn.1 hH (k + 1)) h2 h3 h4
    · exact ih
set_option maxRecDepth 100000 in
set_option maxHeartbeats 4000000 in
theorem c_X0_wishedFeet {d : Nat} {h : fwH} {Q : Option fwV → fwH → Prop} (f : Nat) (hP : pOk h 0) (hG : gOk h 0) (hn : 1 ≤ h 4 0 1) (hM : ∀ c : Nat, c < 10 → h 17 0 c ≤ 999) (hf : (f : Int) < h 5 0 3) (k : ∀ A B, Q (some (aI ((mWish h f 20).1))) (fwUc (fwUc (fwUc (fwUc h 4 5 (h 4 0)) 17 5 (mLw h 20)) 19 0 A) 20 0 B)) : fwCt mX0_wishedFeet (d + 4) [aR 9 0, aI (f : Int)] h Q := by
  refine fwCt_of [some (aR 9 0), some (aI (f : Int)), none, none, none, none] rfl rfl rfl ?_
  obtain ⟨⟨g1, g2⟩, ⟨g3, g4⟩, ⟨g5, g6⟩, g7, g8⟩ := id hG
  have hpz := hP.1
  refine w_aload_n dX0_wishedFeet_0 rfl ?_
  refine w_getr 4 5 dX0_wishedFeet_1 fl_X0_15 rfl (by decide) ?_
  refine w_aload_n dX0_wishedFeet_4 rfl ?_
  refine w_getr 3 0 dX0_wishedFeet_5 fl_X0_9 rfl (by decide) ?_
  refine w_getr 4 0 dX0_wishedFeet_8 fl_X0_19 rfl (by decide) ?_
  refine w_callV (d := d + 3) (S := []) [aR 4 0] dX0_wishedFeet_11 ml_X0_24 ok_X1_copyFrom vi_X1_copyFrom rfl rfl (by decide) rfl (Nat.le_of_ble_eq_true rfl) ?_
  refine c_X1_copyFrom (d := (d + 3)) 5 0 (by decide) (by decide) (by first | assumption | omega | decide) (by first | assumption | omega | decide) ?_
  show fwWP mX0_wishedFeet (d + 4) 14 [some (aR 9 0), some (aI (f : Int)), none, none, none, none] [] (fwUc (fwUc h 17 5 (h 17 0)) 4 5 (h 4 0)) Q
  rw [show fwUc (fwUc h 17 5 (h 17 0)) 4 5 (h 4 0) = (fwUc (fwUc h 4 5 (h 4 0)) 17 5 (h 17 0)) from by funext a b; simp only [fwUc]; (repeat' split); all_goals first | rfl | (exfalso; omega)]
  refine w_iconst dX0_wishedFeet_14 ?_
  refine w_istore_n [some (aR 9 0), some (aI (f : Int)), some (aI 0), none, none, none] dX0_wishedFeet_15 rfl (by decide) ?_
  have hG5 : gOk (fwUc (fwUc h 4 5 (h 4 0)) 17 5 (h 17 0)) 5 := ⟨hG.1, hG.2.1, hG.2.2.1, hG.2.2.2.1, hG.2.2.2.2⟩
  have hff := hP.2 f (by omega)
  refine w_aload_n dX0_wishedFeet_16 rfl ?_
  refine w_getr 3 0 dX0_wishedFeet_17 fl_X0_9 rfl (by decide) ?_
  refine w_getr 5 0 dX0_wishedFeet_20 fl_X0_34 rfl (by decide) ?_
  refine w_aload_n dX0_wishedFeet_23 rfl ?_
  refine w_getr 4 5 dX0_wishedFeet_24 fl_X0_15 rfl (by decide) ?_
  refine w_iload_n dX0_wishedFeet_27 rfl ?_
  refine w_callV (d := d + 3) (S := []) [aR 4 5, aI (f : Int)] dX0_wishedFeet_28 ml_X0_38 ok_X3_gainOn vi_X3_gainOn rfl rfl (by decide) rfl (Nat.le_of_ble_eq_true rfl) ?_
  refine c_X3_gainOn (d := d) 0 5 f (by decide) (by decide) (by first | assumption | omega | decide) (by first | assumption | omega | decide) (show (f : Int) < (h 5 0 3) by first | assumption | omega | decide) ?_
  intro A1
  show fwWP mX0_wishedFeet (d + 4) 31 [some (aR 9 0), some (aI (f : Int)), some (aI 0), none, none, none] [aI (mGain ((h 4 0) 1) (h 17 0) ((h 4 0) 2) (h 18 0) f)] (fwUc (fwUc (fwUc h 4 5 (h 4 0)) 17 5 (h 17 0)) 20 0 A1) Q
  refine w_istore_n [some (aR 9 0), some (aI (f : Int)), some (aI 0), some (aI (mGain ((h 4 0) 1) (h 17 0) ((h 4 0) 2) (h 18 0) f)), none, none] dX0_wishedFeet_31 rfl (by decide) ?_
  refine w_iconst dX0_wishedFeet_32 ?_
  refine w_istore [some (aR 9 0), some (aI (f : Int)), some (aI 0), some (aI (mGain ((h 4 0) 1) (h 17 0) ((h 4 0) 2) (h 18 0) f)), some (aI 1), none] dX0_wishedFeet_33 rfl (by decide) ?_
  have lp35 : ∀ c : Nat, c ≤ 20 → ∀ (y35 wi mo : Int) (hh35 : fwH), y35 = (c : Int) + 1 → wi = (mWish h f c).1 → mo = (mWish h f c).2 → (∃ A B : Nat → Int, hh35 = (fwUc (fwUc (fwUc (fwUc h 4 5 (h 4 0)) 17 5 (mLw h c)) 19 0 A) 20 0 B)) → fwWP mX0_wishedFeet (d + 4) 35 [some (aR 9 0), some (aI (f : Int)), some (aI wi), some (aI mo), some (aI y35), none] [] hh35 Q := by
    refine fw_up (fun c hc35 ih35 => ?_)
    intro y35 wi mo hh35 ey35 e_wi e_mo eh35
    subst ey35
    subst e_wi
    subst e_mo
    obtain ⟨A_35, B_35, eh35⟩ := eh35
    subst eh35
    have hH1 : ∀ q : Nat, q < 10 → 0 ≤ mLw h c q ∧ mLw h c q ≤ 999 := mLowN_rng (by omega) (fun q hq => ⟨(g8 q hq).1, hM q hq⟩) c
    have hH2 : ∀ q : Nat, q < 10 → 0 ≤ mLw h c q ∧ mLw h c q ≤ 1000 := fun q hq => by have := hH1 q hq; omega
    have hG5 := gOk_tr hG hH2 A_35 B_35
    have hM5 : ∀ q : Nat, q < 10 → mLw h c q ≤ 999 := fun q hq => (hH1 q hq).2
    show fwWP mX0_wishedFeet (d + 4) 35 [some (aR 9 0), some (aI (f : Int)), some (aI ((mWish h f c).1)), some (aI ((mWish h f c).2)), some (aI ((c : Int) + 1)), none] [] (fwUc (fwUc (fwUc (fwUc h 4 5 (h 4 0)) 17 5 (mLw h c)) 19 0 A_35) 20 0 B_35) Q
    refine w_iload dX0_wishedFeet_35 rfl ?_
    refine w_bipush dX0_wishedFeet_37 rfl ?_
    refine w_icmp_gt 85 dX0_wishedFeet_39 (by decide) (by omega) (by omega) (fun c39 => ?_) (fun c39 => ?_)
    · have ec35 : 20 = c := by omega
      subst ec35
      refine w_iload_n dX0_wishedFeet_85 rfl ?_
      exact w_iret dX0_wishedFeet_86 rfl (k _ _)
    · refine w_aload_n dX0_wishedFeet_42 rfl ?_
      refine w_getr 4 5 dX0_wishedFeet_43 fl_X0_15 rfl (by decide) ?_
      refine w_callV (d := d + 3) (S := []) [] dX0_wishedFeet_46 ml_X0_30 ok_X1_lower vi_X1_lower rfl rfl (by decide) rfl (Nat.le_of_ble_eq_true rfl) ?_
      refine c_X1_lower (d := (d + 1)) 5 (by decide) (by first | assumption | omega | decide) ?_
      show fwWP mX0_wishedFeet (d + 4) 49 [some (aR 9 0), some (aI (f : Int)), some (aI ((mWish h f c).1)), some (aI ((mWish h f c).2)), some (aI ((c : Int) + 1)), none] [aI (fwB (0 < ((h 4 0) 1).toNat ∧ (mLw h c) (mTop (mLw h c) ((h 4 0) 4) ((h 4 0) 1).toNat).toNat ≠ 0))] (fwUc (fwUc (fwUc (fwUc (fwUc h 4 5 (h 4 0)) 17 5 (mLw h c)) 19 0 A_35) 20 0 B_35) 17 5 (mLow ((h 4 0) 1).toNat (mLw h c) ((h 4 0) 4))) Q
      rw [show fwUc (fwUc (fwUc (fwUc (fwUc h 4 5 (h 4 0)) 17 5 (mLw h c)) 19 0 A_35) 20 0 B_35) 17 5 (mLow ((h 4 0) 1).toNat (mLw h c) ((h 4 0) 4)) = (fwUc (fwUc (fwUc (fwUc h 4 5 (h 4 0)) 17 5 (mLow ((h 4 0) 1).toNat (mLw h c) ((h 4 0) 4))) 19 0 A_35) 20 0 B_35) from by funext a b; simp only [fwUc]; (repeat' split); all_goals first | rfl | (exfalso; omega)]
      refine w_pop dX0_wishedFeet_49 rfl ?_
      have hH3 : ∀ q : Nat, q < 10 → 0 ≤ mLw h (c + 1) q ∧ mLw h (c + 1) q ≤ 1000 := mLowN_rng (by omega) g8 (c + 1)
      have hG6 := gOk_tr hG hH3 A_35 B_35
      change fwWP mX0_wishedFeet (d + 4) 50 [some (aR 9 0), some (aI (f : Int)), some (aI ((mWish h f c).1)), some (aI ((mWish h f c).2)), some (aI ((c : Int) + 1)), none] [] (fwUc (fwUc (fwUc (fwUc h 4 5 (h 4 0)) 17 5 (mLw h (c + 1))) 19 0 A_35) 20 0 B_35) Q
      refine w_aload_n dX0_wishedFeet_50 rfl ?_
      refine w_getr 3 0 dX0_wishedFeet_51 fl_X0_9 rfl (by decide) ?_
      refine w_getr 5 0 dX0_wishedFeet_54 fl_X0_34 rfl (by decide) ?_
      refine w_aload_n dX0_wishedFeet_57 rfl ?_
      refine w_getr 4 5 dX0_wishedFeet_58 fl_X0_15 rfl (by decide) ?_
      refine w_iload_n dX0_wishedFeet_61 rfl ?_
      refine w_callV (d := d + 3) (S := []) [aR 4 5, aI (f : Int)] dX0_wishedFeet_62 ml_X0_38 ok_X3_gainOn vi_X3_gainOn rfl rfl (by decide) rfl (Nat.le_of_ble_eq_true rfl) ?_
      refine c_X3_gainOn (d := d) 0 5 f (by decide) (by decide) (by first | assumption | omega | decide) (by first | assumption | omega | decide) (show (f : Int) < (h 5 0 3) by first | assumption | omega | decide) ?_
      intro A3
      show fwWP mX0_wishedFeet (d + 4) 65 [some (aR 9 0), some (aI (f : Int)), some (aI ((mWish h f c).1)), some (aI ((mWish h f c).2)), some (aI ((c : Int) + 1)), none] [aI (mGain ((h 4 0) 1) (mLw h (c + 1)) ((h 4 0) 2) (h 18 0) f)] (fwUc (fwUc (fwUc (fwUc (fwUc h 4 5 (h 4 0)) 17 5 (mLw h (c + 1))) 19 0 A_35) 20 0 B_35) 20 0 A3) Q
      rw [show fwUc (fwUc (fwUc (fwUc (fwUc h 4 5 (h 4 0)) 17 5 (mLw h (c + 1))) 19 0 A_35) 20 0 B_35) 20 0 A3 = (fwUc (fwUc (fwUc (fwUc h 4 5 (h 4 0)) 17 5 (mLw h (c + 1))) 19 0 A_35) 20 0 A3) from by funext a b; simp only [fwUc]; (repeat' split); all_goals first | rfl | (exfalso; omega)]
      have hr1 := mGain_rng (n := h 4 0 1) (H := mLw h (c + 1)) (sl := h 4 0 2) (F := h 18 0) (f := f) (by omega) hH3 (by omega) (by omega) (by omega)
      have hr2 := mWish_rng (h := h) (f := f) (by omega) g8 (by omega) (by omega) (by omega) c
      refine w_istore [some (aR 9 0), some (aI (f : Int)), some (aI ((mWish h f c).1)), some (aI ((mWish h f c).2)), some (aI ((c : Int) + 1)), some (aI (mGain ((h 4 0) 1) (mLw h (c + 1)) ((h 4 0) 2) (h 18 0) f))] dX0_wishedFeet_65 rfl (by decide) ?_
      refine w_iload dX0_wishedFeet_67 rfl ?_
      refine w_iload_n dX0_wishedFeet_69 rfl ?_
      refine w_icmp_le 79 dX0_wishedFeet_70 (by decide) (by omega) (by omega) (fun c70 => ?_) (fun c70 => ?_)
      · refine w_iinc [some (aR 9 0), some (aI (f : Int)), some (aI ((mWish h f c).1)), some (aI ((mWish h f c).2)), some (aI (((c : Int) + 1) + 1)), some (aI (mGain ((h 4 0) 1) (mLw h (c + 1)) ((h 4 0) 2) (h 18 0) f))] dX0_wishedFeet_79 rfl rfl (by decide) ?_
        refine w_goto 35 dX0_wishedFeet_82 (by decide) ?_
        refine w_drop [5] [some (aR 9 0), some (aI (f : Int)), some (aI ((mWish h f c).1)), some (aI ((mWish h f c).2)), some (aI (((c : Int) + 1) + 1)), none] rfl ?_
        refine ih35 (by omega) _ _ _ _ ?_ ?_ ?_ ?_
        · exact (by omega)
        · exact (by rw [mWish]; first | rw [if_pos (by omega)] | rw [if_neg (by omega)])
        · exact (by rw [mWish]; first | rw [if_pos (by omega)] | rw [if_neg (by omega)])
        · exact ⟨_, _, rfl⟩
      · refine w_iload dX0_wishedFeet_73 rfl ?_
        refine w_istore_n [some (aR 9 0), some (aI (f : Int)), some (aI ((mWish h f c).1)), some (aI (mGain ((h 4 0) 1) (mLw h (c + 1)) ((h 4 0) 2) (h 18 0) f)), some (aI ((c : Int) + 1)), some (aI (mGain ((h 4 0) 1) (mLw h (c + 1)) ((h 4 0) 2) (h 18 0) f))] dX0_wishedFeet_75 rfl (by decide) ?_
        refine w_iload dX0_wishedFeet_76 rfl ?_
        refine w_istore_n [some (aR 9 0), some (aI (f : Int)), some (aI ((c : Int) + 1)), some (aI (mGain ((h 4 0) 1) (mLw h (c + 1)) ((h 4 0) 2) (h 18 0) f)), some (aI ((c : Int) + 1)), some (aI (mGain ((h 4 0) 1) (mLw h (c + 1)) ((h 4 0) 2) (h 18 0) f))] dX0_wishedFeet_78 rfl (by decide) ?_
        refine w_iinc [some (aR 9 0), some (aI (f : Int)), some (aI ((c : Int) + 1)), some (aI (mGain ((h 4 0) 1) (mLw h (c + 1)) ((h 4 0) 2) (h 18 0) f)), some (aI (((c : Int) + 1) + 1)), some (aI (mGain ((h 4 0) 1) (mLw h (c + 1)) ((h 4 0) 2) (h 18 0) f))] dX0_wishedFeet_79 rfl rfl (by decide) ?_
        refine w_goto 35 dX0_wishedFeet_82 (by decide) ?_
        refine w_drop [5] [some (aR 9 0), some (aI (f : Int)), some (aI ((c : Int) + 1)), some (aI (mGain ((h 4 0) 1) (mLw h (c + 1)) ((h 4 0) 2) (h 18 0) f)), some (aI (((c : Int) + 1) + 1)), none] rfl ?_
        refine ih35 (by omega) _ _ _ _ ?_ ?_ ?_ ?_
        · exact (by omega)
        · exact (by rw [mWish]; first | rw [if_pos (by omega)] | rw [if_neg (by omega)])
        · exact (by rw [mWish]; first | rw [if_pos (by omega)] | rw [if_neg (by omega)])
        · exact ⟨_, _, rfl⟩
  refine lp35 0 (Nat.zero_le _) _ _ _ _ ?_ ?_ ?_ ?_
  · exact (by omega)
  · exact rfl
  · exact rfl
  · exact ⟨h 19 0, _, (congrArg (fun z => fwUc z 20 0 _) (fwUc_self (fwUc (fwUc h 4 5 (h 4 0)) 17 5 (h 17 0)) 19 0)).symm⟩
/-- names of who signs, with the heights H -/
def mNT (h : fwH) (H : Nat → Int) : Int := mNames (h 18 0) (mSign (h 18 0) (h 5 0 3).toNat (mGers (h 4 0 1) H (h 4 0 2) (h 4 0 4) (h 18 0) (h 5 0 3).toNat (-1)) 0) (h 5 0 3).toNat
/-- a FOOT can be taken -/
abbrev mCan (h : fwH) (H : Nat → Int) : Prop := 0 < (h 4 0 1).toNat ∧ H (mTop H (h 4 0 4) (h 4 0 1).toNat).toNat ≠ 0
def mFst (p : Nat → Bool) : Nat → Nat
  | 0 => 0
  | k + 1 => if mFst p k = k ∧ p k = true then k + 1 else mFst p k
theorem mFst_le (p : Nat → Bool) : ∀ k, mFst p k ≤ k := by
  intro k
  induction k with
  | zero => exact Nat.le_refl _
  | succ k ih => rw [mFst]; split <;> omega
theorem mFst_stop {p : Nat → Bool} {a : Nat} (ha : mFst p a = a) (hp : ¬ p a = true) : ∀ b, mFst p (a + b) = a := by
  intro b
  induction b with
  | zero => exact ha
  | succ b ih =>
    rw [← Nat.add_assoc, mFst, ih, if_neg]
    intro q
    have e : a = a + b := q.1
    rw [← e] at q
    exact hp q.2
theorem mFst_go {p : Nat → Bool} {a : Nat} (ha : mFst p a = a) (hp : p a = true) : mFst p (a + 1) = a + 1 := by
  rw [mFst, if_pos ⟨ha, hp⟩]
def mGoB (h : fwH) (x : Int) (j : Nat) : Bool := decide (x ≤ mNT h (mLw h j) ∧ mCan h (mLw h j))
theorem mLw_stuck {h : fwH} {k : Nat} (hc : ¬ mCan h (mLw h k)) : mLw h (k + 1) = mLw h k := by
  show mLow _ (mLw h k) _ = mLw h k
  unfold mLow
  rw [if_neg hc]
theorem mLw_low (h : fwH) (k : Nat) : mLow (h 4 0 1).toNat (mLw h k) (h 4 0 4) = mLw h (k + 1) := rfl
set_option maxRecDepth 100000 in
set_option maxHeartbeats 4000000 in
theorem c_X0_namesOnTrial {d : Nat} {h : fwH} {Q : Option fwV → fwH → Prop}  (hP : pOk h 0) (hG : gOk h 5) (hn : 1 ≤ h 4 5 1) (hM : ∀ c : Nat, c < 10 → h 17 5 c ≤ 999) (k : ∀ A B, Q (some (aI (mNames (h 18 0) (mSign (h 18 0) (h 5 0 3).toNat (mWil h 5) 0) (h 5 0 3).toNat))) (fwUc (fwUc h 19 0 A) 20 0 B)) : fwCt mX0_namesOnTrial (d + 4) [aR 9 0] h Q := by
  refine fwCt_of [some (aR 9 0)] rfl rfl rfl ?_
  refine w_aload_n dX0_namesOnTrial_0 rfl ?_
  refine w_getr 3 0 dX0_namesOnTrial_1 fl_X0_9 rfl (by decide) ?_
  refine w_getr 5 0 dX0_namesOnTrial_4 fl_X0_34 rfl (by decide) ?_
  refine w_aload_n dX0_namesOnTrial_7 rfl ?_
  refine w_getr 3 0 dX0_namesOnTrial_8 fl_X0_9 rfl (by decide) ?_
  refine w_getr 5 0 dX0_namesOnTrial_11 fl_X0_34 rfl (by decide) ?_
  refine w_aload_n dX0_namesOnTrial_14 rfl ?_
  refine w_getr 3 0 dX0_namesOnTrial_15 fl_X0_9 rfl (by decide) ?_
  refine w_getr 5 0 dX0_namesOnTrial_18 fl_X0_34 rfl (by decide) ?_
  refine w_aload_n dX0_namesOnTrial_21 rfl ?_
  refine w_getr 4 5 dX0_namesOnTrial_22 fl_X0_15 rfl (by decide) ?_
  refine w_iconst dX0_namesOnTrial_25 ?_
  refine w_callV (d := d + 3) (S := [aR 5 0, aR 5 0]) [aR 4 5, aI (-1)] dX0_namesOnTrial_26 ml_X0_44 ok_X3_gainersBy vi_X3_gainersBy rfl rfl (by decide) rfl (Nat.le_of_ble_eq_true rfl) ?_
  refine c_willing5 (d := d) (by first | assumption | omega | decide) (by first | assumption | omega | decide) (show 1 ≤ (h 4 5 1) by first | assumption | omega | decide) (by first | assumption | omega | decide) ?_
  intro A1 B2
  show fwWP mX0_namesOnTrial (d + 4) 29 [some (aR 9 0)] [aI (mWil h 5), aR 5 0, aR 5 0] (fwUc (fwUc h 19 0 A1) 20 0 B2) Q
  refine w_iconst dX0_namesOnTrial_29 ?_
  refine w_callV (d := d + 3) (S := [aR 5 0]) [aI (mWil h 5), aI 0] dX0_namesOnTrial_30 ml_X0_47 ok_X3_signersOf vi_X3_signersOf rfl rfl (by decide) rfl (Nat.le_of_ble_eq_true rfl) ?_
  refine c_X3_signersOf (d := (d + 2)) 0 (mWil h 5) 0 (by decide) (by first | assumption | omega | decide) ?_
  show fwWP mX0_namesOnTrial (d + 4) 33 [some (aR 9 0)] [aI (mSign (h 18 0) (h 5 0 3).toNat (mWil h 5) 0), aR 5 0] (fwUc (fwUc h 19 0 A1) 20 0 B2) Q
  refine w_callV (d := d + 3) (S := []) [aI (mSign (h 18 0) (h 5 0 3).toNat (mWil h 5) 0)] dX0_namesOnTrial_33 ml_X0_51 ok_X3_namesOf vi_X3_namesOf rfl rfl (by decide) rfl (Nat.le_of_ble_eq_true rfl) ?_
  refine c_X3_namesOf (d := (d + 2)) 0 (mSign (h 18 0) (h 5 0 3).toNat (mWil h 5) 0) (by decide) (by first | assumption | omega | decide) ?_
  show fwWP mX0_namesOnTrial (d + 4) 36 [some (aR 9 0)] [aI (mNames (h 18 0) (mSign (h 18 0) (h 5 0 3).toNat (mWil h 5) 0) (h 5 0 3).toNat)] (fwUc (fwUc h 19 0 A1) 20 0 B2) Q
  exact w_iret dX0_namesOnTrial_36 rfl (k _ _)
set_option maxRecDepth 100000 in
set_option maxHeartbeats 4000000 in
theorem c_X0_followLaw {d : Nat} {h : fwH} {Q : Option fwV → fwH → Prop} (x : Int) (hP : pOk h 0) (hG : gOk h 0) (hn : 1 ≤ h 4 0 1) (hM : ∀ c : Nat, c < 10 → h 17 0 c ≤ 999) (hx : 1 ≤ x ∧ x ≤ 999) (k : ∀ A B, Q (some (aI ((mFst (mGoB h x) 60 : Nat) : Int))) (fwUc (fwUc (fwUc (fwUc h 4 5 (h 4 0)) 17 5 (mLw h (mFst (mGoB h x) 60))) 19 0 A) 20 0 B)) : fwCt mX0_followLaw (d + 5) [aR 9 0, aI x] h Q := by
  refine fwCt_of [some (aR 9 0), some (aI x), none] rfl rfl rfl ?_
  obtain ⟨⟨g1, g2⟩, ⟨g3, g4⟩, ⟨g5, g6⟩, g7, g8⟩ := id hG
  have hpz := hP.1
  refine w_aload_n dX0_followLaw_0 rfl ?_
  refine w_getr 4 5 dX0_followLaw_1 fl_X0_15 rfl (by decide) ?_
  refine w_aload_n dX0_followLaw_4 rfl ?_
  refine w_getr 3 0 dX0_followLaw_5 fl_X0_9 rfl (by decide) ?_
  refine w_getr 4 0 dX0_followLaw_8 fl_X0_19 rfl (by decide) ?_
  refine w_callV (d := d + 4) (S := []) [aR 4 0] dX0_followLaw_11 ml_X0_24 ok_X1_copyFrom vi_X1_copyFrom rfl rfl (by decide) rfl (Nat.le_of_ble_eq_true rfl) ?_
  refine c_X1_copyFrom (d := (d + 4)) 5 0 (by decide) (by decide) (by first | assumption | omega | decide) (by first | assumption | omega | decide) ?_
  show fwWP mX0_followLaw (d + 5) 14 [some (aR 9 0), some (aI x), none] [] (fwUc (fwUc h 17 5 (h 17 0)) 4 5 (h 4 0)) Q
  rw [show fwUc (fwUc h 17 5 (h 17 0)) 4 5 (h 4 0) = (fwUc (fwUc h 4 5 (h 4 0)) 17 5 (h 17 0)) from by funext a b; simp only [fwUc]; (repeat' split); all_goals first | rfl | (exfalso; omega)]
  refine w_iconst dX0_followLaw_14 ?_
  refine w_istore_n [some (aR 9 0), some (aI x), some (aI 0)] dX0_followLaw_15 rfl (by decide) ?_
  have lp16 : ∀ c : Nat, c ≤ 60 → ∀ (y16  : Int) (hh16 : fwH), y16 = (c : Int) → (∃ A B : Nat → Int, hh16 = (fwUc (fwUc (fwUc (fwUc h 4 5 (h 4 0)) 17 5 (mLw h c)) 19 0 A) 20 0 B)) → (mFst (mGoB h x) c = c) → fwWP mX0_followLaw (d + 5) 16 [some (aR 9 0), some (aI x), some (aI y16)] [] hh16 Q := by
    refine fw_up (fun c hc16 ih16 => ?_)
    intro y16  hh16 ey16 eh16 iv16_0
    subst ey16
    obtain ⟨A_16, B_16, eh16⟩ := eh16
    subst eh16
    have hH1 : ∀ q : Nat, q < 10 → 0 ≤ mLw h c q ∧ mLw h c q ≤ 999 := mLowN_rng (by omega) (fun q hq => ⟨(g8 q hq).1, hM q hq⟩) c
    have hH2 : ∀ q : Nat, q < 10 → 0 ≤ mLw h c q ∧ mLw h c q ≤ 1000 := fun q hq => by have := hH1 q hq; omega
    have hG5 := gOk_tr hG hH2 A_16 B_16
    have hM5 : ∀ q : Nat, q < 10 → mLw h c q ≤ 999 := fun q hq => (hH1 q hq).2
    show fwWP mX0_followLaw (d + 5) 16 [some (aR 9 0), some (aI x), some (aI (c : Int))] [] (fwUc (fwUc (fwUc (fwUc h 4 5 (h 4 0)) 17 5 (mLw h c)) 19 0 A_16) 20 0 B_16) Q
    refine w_iload_n dX0_followLaw_16 rfl ?_
    refine w_bipush dX0_followLaw_17 rfl ?_
    refine w_icmp_ge 48 dX0_followLaw_19 (by decide) (by omega) (by omega) (fun c19 => ?_) (fun c19 => ?_)
    · refine w_bipush dX0_followLaw_48 rfl ?_
      have ec : c = 60 := by omega
      subst ec
      have k9 := k A_16 B_16
      rw [iv16_0] at k9
      exact w_iret dX0_followLaw_50 rfl k9
    · refine w_aload_n dX0_followLaw_22 rfl ?_
      refine w_callV (d := d + 4) (S := []) [] dX0_followLaw_23 ml_X0_55 ok_X0_namesOnTrial vi_X0_namesOnTrial rfl rfl (by decide) rfl (Nat.le_of_ble_eq_true rfl) ?_
      refine c_X0_namesOnTrial (d := d) (by first | assumption | omega | decide) (by first | assumption | omega | decide) (show 1 ≤ ((h 4 0) 1) by first | assumption | omega | decide) (by first | assumption | omega | decide) ?_
      intro A2 B3
      show fwWP mX0_followLaw (d + 5) 26 [some (aR 9 0), some (aI x), some (aI (c : Int))] [aI (mNT h (mLw h c))] (fwUc (fwUc (fwUc (fwUc (fwUc (fwUc h 4 5 (h 4 0)) 17 5 (mLw h c)) 19 0 A_16) 20 0 B_16) 19 0 A2) 20 0 B3) Q
      rw [show fwUc (fwUc (fwUc (fwUc (fwUc (fwUc h 4 5 (h 4 0)) 17 5 (mLw h c)) 19 0 A_16) 20 0 B_16) 19 0 A2) 20 0 B3 = (fwUc (fwUc (fwUc (fwUc h 4 5 (h 4 0)) 17 5 (mLw h c)) 19 0 A2) 20 0 B3) from by funext a b; simp only [fwUc]; (repeat' split); all_goals first | rfl | (exfalso; omega)]
      have hnr : 0 ≤ mNT h (mLw h c) ∧ mNT h (mLw h c) ≤ 792 := mNames_r2 hP _
      refine w_iload_n dX0_followLaw_26 rfl ?_
      refine w_icmp_lt 40 dX0_followLaw_27 (by decide) (by omega) (by omega) (fun cn => ?_) (fun cn => ?_)
      · refine w_iload_n dX0_followLaw_40 rfl ?_
        have est := mFst_stop iv16_0 (show ¬ mGoB h x c = true from (fun q => by have := (of_decide_eq_true q).1; omega)) (60 - c)
        rw [show c + (60 - c) = 60 by omega] at est
        have k9 := k A2 B3
        rw [est] at k9
        exact w_iret dX0_followLaw_41 rfl k9
      · refine w_aload_n dX0_followLaw_30 rfl ?_
        refine w_getr 4 5 dX0_followLaw_31 fl_X0_15 rfl (by decide) ?_
        refine w_callV (d := d + 4) (S := []) [] dX0_followLaw_34 ml_X0_30 ok_X1_lower vi_X1_lower rfl rfl (by decide) rfl (Nat.le_of_ble_eq_true rfl) ?_
        refine c_X1_lower (d := (d + 2)) 5 (by decide) (by first | assumption | omega | decide) ?_
        show fwWP mX0_followLaw (d + 5) 37 [some (aR 9 0), some (aI x), some (aI (c : Int))] [aI (fwB (0 < ((h 4 0) 1).toNat ∧ (mLw h c) (mTop (mLw h c) ((h 4 0) 4) ((h 4 0) 1).toNat).toNat ≠ 0))] (fwUc (fwUc (fwUc (fwUc (fwUc h 4 5 (h 4 0)) 17 5 (mLw h c)) 19 0 A2) 20 0 B3) 17 5 (mLow ((h 4 0) 1).toNat (mLw h c) ((h 4 0) 4))) Q
        rw [show fwUc (fwUc (fwUc (fwUc (fwUc h 4 5 (h 4 0)) 17 5 (mLw h c)) 19 0 A2) 20 0 B3) 17 5 (mLow ((h 4 0) 1).toNat (mLw h c) ((h 4 0) 4)) = (fwUc (fwUc (fwUc (fwUc h 4 5 (h 4 0)) 17 5 (mLow ((h 4 0) 1).toNat (mLw h c) ((h 4 0) 4))) 19 0 A2) 20 0 B3) from by funext a b; simp only [fwUc]; (repeat' split); all_goals first | rfl | (exfalso; omega)]
        refine w_ifB_ne 42 dX0_followLaw_37 (by decide) (fun cl => ?_) (fun cl => ?_)
        · have hgo := mFst_go iv16_0 (show mGoB h x c = true from decide_eq_true ⟨by omega, cl⟩)
          refine w_iinc [some (aR 9 0), some (aI x), some (aI ((c : Int) + 1))] dX0_followLaw_42 rfl rfl (by decide) ?_
          refine w_goto 16 dX0_followLaw_45 (by decide) ?_
          refine ih16 (by omega) _ _ ?_ ?_ ?_
          · exact (by omega)
          · exact ⟨_, _, rfl⟩
          · exact hgo
        · refine w_iload_n dX0_followLaw_40 rfl ?_
          have est := mFst_stop iv16_0 (show ¬ mGoB h x c = true from (fun q => cl (of_decide_eq_true q).2)) (60 - c)
          rw [show c + (60 - c) = 60 by omega] at est
          rw [show mLow (h 4 0 1).toNat (mLw h c) (h 4 0 4) = mLw h c from mLw_stuck cl]
          have k9 := k A2 B3
          rw [est] at k9
          exact w_iret dX0_followLaw_41 rfl k9
  refine lp16 0 (Nat.zero_le _) _ _ ?_ ?_ ?_
  · exact (by omega)
  · exact ⟨h 19 0, h 20 0, (fwAB h (h 17 0)).symm⟩
  · exact rfl
def mLeast (h : fwH) : Nat → Int
  | 0 => 999
  | k + 1 => min (mLeast h k) (mNT h (mLw h k))
theorem mLeast_rng {h : fwH} (hP : pOk h 0) : ∀ k, 0 ≤ mLeast h k ∧ mLeast h k ≤ 999 := by
  intro k
  induction k with
  | zero => simp [mLeast]
  | succ k ih =>
    have : 0 ≤ mNT h (mLw h k) ∧ mNT h (mLw h k) ≤ 792 := mNames_r2 hP _
    rw [mLeast]
    omega
def mGrt (h : fwH) (n : Nat) : Int := if mFst (mGoB h 1) n = n then mLeast h n else -1
set_option maxRecDepth 100000 in
set_option maxHeartbeats 4000000 in
theorem c_X0_greatestLaw {d : Nat} {h : fwH} {Q : Option fwV → fwH → Prop} (n : Nat) (hP : pOk h 0) (hG : gOk h 0) (hn : 1 ≤ h 4 0 1) (hM : ∀ c : Nat, c < 10 → h 17 0 c ≤ 999) (hnn : n ≤ 60) (k : ∀ H A B, Q (some (aI (mGrt h n))) (fwUc (fwUc (fwUc (fwUc h 4 5 (h 4 0)) 17 5 (H)) 19 0 A) 20 0 B)) : fwCt mX0_greatestLaw (d + 5) [aR 9 0, aI (n : Int)] h Q := by
  refine fwCt_of [some (aR 9 0), some (aI (n : Int)), none, none, none] rfl rfl rfl ?_
  obtain ⟨⟨g1, g2⟩, ⟨g3, g4⟩, ⟨g5, g6⟩, g7, g8⟩ := id hG
  have hpz := hP.1
  refine w_aload_n dX0_greatestLaw_0 rfl ?_
  refine w_getr 4 5 dX0_greatestLaw_1 fl_X0_15 rfl (by decide) ?_
  refine w_aload_n dX0_greatestLaw_4 rfl ?_
  refine w_getr 3 0 dX0_greatestLaw_5 fl_X0_9 rfl (by decide) ?_
  refine w_getr 4 0 dX0_greatestLaw_8 fl_X0_19 rfl (by decide) ?_
  refine w_callV (d := d + 4) (S := []) [aR 4 0] dX0_greatestLaw_11 ml_X0_24 ok_X1_copyFrom vi_X1_copyFrom rfl rfl (by decide) rfl (Nat.le_of_ble_eq_true rfl) ?_
  refine c_X1_copyFrom (d := (d + 4)) 5 0 (by decide) (by decide) (by first | assumption | omega | decide) (by first | assumption | omega | decide) ?_
  show fwWP mX0_greatestLaw (d + 5) 14 [some (aR 9 0), some (aI (n : Int)), none, none, none] [] (fwUc (fwUc h 17 5 (h 17 0)) 4 5 (h 4 0)) Q
  rw [show fwUc (fwUc h 17 5 (h 17 0)) 4 5 (h 4 0) = (fwUc (fwUc h 4 5 (h 4 0)) 17 5 (h 17 0)) from by funext a b; simp only [fwUc]; (repeat' split); all_goals first | rfl | (exfalso; omega)]
  refine w_sipush dX0_greatestLaw_14 rfl ?_
  refine w_istore_n [some (aR 9 0), some (aI (n : Int)), some (aI 999), none, none] dX0_greatestLaw_17 rfl (by decide) ?_
  refine w_iconst dX0_greatestLaw_18 ?_
  refine w_istore_n [some (aR 9 0), some (aI (n : Int)), some (aI 999), some (aI 0), none] dX0_greatestLaw_19 rfl (by decide) ?_
  have lp20 : ∀ c : Nat, c ≤ n → ∀ (y20 le : Int) (hh20 : fwH), y20 = (c : Int) → le = mLeast h c → (∃ A B : Nat → Int, hh20 = (fwUc (fwUc (fwUc (fwUc h 4 5 (h 4 0)) 17 5 (mLw h c)) 19 0 A) 20 0 B)) → (mFst (mGoB h 1) c = c) → fwWP mX0_greatestLaw (d + 5) 20 [some (aR 9 0), some (aI (n : Int)), some (aI le), some (aI y20), none] [] hh20 Q := by
    refine fw_up (fun c hc20 ih20 => ?_)
    intro y20 le hh20 ey20 e_le eh20 iv20_0
    subst ey20
    subst e_le
    obtain ⟨A_20, B_20, eh20⟩ := eh20
    subst eh20
    have hH1 : ∀ q : Nat, q < 10 → 0 ≤ mLw h c q ∧ mLw h c q ≤ 999 := mLowN_rng (by omega) (fun q hq => ⟨(g8 q hq).1, hM q hq⟩) c
    have hH2 : ∀ q : Nat, q < 10 → 0 ≤ mLw h c q ∧ mLw h c q ≤ 1000 := fun q hq => by have := hH1 q hq; omega
    have hG5 := gOk_tr hG hH2 A_20 B_20
    have hM5 : ∀ q : Nat, q < 10 → mLw h c q ≤ 999 := fun q hq => (hH1 q hq).2
    show fwWP mX0_greatestLaw (d + 5) 20 [some (aR 9 0), some (aI (n : Int)), some (aI (mLeast h c)), some (aI (c : Int)), none] [] (fwUc (fwUc (fwUc (fwUc h 4 5 (h 4 0)) 17 5 (mLw h c)) 19 0 A_20) 20 0 B_20) Q
    refine w_iload_n dX0_greatestLaw_20 rfl ?_
    refine w_iload_n dX0_greatestLaw_21 rfl ?_
    refine w_icmp_ge 62 dX0_greatestLaw_22 (by decide) (by omega) (by omega) (fun c22 => ?_) (fun c22 => ?_)
    · have ec20 : n = c := by omega
      subst ec20
      refine w_iload_n dX0_greatestLaw_62 rfl ?_
      exact w_iretE dX0_greatestLaw_63 rfl (by rw [mGrt, if_pos iv20_0]) (k _ _ _)
    · refine w_aload_n dX0_greatestLaw_25 rfl ?_
      refine w_callV (d := d + 4) (S := []) [] dX0_greatestLaw_26 ml_X0_55 ok_X0_namesOnTrial vi_X0_namesOnTrial rfl rfl (by decide) rfl (Nat.le_of_ble_eq_true rfl) ?_
      refine c_X0_namesOnTrial (d := d) (by first | assumption | omega | decide) (by first | assumption | omega | decide) (show 1 ≤ ((h 4 0) 1) by first | assumption | omega | decide) (by first | assumption | omega | decide) ?_
      intro A2 B3
      show fwWP mX0_greatestLaw (d + 5) 29 [some (aR 9 0), some (aI (n : Int)), some (aI (mLeast h c)), some (aI (c : Int)), none] [aI (mNT h (mLw h c))] (fwUc (fwUc (fwUc (fwUc (fwUc (fwUc h 4 5 (h 4 0)) 17 5 (mLw h c)) 19 0 A_20) 20 0 B_20) 19 0 A2) 20 0 B3) Q
      rw [show fwUc (fwUc (fwUc (fwUc (fwUc (fwUc h 4 5 (h 4 0)) 17 5 (mLw h c)) 19 0 A_20) 20 0 B_20) 19 0 A2) 20 0 B3 = (fwUc (fwUc (fwUc (fwUc h 4 5 (h 4 0)) 17 5 (mLw h c)) 19 0 A2) 20 0 B3) from by funext a b; simp only [fwUc]; (repeat' split); all_goals first | rfl | (exfalso; omega)]
      have hnr : 0 ≤ mNT h (mLw h c) ∧ mNT h (mLw h c) ≤ 792 := mNames_r2 hP _
      have hlr := mLeast_rng hP c
      refine w_istore [some (aR 9 0), some (aI (n : Int)), some (aI (mLeast h c)), some (aI (c : Int)), some (aI (mNT h (mLw h c)))] dX0_greatestLaw_29 rfl (by decide) ?_
      refine w_iload dX0_greatestLaw_31 rfl ?_
      refine w_iconst dX0_greatestLaw_33 ?_
      refine w_icmp_lt 47 dX0_greatestLaw_34 (by decide) (by omega) (by omega) (fun cn => ?_) (fun cn => ?_)
      · refine w_iconst dX0_greatestLaw_47 ?_
        have est := mFst_stop iv20_0 (show ¬ mGoB h 1 c = true from (fun q => by have := (of_decide_eq_true q).1; omega)) (n - c)
        rw [show c + (n - c) = n by omega] at est
        exact w_iretE dX0_greatestLaw_48 rfl (by rw [mGrt, if_neg (by omega)]) (k _ _ _)
      · refine w_aload_n dX0_greatestLaw_37 rfl ?_
        refine w_getr 4 5 dX0_greatestLaw_38 fl_X0_15 rfl (by decide) ?_
        refine w_callV (d := d + 4) (S := []) [] dX0_greatestLaw_41 ml_X0_30 ok_X1_lower vi_X1_lower rfl rfl (by decide) rfl (Nat.le_of_ble_eq_true rfl) ?_
        refine c_X1_lower (d := (d + 2)) 5 (by decide) (by first | assumption | omega | decide) ?_
        show fwWP mX0_greatestLaw (d + 5) 44 [some (aR 9 0), some (aI (n : Int)), some (aI (mLeast h c)), some (aI (c : Int)), some (aI (mNT h (mLw h c)))] [aI (fwB (0 < ((h 4 0) 1).toNat ∧ (mLw h c) (mTop (mLw h c) ((h 4 0) 4) ((h 4 0) 1).toNat).toNat ≠ 0))] (fwUc (fwUc (fwUc (fwUc (fwUc h 4 5 (h 4 0)) 17 5 (mLw h c)) 19 0 A2) 20 0 B3) 17 5 (mLow ((h 4 0) 1).toNat (mLw h c) ((h 4 0) 4))) Q
        rw [show fwUc (fwUc (fwUc (fwUc (fwUc h 4 5 (h 4 0)) 17 5 (mLw h c)) 19 0 A2) 20 0 B3) 17 5 (mLow ((h 4 0) 1).toNat (mLw h c) ((h 4 0) 4)) = (fwUc (fwUc (fwUc (fwUc h 4 5 (h 4 0)) 17 5 (mLow ((h 4 0) 1).toNat (mLw h c) ((h 4 0) 4))) 19 0 A2) 20 0 B3) from by funext a b; simp only [fwUc]; (repeat' split); all_goals first | rfl | (exfalso; omega)]
        refine w_ifB_ne 49 dX0_greatestLaw_44 (by decide) (fun cl => ?_) (fun cl => ?_)
        · have hgo := mFst_go iv20_0 (show mGoB h 1 c = true from decide_eq_true ⟨by omega, cl⟩)
          refine w_iload_n dX0_greatestLaw_49 rfl ?_
          refine w_iload dX0_greatestLaw_50 rfl ?_
          refine w_min (d := d + 4) (S := []) dX0_greatestLaw_52 ml_X0_59 (by omega) (by omega) (Nat.le_of_ble_eq_true rfl) ?_
          refine w_istore_n [some (aR 9 0), some (aI (n : Int)), some (aI (min (mLeast h c) (mNT h (mLw h c)))), some (aI (c : Int)), some (aI (mNT h (mLw h c)))] dX0_greatestLaw_55 rfl (by decide) ?_
          refine w_iinc [some (aR 9 0), some (aI (n : Int)), some (aI (min (mLeast h c) (mNT h (mLw h c)))), some (aI ((c : Int) + 1)), some (aI (mNT h (mLw h c)))] dX0_greatestLaw_56 rfl rfl (by decide) ?_
          refine w_goto 20 dX0_greatestLaw_59 (by decide) ?_
          refine w_drop [4] [some (aR 9 0), some (aI (n : Int)), some (aI (min (mLeast h c) (mNT h (mLw h c)))), some (aI ((c : Int) + 1)), none] rfl ?_
          refine ih20 (by omega) _ _ _ ?_ ?_ ?_ ?_
          · exact (by omega)
          · exact rfl
          · exact ⟨_, _, rfl⟩
          · exact hgo
        · refine w_iconst dX0_greatestLaw_47 ?_
          have est := mFst_stop iv20_0 (show ¬ mGoB h 1 c = true from (fun q => cl (of_decide_eq_true q).2)) (n - c)
          rw [show c + (n - c) = n by omega] at est
          exact w_iretE dX0_greatestLaw_48 rfl (by rw [mGrt, if_neg (by omega)]) (k _ _ _)
  refine lp20 0 (Nat.zero_le _) _ _ _ ?_ ?_ ?_ ?_
  · exact (by omega)
  · exact rfl
  · exact ⟨h 19 0, h 20 0, (fwAB h (h 17 0)).symm⟩
  · exact rfl
theorem c_X1_changeN {d : Nat} {h : fwH} {Q : Option fwV → fwH → Prop} (i : Nat) (x y : Int) (hi : i < 6) (hG : gOk h i) (hx : x = -1 ∨ (0 ≤ x ∧ x < h 4 i 1)) (k : Q none (fwUc h 17 i (if x = -1 then h 17 i else fwFu (h 17 i) x.toNat (h 17 i x.toNat + y)))) : fwCt mX1_change (d + 1) [aR 4 i, aI x, aI y] h Q := by
  have h2 := hG.1
  refine c_X1_change i x y hi hG (by omega) ?_
  by_cases e : x = -1
  · rw [if_pos e, fwUc_self] at k
    rw [if_neg (by omega)]
    exact k
  · rw [if_neg e] at k
    rw [if_pos (by omega), fwUp_fu]
    exact k
def mRs (H : Nat → Int) (x : Int) : Nat → Int := if x = -1 then H else fwFu H x.toNat (H x.toNat + 1)
theorem mStay_rng {n : Int} (H : Nat → Int) {rs x : Int} (hn : 0 ≤ n ∧ n ≤ 10) (hx : 0 ≤ x ∧ x < n) : mStay n H rs x = -1 ∨ ((0 ≤ mStay n H rs x ∧ mStay n H rs x < n) ∧ H (mStay n H rs x).toNat < 99) := by
  unfold mStay
  have h1 := mDesc_rng H (sl := rs - 1) hn 10 x hx
  split
  · exact Or.inl rfl
  · rename_i q
    right
    unfold hOf at q
    rw [if_pos h1] at q
    omega
theorem mRs_rng {n : Int} {H : Nat → Int} {rs x b : Int} (hn : 0 ≤ n ∧ n ≤ 10) (hx : 0 ≤ x ∧ x < n) (hb : 99 ≤ b) (hH : ∀ c : Nat, c < 10 → 0 ≤ H c ∧ H c ≤ b) : ∀ c : Nat, c < 10 → 0 ≤ mRs H (mStay n H rs x) c ∧ mRs H (mStay n H rs x) c ≤ b := by
  intro c hc
  have h1 := mStay_rng H (rs := rs) hn hx
  have h2 := hH c hc
  unfold mRs
  split
  · exact h2
  · have h3 := hH (mStay n H rs x).toNat (by omega)
    unfold fwFu
    split <;> omega
def mNx (x : Int) : Int := fwLand (1103515245 * x + 12345) 2147483647
def mWon (h : fwH) (x : Int) : Int := fwShl 1 (fwLrem (fwLdiv x 65536) (h 5 0 3))
def mDrOk (h : fwH) (x : Int) (H : Nat → Int) : Bool := decide (mEno (h 18 0) (h 5 0 3).toNat (h 3 0 4) (fwOr (mGers (h 4 0 1) H (h 4 0 2) (h 4 0 4) (h 18 0) (h 5 0 3).toNat (-1)) (mWon h x)) 0 ∧ mCan h H)
def mDrH (h : fwH) (H : Nat → Int) : Nat → Int := mRs (mLow (h 4 0 1).toNat H (h 4 0 4)) (mStay (h 4 0 1) (mLow (h 4 0 1).toNat H (h 4 0 4)) (h 4 0 3) (h 3 0 5))
def mDr (h : fwH) (x0 : Int) : Nat → Int × Int × (Nat → Int)
  | 0 => (x0, 0, h 17 0)
  | m + 1 => if mDrOk h (mNx (mDr h x0 m).1) (mDr h x0 m).2.2 = true then (mNx (mDr h x0 m).1, (mDr h x0 m).2.1 + 1, mDrH h (mDr h x0 m).2.2) else (mNx (mDr h x0 m).1, (mDr h x0 m).2.1, (mDr h x0 m).2.2)
theorem mDr_rng {h : fwH} {x0 : Int} (hn : 0 ≤ h 4 0 1 ∧ h 4 0 1 ≤ 10) (hx : 0 ≤ h 3 0 5 ∧ h 3 0 5 < h 4 0 1) (hH : ∀ c : Nat, c < 10 → 0 ≤ h 17 0 c ∧ h 17 0 c ≤ 999) : ∀ m : Nat, ∀ c : Nat, c < 10 → 0 ≤ (mDr h x0 m).2.2 c ∧ (mDr h x0 m).2.2 c ≤ 999 := by
  intro m
  induction m with
  | zero => exact hH
  | succ m ih =>
    rw [mDr]
    split
    · exact mRs_rng hn hx (by omega) (mLow_rng (by omega) ih)
    · exact ih
/-- what is drawn: FEET, and the heights then -/
def mDrawn (h : fwH) (x0 : Int) (m : Nat) : Int × (Nat → Int) := if h 5 0 3 < 1 then (0, h 17 0) else (mDr h x0 m).2
theorem mDr_n (h : fwH) (x : Int) : ∀ m : Nat, 0 ≤ (mDr h x m).2.1 ∧ (mDr h x m).2.1 ≤ m := by
  intro m
  induction m with
  | zero => simp [mDr]
  | succ m ih =>
    rw [mDr]
    split
    · dsimp only; omega
    · dsimp only; omega
theorem mDrawn_rng (h : fwH) (x : Int) (u : Nat) : 0 ≤ (mDrawn h x u).1 ∧ (mDrawn h x u).1 ≤ u := by
  unfold mDrawn
  split
  · dsimp only; omega
  · exact mDr_n h x u
theorem mDr_mono (h : fwH) (x : Int) (m : Nat) : ∀ k : Nat, (mDr h x m).2.1 ≤ (mDr h x (m + k)).2.1 := by
  intro k
  induction k with
  | zero => exact Int.le_refl _
  | succ k ih =>
    rw [← Nat.add_assoc, mDr]
    split
    · dsimp only; omega
    · dsimp only; omega
theorem mDrawn_mono (h : fwH) (x : Int) {u m : Nat} (hu : u ≤ m) : (mDrawn h x u).1 ≤ (mDrawn h x m).1 := by
  unfold mDrawn
  split
  · exact Int.le_refl _
  · have := mDr_mono h x u (m - u)
    rw [show u + (m - u) = m by omega] at this
    exact this
set_option maxRecDepth 100000 in
set_option maxHeartbeats 4000000 in
theorem c_X0_drawMonthsU {d : Nat} {h : fwH} {Q : Option fwV → fwH → Prop} (x : Int) (m : Nat) (z : Int) (hP : pOk h 0) (hG : gOk h 0) (hn : 1 ≤ h 4 0 1) (hM : ∀ c : Nat, c < 10 → h 17 0 c ≤ 999) (hlw : 0 ≤ h 3 0 4 ∧ h 3 0 4 ≤ 999) (hhc : 0 ≤ h 3 0 5 ∧ h 3 0 5 < h 4 0 1) (hx : -2147483648 ≤ x ∧ x < 2147483648) (hmm : m ≤ 1000) (hz : -2147483648 ≤ z ∧ z < 2147483648) (k : ∀ (u : Nat) A B, u ≤ m → (u = m ∨ z ≤ (mDrawn h x u).1) → Q (some (aI ((mDrawn h x u).1))) (fwUc (fwUc (fwUc (fwUc h 4 5 (h 4 0)) 17 5 ((mDrawn h x u).2)) 19 0 A) 20 0 B)) : fwCt mX0_drawMonths (d + 4) [aR 9 0, aI x, aI (m : Int), aI z] h Q := by
  refine fwCt_of [some (aR 9 0), some (aI x), some (aI (m : Int)), some (aI z), none, none, none, none, none, none, none] rfl rfl rfl ?_
  obtain ⟨⟨g1, g2⟩, ⟨g3, g4⟩, ⟨g5, g6⟩, g7, g8⟩ := id hG
  have hpz := hP.1
  refine w_aload_n dX0_drawMonths_0 rfl ?_
  refine w_getr 4 5 dX0_drawMonths_1 fl_X0_15 rfl (by decide) ?_
  refine w_aload_n dX0_drawMonths_4 rfl ?_
  refine w_getr 3 0 dX0_drawMonths_5 fl_X0_9 rfl (by decide) ?_
  refine w_getr 4 0 dX0_drawMonths_8 fl_X0_19 rfl (by decide) ?_
  refine w_callV (d := d + 3) (S := []) [aR 4 0] dX0_drawMonths_11 ml_X0_24 ok_X1_copyFrom vi_X1_copyFrom rfl rfl (by decide) rfl (Nat.le_of_ble_eq_true rfl) ?_
  refine c_X1_copyFrom (d := (d + 3)) 5 0 (by decide) (by decide) (by first | assumption | omega | decide) (by first | assumption | omega | decide) ?_
  show fwWP mX0_drawMonths (d + 4) 14 [some (aR 9 0), some (aI x), some (aI (m : Int)), some (aI z), none, none, none, none, none, none, none] [] (fwUc (fwUc h 17 5 (h 17 0)) 4 5 (h 4 0)) Q
  rw [show fwUc (fwUc h 17 5 (h 17 0)) 4 5 (h 4 0) = (fwUc (fwUc h 4 5 (h 4 0)) 17 5 (h 17 0)) from by funext a b; simp only [fwUc]; (repeat' split); all_goals first | rfl | (exfalso; omega)]
  refine w_aload_n dX0_drawMonths_14 rfl ?_
  refine w_getr 3 0 dX0_drawMonths_15 fl_X0_9 rfl (by decide) ?_
  refine w_getr 5 0 dX0_drawMonths_18 fl_X0_34 rfl (by decide) ?_
  refine w_getiE (v := h 5 0 3) dX0_drawMonths_21 fl_X0_64 rfl (by decide) (by first | rfl | simp [fwUp, fwUc]) ?_
  refine w_istore [some (aR 9 0), some (aI x), some (aI (m : Int)), some (aI z), some (aI (h 5 0 3)), none, none, none, none, none, none] dX0_drawMonths_24 rfl (by decide) ?_
  refine w_iload dX0_drawMonths_26 rfl ?_
  refine w_iconst dX0_drawMonths_28 ?_
  refine w_icmp_ge 34 dX0_drawMonths_29 (by decide) (by omega) (by omega) (fun c29 => ?_) (fun c29 => ?_)
  · refine w_iload_n dX0_drawMonths_34 rfl ?_
    refine w_i2l dX0_drawMonths_35 (by omega) ?_
    refine w_lstore [some (aR 9 0), some (aI x), some (aI (m : Int)), some (aI z), some (aI (h 5 0 3)), some (aJ x), none, none, none, none, none] dX0_drawMonths_36 rfl (by decide) ?_
    refine w_iconst dX0_drawMonths_38 ?_
    refine w_istore [some (aR 9 0), some (aI x), some (aI (m : Int)), some (aI z), some (aI (h 5 0 3)), some (aJ x), none, some (aI 0), none, none, none] dX0_drawMonths_39 rfl (by decide) ?_
    have hG5 : gOk (fwUc (fwUc h 4 5 (h 4 0)) 17 5 (h 17 0)) 5 := ⟨hG.1, hG.2.1, hG.2.2.1, hG.2.2.2.1, hG.2.2.2.2⟩
    refine w_aload_n dX0_drawMonths_41 rfl ?_
    refine w_getr 3 0 dX0_drawMonths_42 fl_X0_9 rfl (by decide) ?_
    refine w_getr 5 0 dX0_drawMonths_45 fl_X0_34 rfl (by decide) ?_
    refine w_aload_n dX0_drawMonths_48 rfl ?_
    refine w_getr 4 5 dX0_drawMonths_49 fl_X0_15 rfl (by decide) ?_
    refine w_iconst dX0_drawMonths_52 ?_
    refine w_callV (d := d + 3) (S := []) [aR 4 5, aI (-1)] dX0_drawMonths_53 ml_X0_44 ok_X3_gainersBy vi_X3_gainersBy rfl rfl (by decide) rfl (Nat.le_of_ble_eq_true rfl) ?_
    refine c_willing5 (d := d) (by first | assumption | omega | decide) (by first | assumption | omega | decide) (show 1 ≤ ((h 4 0) 1) by first | assumption | omega | decide) (by first | assumption | omega | decide) ?_
    intro A2 B3
    show fwWP mX0_drawMonths (d + 4) 56 [some (aR 9 0), some (aI x), some (aI (m : Int)), some (aI z), some (aI (h 5 0 3)), some (aJ x), none, some (aI 0), none, none, none] [aI (mGers (h 4 0 1) (h 17 0) (h 4 0 2) (h 4 0 4) (h 18 0) (h 5 0 3).toNat (-1))] (fwUc (fwUc (fwUc (fwUc h 4 5 (h 4 0)) 17 5 (h 17 0)) 19 0 A2) 20 0 B3) Q
    refine w_istore [some (aR 9 0), some (aI x), some (aI (m : Int)), some (aI z), some (aI (h 5 0 3)), some (aJ x), none, some (aI 0), some (aI (mGers (h 4 0 1) (h 17 0) (h 4 0 2) (h 4 0 4) (h 18 0) (h 5 0 3).toNat (-1))), none, none] dX0_drawMonths_56 rfl (by decide) ?_
    refine w_iconst dX0_drawMonths_58 ?_
    refine w_istore [some (aR 9 0), some (aI x), some (aI (m : Int)), some (aI z), some (aI (h 5 0 3)), some (aJ x), none, some (aI 0), some (aI (mGers (h 4 0 1) (h 17 0) (h 4 0 2) (h 4 0 4) (h 18 0) (h 5 0 3).toNat (-1))), some (aI 0), none] dX0_drawMonths_59 rfl (by decide) ?_
    have lp61 : ∀ c : Nat, c ≤ m → ∀ (y61 xx fe wi : Int) (hh61 : fwH), y61 = (c : Int) → xx = (mDr h x c).1 → fe = (mDr h x c).2.1 → wi = mGers (h 4 0 1) ((mDr h x c).2.2) (h 4 0 2) (h 4 0 4) (h 18 0) (h 5 0 3).toNat (-1) → (∃ A B : Nat → Int, hh61 = (fwUc (fwUc (fwUc (fwUc h 4 5 (h 4 0)) 17 5 ((mDr h x c).2.2)) 19 0 A) 20 0 B)) → fwWP mX0_drawMonths (d + 4) 61 [some (aR 9 0), some (aI x), some (aI (m : Int)), some (aI z), some (aI (h 5 0 3)), some (aJ xx), none, some (aI fe), some (aI wi), some (aI y61), none] [] hh61 Q := by
      refine fw_up (fun c hc61 ih61 => ?_)
      intro y61 xx fe wi hh61 ey61 e_xx e_fe e_wi eh61
      subst ey61
      subst e_xx
      subst e_fe
      subst e_wi
      obtain ⟨A_61, B_61, eh61⟩ := eh61
      subst eh61
      have hH1 : ∀ q : Nat, q < 10 → 0 ≤ (mDr h x c).2.2 q ∧ (mDr h x c).2.2 q ≤ 999 := mDr_rng ⟨g1, g2⟩ hhc (fun q hq => ⟨(g8 q hq).1, hM q hq⟩) c
      have hH2 : ∀ q : Nat, q < 10 → 0 ≤ (mDr h x c).2.2 q ∧ (mDr h x c).2.2 q ≤ 1000 := fun q hq => by have := hH1 q hq; omega
      have hG5 := gOk_tr hG hH2 A_61 B_61
      have hdn := mDr_n h x c
      show fwWP mX0_drawMonths (d + 4) 61 [some (aR 9 0), some (aI x), some (aI (m : Int)), some (aI z), some (aI (h 5 0 3)), some (aJ ((mDr h x c).1)), none, some (aI ((mDr h x c).2.1)), some (aI (mGers (h 4 0 1) ((mDr h x c).2.2) (h 4 0 2) (h 4 0 4) (h 18 0) (h 5 0 3).toNat (-1))), some (aI (c : Int)), none] [] (fwUc (fwUc (fwUc (fwUc h 4 5 (h 4 0)) 17 5 ((mDr h x c).2.2)) 19 0 A_61) 20 0 B_61) Q
      refine w_iload dX0_drawMonths_61 rfl ?_
      refine w_iload_n dX0_drawMonths_63 rfl ?_
      refine w_icmp_ge 178 dX0_drawMonths_64 (by decide) (by omega) (by omega) (fun c64 => ?_) (fun c64 => ?_)
      · refine w_iload dX0_drawMonths_178 rfl ?_
        have e9 : mDrawn h x c = (mDr h x c).2 := by rw [mDrawn, if_neg (by omega)]
        have k9 := k c A_61 B_61 (by omega) (by rw [e9]; omega)
        rw [e9] at k9
        exact w_iret dX0_drawMonths_180 rfl k9
      · refine w_iload dX0_drawMonths_67 rfl ?_
        refine w_iload_n dX0_drawMonths_69 rfl ?_
        refine w_icmp_ge 178 dX0_drawMonths_70 (by decide) (by omega) (by omega) (fun c70 => ?_) (fun c70 => ?_)
        · refine w_iload dX0_drawMonths_178 rfl ?_
          have e9 : mDrawn h x c = (mDr h x c).2 := by rw [mDrawn, if_neg (by omega)]
          have k9 := k c A_61 B_61 (by omega) (by rw [e9]; omega)
          rw [e9] at k9
          exact w_iret dX0_drawMonths_180 rfl k9
        · refine w_ldc2 (n := 1103515245) dX0_drawMonths_73 cs_X0_68 ?_
          refine w_lload dX0_drawMonths_76 rfl ?_
          refine w_lmul dX0_drawMonths_78 ?_
          refine w_ldc2 (n := 12345) dX0_drawMonths_79 cs_X0_70 ?_
          refine w_ladd dX0_drawMonths_82 ?_
          refine w_ldc2 (n := 2147483647) dX0_drawMonths_83 cs_X0_72 ?_
          refine w_land dX0_drawMonths_86 ?_
          refine w_lstore [some (aR 9 0), some (aI x), some (aI (m : Int)), some (aI z), some (aI (h 5 0 3)), some (aJ (fwLand ((1103515245 * ((mDr h x c).1)) + 12345) 2147483647)), none, some (aI ((mDr h x c).2.1)), some (aI (mGers (h 4 0 1) ((mDr h x c).2.2) (h 4 0 2) (h 4 0 4) (h 18 0) (h 5 0 3).toNat (-1))), some (aI (c : Int)), none] dX0_drawMonths_87 rfl (by decide) ?_
          refine w_iconst dX0_drawMonths_89 ?_
          refine w_lload dX0_drawMonths_90 rfl ?_
          refine w_ldc2 (n := 65536) dX0_drawMonths_92 cs_X0_74 ?_
          refine w_ldiv dX0_drawMonths_95 (by omega) (by omega) ?_
          refine w_iload dX0_drawMonths_96 rfl ?_
          refine w_i2l dX0_drawMonths_98 (by omega) ?_
          refine w_lrem dX0_drawMonths_99 (by omega) (by omega) ?_
          refine w_l2i dX0_drawMonths_100 ?_
          refine w_ishl dX0_drawMonths_101 ?_
          refine w_istore [some (aR 9 0), some (aI x), some (aI (m : Int)), some (aI z), some (aI (h 5 0 3)), some (aJ (fwLand ((1103515245 * ((mDr h x c).1)) + 12345) 2147483647)), none, some (aI ((mDr h x c).2.1)), some (aI (mGers (h 4 0 1) ((mDr h x c).2.2) (h 4 0 2) (h 4 0 4) (h 18 0) (h 5 0 3).toNat (-1))), some (aI (c : Int)), some (aI (fwShl 1 (fwLrem (fwLdiv (fwLand ((1103515245 * ((mDr h x c).1)) + 12345) 2147483647) 65536) (h 5 0 3))))] dX0_drawMonths_102 rfl (by decide) ?_
          change fwWP mX0_drawMonths (d + 4) 104 [some (aR 9 0), some (aI x), some (aI (m : Int)), some (aI z), some (aI (h 5 0 3)), some (aJ (mNx (mDr h x c).1)), none, some (aI ((mDr h x c).2.1)), some (aI (mGers (h 4 0 1) ((mDr h x c).2.2) (h 4 0 2) (h 4 0 4) (h 18 0) (h 5 0 3).toNat (-1))), some (aI (c : Int)), some (aI (mWon h (mNx (mDr h x c).1)))] [] (fwUc (fwUc (fwUc (fwUc h 4 5 (h 4 0)) 17 5 ((mDr h x c).2.2)) 19 0 A_61) 20 0 B_61) Q
          refine w_aload_n dX0_drawMonths_104 rfl ?_
          refine w_getr 3 0 dX0_drawMonths_105 fl_X0_9 rfl (by decide) ?_
          refine w_iload dX0_drawMonths_108 rfl ?_
          refine w_iload dX0_drawMonths_110 rfl ?_
          refine w_ior dX0_drawMonths_112 ?_
          refine w_iconst dX0_drawMonths_113 ?_
          refine w_callV (d := d + 3) (S := []) [aI (fwOr (mGers (h 4 0 1) ((mDr h x c).2.2) (h 4 0 2) (h 4 0 4) (h 18 0) (h 5 0 3).toNat (-1)) (mWon h (mNx (mDr h x c).1))), aI 0] dX0_drawMonths_114 ml_X0_76 ok_X2_isEnough vi_X2_isEnough rfl rfl (by decide) rfl (Nat.le_of_ble_eq_true rfl) ?_
          refine c_X2_isEnough (d := (d + 1)) (fwOr (mGers (h 4 0 1) ((mDr h x c).2.2) (h 4 0 2) (h 4 0 4) (h 18 0) (h 5 0 3).toNat (-1)) (mWon h (mNx (mDr h x c).1))) 0 (by first | assumption | omega | decide) (by first | assumption | omega | decide) ?_
          show fwWP mX0_drawMonths (d + 4) 117 [some (aR 9 0), some (aI x), some (aI (m : Int)), some (aI z), some (aI (h 5 0 3)), some (aJ (mNx (mDr h x c).1)), none, some (aI ((mDr h x c).2.1)), some (aI (mGers (h 4 0 1) ((mDr h x c).2.2) (h 4 0 2) (h 4 0 4) (h 18 0) (h 5 0 3).toNat (-1))), some (aI (c : Int)), some (aI (mWon h (mNx (mDr h x c).1)))] [aI (fwB (mEno (h 18 0) (h 5 0 3).toNat (h 3 0 4) (fwOr (mGers (h 4 0 1) ((mDr h x c).2.2) (h 4 0 2) (h 4 0 4) (h 18 0) (h 5 0 3).toNat (-1)) (mWon h (mNx (mDr h x c).1))) 0))] (fwUc (fwUc (fwUc (fwUc h 4 5 (h 4 0)) 17 5 ((mDr h x c).2.2)) 19 0 A_61) 20 0 B_61) Q
          refine w_ifB_eq 172 dX0_drawMonths_117 (by decide) (fun ce => ?_) (fun ce => ?_)
          · refine w_iinc [some (aR 9 0), some (aI x), some (aI (m : Int)), some (aI z), some (aI (h 5 0 3)), some (aJ (mNx (mDr h x c).1)), none, some (aI ((mDr h x c).2.1)), some (aI (mGers (h 4 0 1) ((mDr h x c).2.2) (h 4 0 2) (h 4 0 4) (h 18 0) (h 5 0 3).toNat (-1))), some (aI ((c : Int) + 1)), some (aI (mWon h (mNx (mDr h x c).1)))] dX0_drawMonths_172 rfl rfl (by decide) ?_
            refine w_goto 61 dX0_drawMonths_175 (by decide) ?_
            refine w_drop [10] [some (aR 9 0), some (aI x), some (aI (m : Int)), some (aI z), some (aI (h 5 0 3)), some (aJ (mNx (mDr h x c).1)), none, some (aI ((mDr h x c).2.1)), some (aI (mGers (h 4 0 1) ((mDr h x c).2.2) (h 4 0 2) (h 4 0 4) (h 18 0) (h 5 0 3).toNat (-1))), some (aI ((c : Int) + 1)), none] rfl ?_
            refine ih61 (by omega) _ _ _ _ _ ?_ ?_ ?_ ?_ ?_
            · exact (by omega)
            · exact (by rw [mDr, if_neg (show ¬ mDrOk h (mNx (mDr h x c).1) (mDr h x c).2.2 = true from fun q => ce (of_decide_eq_true q).1)])
            · exact (by rw [mDr, if_neg (show ¬ mDrOk h (mNx (mDr h x c).1) (mDr h x c).2.2 = true from fun q => ce (of_decide_eq_true q).1)])
            · exact (by rw [mDr, if_neg (show ¬ mDrOk h (mNx (mDr h x c).1) (mDr h x c).2.2 = true from fun q => ce (of_decide_eq_true q).1)])
            · exact ⟨_, _, by rw [mDr, if_neg (show ¬ mDrOk h (mNx (mDr h x c).1) (mDr h x c).2.2 = true from fun q => ce (of_decide_eq_true q).1)]⟩
          · refine w_aload_n dX0_drawMonths_120 rfl ?_
            refine w_getr 4 5 dX0_drawMonths_121 fl_X0_15 rfl (by decide) ?_
            refine w_callV (d := d + 3) (S := []) [] dX0_drawMonths_124 ml_X0_30 ok_X1_lower vi_X1_lower rfl rfl (by decide) rfl (Nat.le_of_ble_eq_true rfl) ?_
            refine c_X1_lower (d := (d + 1)) 5 (by decide) (by first | assumption | omega | decide) ?_
            show fwWP mX0_drawMonths (d + 4) 127 [some (aR 9 0), some (aI x), some (aI (m : Int)), some (aI z), some (aI (h 5 0 3)), some (aJ (mNx (mDr h x c).1)), none, some (aI ((mDr h x c).2.1)), some (aI (mGers (h 4 0 1) ((mDr h x c).2.2) (h 4 0 2) (h 4 0 4) (h 18 0) (h 5 0 3).toNat (-1))), some (aI (c : Int)), some (aI (mWon h (mNx (mDr h x c).1)))] [aI (fwB (0 < ((h 4 0) 1).toNat ∧ ((mDr h x c).2.2) (mTop ((mDr h x c).2.2) ((h 4 0) 4) ((h 4 0) 1).toNat).toNat ≠ 0))] (fwUc (fwUc (fwUc (fwUc (fwUc h 4 5 (h 4 0)) 17 5 ((mDr h x c).2.2)) 19 0 A_61) 20 0 B_61) 17 5 (mLow ((h 4 0) 1).toNat ((mDr h x c).2.2) ((h 4 0) 4))) Q
            rw [show fwUc (fwUc (fwUc (fwUc (fwUc h 4 5 (h 4 0)) 17 5 ((mDr h x c).2.2)) 19 0 A_61) 20 0 B_61) 17 5 (mLow ((h 4 0) 1).toNat ((mDr h x c).2.2) ((h 4 0) 4)) = (fwUc (fwUc (fwUc (fwUc h 4 5 (h 4 0)) 17 5 (mLow ((h 4 0) 1).toNat ((mDr h x c).2.2) ((h 4 0) 4))) 19 0 A_61) 20 0 B_61) from by funext a b; simp only [fwUc]; (repeat' split); all_goals first | rfl | (exfalso; omega)]
            refine w_ifB_eq 172 dX0_drawMonths_127 (by decide) (fun cl => ?_) (fun cl => ?_)
            · refine w_iinc [some (aR 9 0), some (aI x), some (aI (m : Int)), some (aI z), some (aI (h 5 0 3)), some (aJ (mNx (mDr h x c).1)), none, some (aI ((mDr h x c).2.1)), some (aI (mGers (h 4 0 1) ((mDr h x c).2.2) (h 4 0 2) (h 4 0 4) (h 18 0) (h 5 0 3).toNat (-1))), some (aI ((c : Int) + 1)), some (aI (mWon h (mNx (mDr h x c).1)))] dX0_drawMonths_172 rfl rfl (by decide) ?_
              refine w_goto 61 dX0_drawMonths_175 (by decide) ?_
              refine w_drop [10] [some (aR 9 0), some (aI x), some (aI (m : Int)), some (aI z), some (aI (h 5 0 3)), some (aJ (mNx (mDr h x c).1)), none, some (aI ((mDr h x c).2.1)), some (aI (mGers (h 4 0 1) ((mDr h x c).2.2) (h 4 0 2) (h 4 0 4) (h 18 0) (h 5 0 3).toNat (-1))), some (aI ((c : Int) + 1)), none] rfl ?_
              refine ih61 (by omega) _ _ _ _ _ ?_ ?_ ?_ ?_ ?_
              · exact (by omega)
              · exact (by rw [mDr, if_neg (show ¬ mDrOk h (mNx (mDr h x c).1) (mDr h x c).2.2 = true from fun q => cl (of_decide_eq_true q).2)])
              · exact (by rw [mDr, if_neg (show ¬ mDrOk h (mNx (mDr h x c).1) (mDr h x c).2.2 = true from fun q => cl (of_decide_eq_true q).2)])
              · exact (by rw [mDr, if_neg (show ¬ mDrOk h (mNx (mDr h x c).1) (mDr h x c).2.2 = true from fun q => cl (of_decide_eq_true q).2)])
              · exact ⟨_, _, by rw [mDr, if_neg (show ¬ mDrOk h (mNx (mDr h x c).1) (mDr h x c).2.2 = true from fun q => cl (of_decide_eq_true q).2)]; dsimp only; rw [mLow, if_neg cl]⟩
            · have hL1 : ∀ q : Nat, q < 10 → 0 ≤ (mLow (h 4 0 1).toNat (mDr h x c).2.2 (h 4 0 4)) q ∧ (mLow (h 4 0 1).toNat (mDr h x c).2.2 (h 4 0 4)) q ≤ 999 := mLow_rng (by omega) hH1
              have hL2 : ∀ q : Nat, q < 10 → 0 ≤ (mLow (h 4 0 1).toNat (mDr h x c).2.2 (h 4 0 4)) q ∧ (mLow (h 4 0 1).toNat (mDr h x c).2.2 (h 4 0 4)) q ≤ 1000 := fun q hq => by have := hL1 q hq; omega
              have hG6 := gOk_tr hG hL2 A_61 B_61
              have hsr := mStay_rng (mLow (h 4 0 1).toNat (mDr h x c).2.2 (h 4 0 4)) (n := h 4 0 1) (rs := h 4 0 3) (x := h 3 0 5) ⟨g1, g2⟩ hhc
              refine w_iinc [some (aR 9 0), some (aI x), some (aI (m : Int)), some (aI z), some (aI (h 5 0 3)), some (aJ (mNx (mDr h x c).1)), none, some (aI (((mDr h x c).2.1) + 1)), some (aI (mGers (h 4 0 1) ((mDr h x c).2.2) (h 4 0 2) (h 4 0 4) (h 18 0) (h 5 0 3).toNat (-1))), some (aI (c : Int)), some (aI (mWon h (mNx (mDr h x c).1)))] dX0_drawMonths_130 rfl rfl (by decide) ?_
              refine w_aload_n dX0_drawMonths_133 rfl ?_
              refine w_getr 4 5 dX0_drawMonths_134 fl_X0_15 rfl (by decide) ?_
              refine w_aload_n dX0_drawMonths_137 rfl ?_
              refine w_getr 4 5 dX0_drawMonths_138 fl_X0_15 rfl (by decide) ?_
              refine w_aload_n dX0_drawMonths_141 rfl ?_
              refine w_getr 3 0 dX0_drawMonths_142 fl_X0_9 rfl (by decide) ?_
              refine w_getiE (v := h 3 0 5) dX0_drawMonths_145 fl_X0_80 rfl (by decide) (by first | rfl | simp [fwUp, fwUc]) ?_
              refine w_callV (d := d + 3) (S := [aR 4 5]) [aI (h 3 0 5)] dX0_drawMonths_148 ml_X0_83 ok_X1_stayOf vi_X1_stayOf rfl rfl (by decide) rfl (Nat.le_of_ble_eq_true rfl) ?_
              refine c_X1_stayOf (d := d) 5 (h 3 0 5) (by decide) (by first | assumption | omega | decide) (by first | assumption | omega | decide) ?_
              show fwWP mX0_drawMonths (d + 4) 151 [some (aR 9 0), some (aI x), some (aI (m : Int)), some (aI z), some (aI (h 5 0 3)), some (aJ (mNx (mDr h x c).1)), none, some (aI (((mDr h x c).2.1) + 1)), some (aI (mGers (h 4 0 1) ((mDr h x c).2.2) (h 4 0 2) (h 4 0 4) (h 18 0) (h 5 0 3).toNat (-1))), some (aI (c : Int)), some (aI (mWon h (mNx (mDr h x c).1)))] [aI (mStay ((h 4 0) 1) (mLow ((h 4 0) 1).toNat ((mDr h x c).2.2) ((h 4 0) 4)) ((h 4 0) 3) (h 3 0 5)), aR 4 5] (fwUc (fwUc (fwUc (fwUc h 4 5 (h 4 0)) 17 5 (mLow ((h 4 0) 1).toNat ((mDr h x c).2.2) ((h 4 0) 4))) 19 0 A_61) 20 0 B_61) Q
              refine w_iconst dX0_drawMonths_151 ?_
              refine w_callV (d := d + 3) (S := []) [aI (mStay ((h 4 0) 1) (mLow ((h 4 0) 1).toNat ((mDr h x c).2.2) ((h 4 0) 4)) ((h 4 0) 3) (h 3 0 5)), aI 1] dX0_drawMonths_152 ml_X0_86 ok_X1_change vi_X1_change rfl rfl (by decide) rfl (Nat.le_of_ble_eq_true rfl) ?_
              refine c_X1_changeN (d := (d + 2)) 5 (mStay ((h 4 0) 1) (mLow ((h 4 0) 1).toNat ((mDr h x c).2.2) ((h 4 0) 4)) ((h 4 0) 3) (h 3 0 5)) 1 (by decide) (by first | assumption | omega | decide) (show mStay ((h 4 0) 1) (mLow ((h 4 0) 1).toNat ((mDr h x c).2.2) ((h 4 0) 4)) ((h 4 0) 3) (h 3 0 5) = -1 ∨ (0 ≤ mStay ((h 4 0) 1) (mLow ((h 4 0) 1).toNat ((mDr h x c).2.2) ((h 4 0) 4)) ((h 4 0) 3) (h 3 0 5) ∧ mStay ((h 4 0) 1) (mLow ((h 4 0) 1).toNat ((mDr h x c).2.2) ((h 4 0) 4)) ((h 4 0) 3) (h 3 0 5) < (h 4 0) 1) by first | assumption | omega | decide) ?_
              show fwWP mX0_drawMonths (d + 4) 155 [some (aR 9 0), some (aI x), some (aI (m : Int)), some (aI z), some (aI (h 5 0 3)), some (aJ (mNx (mDr h x c).1)), none, some (aI (((mDr h x c).2.1) + 1)), some (aI (mGers (h 4 0 1) ((mDr h x c).2.2) (h 4 0 2) (h 4 0 4) (h 18 0) (h 5 0 3).toNat (-1))), some (aI (c : Int)), some (aI (mWon h (mNx (mDr h x c).1)))] [] (fwUc (fwUc (fwUc (fwUc (fwUc h 4 5 (h 4 0)) 17 5 (mLow ((h 4 0) 1).toNat ((mDr h x c).2.2) ((h 4 0) 4))) 19 0 A_61) 20 0 B_61) 17 5 (if mStay ((h 4 0) 1) (mLow ((h 4 0) 1).toNat ((mDr h x c).2.2) ((h 4 0) 4)) ((h 4 0) 3) (h 3 0 5) = -1 then (mLow ((h 4 0) 1).toNat ((mDr h x c).2.2) ((h 4 0) 4)) else fwFu ((mLow ((h 4 0) 1).toNat ((mDr h x c).2.2) ((h 4 0) 4))) (mStay ((h 4 0) 1) (mLow ((h 4 0) 1).toNat ((mDr h x c).2.2) ((h 4 0) 4)) ((h 4 0) 3) (h 3 0 5)).toNat ((mLow ((h 4 0) 1).toNat ((mDr h x c).2.2) ((h 4 0) 4)) (mStay ((h 4 0) 1) (mLow ((h 4 0) 1).toNat ((mDr h x c).2.2) ((h 4 0) 4)) ((h 4 0) 3) (h 3 0 5)).toNat + 1))) Q
              rw [show fwUc (fwUc (fwUc (fwUc (fwUc h 4 5 (h 4 0)) 17 5 (mLow ((h 4 0) 1).toNat ((mDr h x c).2.2) ((h 4 0) 4))) 19 0 A_61) 20 0 B_61) 17 5 (if mStay ((h 4 0) 1) (mLow ((h 4 0) 1).toNat ((mDr h x c).2.2) ((h 4 0) 4)) ((h 4 0) 3) (h 3 0 5) = -1 then (mLow ((h 4 0) 1).toNat ((mDr h x c).2.2) ((h 4 0) 4)) else fwFu ((mLow ((h 4 0) 1).toNat ((mDr h x c).2.2) ((h 4 0) 4))) (mStay ((h 4 0) 1) (mLow ((h 4 0) 1).toNat ((mDr h x c).2.2) ((h 4 0) 4)) ((h 4 0) 3) (h 3 0 5)).toNat ((mLow ((h 4 0) 1).toNat ((mDr h x c).2.2) ((h 4 0) 4)) (mStay ((h 4 0) 1) (mLow ((h 4 0) 1).toNat ((mDr h x c).2.2) ((h 4 0) 4)) ((h 4 0) 3) (h 3 0 5)).toNat + 1)) = (fwUc (fwUc (fwUc (fwUc h 4 5 (h 4 0)) 17 5 (if mStay ((h 4 0) 1) (mLow ((h 4 0) 1).toNat ((mDr h x c).2.2) ((h 4 0) 4)) ((h 4 0) 3) (h 3 0 5) = -1 then (mLow ((h 4 0) 1).toNat ((mDr h x c).2.2) ((h 4 0) 4)) else fwFu ((mLow ((h 4 0) 1).toNat ((mDr h x c).2.2) ((h 4 0) 4))) (mStay ((h 4 0) 1) (mLow ((h 4 0) 1).toNat ((mDr h x c).2.2) ((h 4 0) 4)) ((h 4 0) 3) (h 3 0 5)).toNat ((mLow ((h 4 0) 1).toNat ((mDr h x c).2.2) ((h 4 0) 4)) (mStay ((h 4 0) 1) (mLow ((h 4 0) 1).toNat ((mDr h x c).2.2) ((h 4 0) 4)) ((h 4 0) 3) (h 3 0 5)).toNat + 1))) 19 0 A_61) 20 0 B_61) from by funext a b; simp only [fwUc]; (repeat' split); all_goals first | rfl | (exfalso; omega)]
              change fwWP mX0_drawMonths (d + 4) 155 [some (aR 9 0), some (aI x), some (aI (m : Int)), some (aI z), some (aI (h 5 0 3)), some (aJ (mNx (mDr h x c).1)), none, some (aI (((mDr h x c).2.1) + 1)), some (aI (mGers (h 4 0 1) ((mDr h x c).2.2) (h 4 0 2) (h 4 0 4) (h 18 0) (h 5 0 3).toNat (-1))), some (aI (c : Int)), some (aI (mWon h (mNx (mDr h x c).1)))] [] (fwUc (fwUc (fwUc (fwUc h 4 5 (h 4 0)) 17 5 (mDrH h (mDr h x c).2.2)) 19 0 A_61) 20 0 B_61) Q
              have hD1 : ∀ q : Nat, q < 10 → 0 ≤ mDrH h (mDr h x c).2.2 q ∧ mDrH h (mDr h x c).2.2 q ≤ 999 := mRs_rng ⟨g1, g2⟩ hhc (by omega) hL1
              have hD2 : ∀ q : Nat, q < 10 → 0 ≤ mDrH h (mDr h x c).2.2 q ∧ mDrH h (mDr h x c).2.2 q ≤ 1000 := fun q hq => by have := hD1 q hq; omega
              have hG7 := gOk_tr hG hD2 A_61 B_61
              have hM7 : ∀ q : Nat, q < 10 → mDrH h (mDr h x c).2.2 q ≤ 999 := fun q hq => (hD1 q hq).2
              refine w_aload_n dX0_drawMonths_155 rfl ?_
              refine w_getr 3 0 dX0_drawMonths_156 fl_X0_9 rfl (by decide) ?_
              refine w_getr 5 0 dX0_drawMonths_159 fl_X0_34 rfl (by decide) ?_
              refine w_aload_n dX0_drawMonths_162 rfl ?_
              refine w_getr 4 5 dX0_drawMonths_163 fl_X0_15 rfl (by decide) ?_
              refine w_iconst dX0_drawMonths_166 ?_
              refine w_callV (d := d + 3) (S := []) [aR 4 5, aI (-1)] dX0_drawMonths_167 ml_X0_44 ok_X3_gainersBy vi_X3_gainersBy rfl rfl (by decide) rfl (Nat.le_of_ble_eq_true rfl) ?_
              refine c_willing5 (d := d) (by first | assumption | omega | decide) (by first | assumption | omega | decide) (show 1 ≤ ((h 4 0) 1) by first | assumption | omega | decide) (by first | assumption | omega | decide) ?_
              intro A8 B9
              show fwWP mX0_drawMonths (d + 4) 170 [some (aR 9 0), some (aI x), some (aI (m : Int)), some (aI z), some (aI (h 5 0 3)), some (aJ (mNx (mDr h x c).1)), none, some (aI (((mDr h x c).2.1) + 1)), some (aI (mGers (h 4 0 1) ((mDr h x c).2.2) (h 4 0 2) (h 4 0 4) (h 18 0) (h 5 0 3).toNat (-1))), some (aI (c : Int)), some (aI (mWon h (mNx (mDr h x c).1)))] [aI (mGers (h 4 0 1) (mDrH h ((mDr h x c).2.2)) (h 4 0 2) (h 4 0 4) (h 18 0) (h 5 0 3).toNat (-1))] (fwUc (fwUc (fwUc (fwUc (fwUc (fwUc h 4 5 (h 4 0)) 17 5 (mDrH h (mDr h x c).2.2)) 19 0 A_61) 20 0 B_61) 19 0 A8) 20 0 B9) Q
              rw [show fwUc (fwUc (fwUc (fwUc (fwUc (fwUc h 4 5 (h 4 0)) 17 5 (mDrH h (mDr h x c).2.2)) 19 0 A_61) 20 0 B_61) 19 0 A8) 20 0 B9 = (fwUc (fwUc (fwUc (fwUc h 4 5 (h 4 0)) 17 5 (mDrH h (mDr h x c).2.2)) 19 0 A8) 20 0 B9) from by funext a b; simp only [fwUc]; (repeat' split); all_goals first | rfl | (exfalso; omega)]
              refine w_istore [some (aR 9 0), some (aI x), some (aI (m : Int)), some (aI z), some (aI (h 5 0 3)), some (aJ (mNx (mDr h x c).1)), none, some (aI (((mDr h x c).2.1) + 1)), some (aI (mGers (h 4 0 1) (mDrH h ((mDr h x c).2.2)) (h 4 0 2) (h 4 0 4) (h 18 0) (h 5 0 3).toNat (-1))), some (aI (c : Int)), some (aI (mWon h (mNx (mDr h x c).1)))] dX0_drawMonths_170 rfl (by decide) ?_
              refine w_iinc [some (aR 9 0), some (aI x), some (aI (m : Int)), some (aI z), some (aI (h 5 0 3)), some (aJ (mNx (mDr h x c).1)), none, some (aI (((mDr h x c).2.1) + 1)), some (aI (mGers (h 4 0 1) (mDrH h ((mDr h x c).2.2)) (h 4 0 2) (h 4 0 4) (h 18 0) (h 5 0 3).toNat (-1))), some (aI ((c : Int) + 1)), some (aI (mWon h (mNx (mDr h x c).1)))] dX0_drawMonths_172 rfl rfl (by decide) ?_
              refine w_goto 61 dX0_drawMonths_175 (by decide) ?_
              refine w_drop [10] [some (aR 9 0), some (aI x), some (aI (m : Int)), some (aI z), some (aI (h 5 0 3)), some (aJ (mNx (mDr h x c).1)), none, some (aI (((mDr h x c).2.1) + 1)), some (aI (mGers (h 4 0 1) (mDrH h ((mDr h x c).2.2)) (h 4 0 2) (h 4 0 4) (h 18 0) (h 5 0 3).toNat (-1))), some (aI ((c : Int) + 1)), none] rfl ?_
              refine ih61 (by omega) _ _ _ _ _ ?_ ?_ ?_ ?_ ?_
              · exact (by omega)
              · exact (by rw [mDr, if_pos (show mDrOk h (mNx (mDr h x c).1) (mDr h x c).2.2 = true from decide_eq_true ⟨ce, cl⟩)])
              · exact (by rw [mDr, if_pos (show mDrOk h (mNx (mDr h x c).1) (mDr h x c).2.2 = true from decide_eq_true ⟨ce, cl⟩)])
              · exact (by rw [mDr, if_pos (show mDrOk h (mNx (mDr h x c).1) (mDr h x c).2.2 = true from decide_eq_true ⟨ce, cl⟩)])
              · exact ⟨_, _, by rw [mDr, if_pos (show mDrOk h (mNx (mDr h x c).1) (mDr h x c).2.2 = true from decide_eq_true ⟨ce, cl⟩)]⟩
    refine lp61 0 (Nat.zero_le _) _ _ _ _ _ ?_ ?_ ?_ ?_ ?_
    · exact (by omega)
    · exact rfl
    · exact rfl
    · exact rfl
    · exact ⟨_, _, rfl⟩
  · refine w_iconst dX0_drawMonths_32 ?_
    have e9 : mDrawn h x m = (0, h 17 0) := by rw [mDrawn, if_pos (by omega)]
    have k9 := k m (h 19 0) (h 20 0) (Nat.le_refl _) (Or.inl rfl)
    rw [e9] at k9
    rw [← fwAB h (h 17 0)]
    exact w_iret dX0_drawMonths_33 rfl k9
theorem c_X0_drawMonths {d : Nat} {h : fwH} {Q : Option fwV → fwH → Prop} (x : Int) (m : Nat) (hP : pOk h 0) (hG : gOk h 0) (hn : 1 ≤ h 4 0 1) (hM : ∀ c : Nat, c < 10 → h 17 0 c ≤ 999) (hlw : 0 ≤ h 3 0 4 ∧ h 3 0 4 ≤ 999) (hhc : 0 ≤ h 3 0 5 ∧ h 3 0 5 < h 4 0 1) (hx : -2147483648 ≤ x ∧ x < 2147483648) (hmm : m ≤ 1000) (hm4 : m ≤ 40) (k : ∀ A B, Q (some (aI ((mDrawn h x m).1))) (fwUc (fwUc (fwUc (fwUc h 4 5 (h 4 0)) 17 5 ((mDrawn h x m).2)) 19 0 A) 20 0 B)) : fwCt mX0_drawMonths (d + 4) [aR 9 0, aI x, aI (m : Int), aI 40] h Q := by
  refine c_X0_drawMonthsU x m 40 hP hG hn hM hlw hhc hx hmm (by omega) (fun u A B hu hz => ?_)
  have h1 := mDrawn_rng h x u
  have e : u = m := by omega
  subst e
  exact k A B
end
section
/-! FootLower$Shaper -/
theorem fwFu_dn (H : Nat → Int) (t : Nat) : fwFu (fwFu H t (H t + -1)) t (fwFu H t (H t + -1) t + 1) = H := by
  have := fwFu_back H t (-1)
  exact this
theorem fwFu_ub (H : Nat → Int) (t : Nat) : fwFu (fwFu H t (H t + 1)) t (fwFu H t (H t + 1) t + -1) = H := fwFu_back H t 1
/-- GAIN of a FOLK with a FOOT taken from a CELL -/
def mGn (h : fwH) (c f : Nat) : Int := mGain (h 4 0 1) (fwFu (h 17 0) c (h 17 0 c + -1)) (h 4 0 2) (h 18 0) f
def mWt (h : fwH) : Nat → (Nat → Int)
  | 0 => h 26 0
  | c + 1 => if 0 < h 17 0 c then fwFlA (mGn h c) (mWt h c) (c * 8) (h 5 0 3).toNat else mWt h c
theorem mWt_at {h : fwH} (hp : (h 5 0 3).toNat ≤ 8) : ∀ n c f : Nat, c < n → 0 < h 17 0 c → f < (h 5 0 3).toNat → mWt h n (c * 8 + f) = mGn h c f := by
  intro n
  induction n with
  | zero => intro c f hc; omega
  | succ n ih =>
    intro c f hc h0 hf
    rw [mWt]
    by_cases e : c = n
    · subst e
      rw [if_pos h0]
      exact fwFlA_in hf
    · split
      · unfold fwFlA
        rw [if_neg (by omega)]
        exact ih c f (by omega) h0 hf
      · exact ih c f (by omega) h0 hf
theorem mGn_rng {h : fwH} (hP : pOk h 0) (hG : gOk h 0) (c : Nat) (hc : c < 10) (h0 : 0 < h 17 0 c) (f : Nat) (hf : f < 8) : 0 ≤ mGn h c f ∧ mGn h c f ≤ 27000 := by
  have h1 := hP.2 f hf
  have h2 := hG.2.2.2.2 c hc
  exact mGain_rng hG.1.2 (fwFu_rng hG.2.2.2.2 (by omega)) h1.2.2.1 h1.2.2.2.1 h1.2.2.2.2.1
set_option maxRecDepth 100000 in
set_option maxHeartbeats 4000000 in
theorem c_X7_weighCells {d : Nat} {h : fwH} {Q : Option fwV → fwH → Prop}  (hP : pOk h 0) (hG : gOk h 0) (hn : 1 ≤ h 4 0 1) (hM : ∀ c : Nat, c < 10 → h 17 0 c ≤ 999) (k : Q none (fwUc (fwUc (fwUc h 4 5 (h 4 0)) 17 5 (h 17 0)) 26 0 (mWt h (h 4 0 1).toNat))) : fwCt mX7_weighCells (d + 3) [aR 8 0] h Q := by
  refine fwCt_of [some (aR 8 0), none] rfl rfl rfl ?_
  obtain ⟨⟨g1, g2⟩, ⟨g3, g4⟩, ⟨g5, g6⟩, g7, g8⟩ := id hG
  have hpz := hP.1
  refine w_aload_n dX7_weighCells_0 rfl ?_
  refine w_getr 4 5 dX7_weighCells_1 fl_X7_25 rfl (by decide) ?_
  refine w_aload_n dX7_weighCells_4 rfl ?_
  refine w_getr 3 0 dX7_weighCells_5 fl_X7_21 rfl (by decide) ?_
  refine w_getr 4 0 dX7_weighCells_8 fl_X7_29 rfl (by decide) ?_
  refine w_callV (d := d + 2) (S := []) [aR 4 0] dX7_weighCells_11 ml_X7_34 ok_X1_copyFrom vi_X1_copyFrom rfl rfl (by decide) rfl (Nat.le_of_ble_eq_true rfl) ?_
  refine c_X1_copyFrom (d := (d + 2)) 5 0 (by decide) (by decide) (by first | assumption | omega | decide) (by first | assumption | omega | decide) ?_
  show fwWP mX7_weighCells (d + 3) 14 [some (aR 8 0), none] [] (fwUc (fwUc h 17 5 (h 17 0)) 4 5 (h 4 0)) Q
  rw [show fwUc (fwUc h 17 5 (h 17 0)) 4 5 (h 4 0) = (fwUc (fwUc h 4 5 (h 4 0)) 17 5 (h 17 0)) from by funext a b; simp only [fwUc]; (repeat' split); all_goals first | rfl | (exfalso; omega)]
  refine w_iconst dX7_weighCells_14 ?_
  refine w_istore_n [some (aR 8 0), some (aI 0)] dX7_weighCells_15 rfl (by decide) ?_
  have lp16 : ∀ c : Nat, c ≤ (h 4 0 1).toNat → ∀ (y16  : Int) (hh16 : fwH), y16 = (c : Int) → hh16 = (fwUc (fwUc (fwUc h 4 5 (h 4 0)) 17 5 (h 17 0)) 26 0 (mWt h c)) → fwWP mX7_weighCells (d + 3) 16 [some (aR 8 0), some (aI y16)] [] hh16 Q := by
    refine fw_up (fun c hc16 ih16 => ?_)
    intro y16  hh16 ey16 eh16
    subst ey16
    subst eh16
    show fwWP mX7_weighCells (d + 3) 16 [some (aR 8 0), some (aI (c : Int))] [] (fwUc (fwUc (fwUc h 4 5 (h 4 0)) 17 5 (h 17 0)) 26 0 (mWt h c)) Q
    refine w_iload_n dX7_weighCells_16 rfl ?_
    refine w_aload_n dX7_weighCells_17 rfl ?_
    refine w_getr 4 5 dX7_weighCells_18 fl_X7_25 rfl (by decide) ?_
    refine w_getiE (v := (h 4 0) 1) dX7_weighCells_21 fl_X7_40 rfl (by decide) (by first | rfl | simp [fwUp, fwUc]) ?_
    refine w_icmp_ge 84 dX7_weighCells_24 (by decide) (by omega) (by omega) (fun c24 => ?_) (fun c24 => ?_)
    · have ec16 : (h 4 0 1).toNat = c := by omega
      subst ec16
      exact w_vret dX7_weighCells_84 rfl (k)
    · have hG7 : gOk (fwUc (fwUc (fwUc h 4 5 (h 4 0)) 17 5 (h 17 0)) 26 0 (mWt h c)) 5 := ⟨hG.1, hG.2.1, hG.2.2.1, hG.2.2.2.1, hG.2.2.2.2⟩
      refine w_aload_n dX7_weighCells_27 rfl ?_
      refine w_getr 4 5 dX7_weighCells_28 fl_X7_25 rfl (by decide) ?_
      refine w_iload_n dX7_weighCells_31 rfl ?_
      refine w_callV (d := d + 2) (S := []) [aI (c : Int)] dX7_weighCells_32 ml_X7_44 ok_X1_heightOf vi_X1_heightOf rfl rfl (by decide) rfl (Nat.le_of_ble_eq_true rfl) ?_
      refine c_X1_heightOfE (d := (d + 2)) 5 (c : Int) (h 17 0 c) (by decide) (by first | assumption | omega | decide) (by first | assumption | omega | decide) (hOf_in (n := h 4 0 1) (H := h 17 0) (by omega)) ?_
      show fwWP mX7_weighCells (d + 3) 35 [some (aR 8 0), some (aI (c : Int))] [aI (h 17 0 c)] (fwUc (fwUc (fwUc h 4 5 (h 4 0)) 17 5 (h 17 0)) 26 0 (mWt h c)) Q
      have hc1 := g8 c (by omega)
      refine w_if_le 78 dX7_weighCells_35 (by decide) (by omega) (fun c35 => ?_) (fun c35 => ?_)
      · refine w_iinc [some (aR 8 0), some (aI ((c : Int) + 1))] dX7_weighCells_78 rfl rfl (by decide) ?_
        refine w_goto 16 dX7_weighCells_81 (by decide) ?_
        refine ih16 (by omega) _ _ ?_ ?_
        · exact (by omega)
        · exact (by rw [mWt, if_neg (by omega)])
      · have hG7 : gOk (fwUc (fwUc (fwUc h 4 5 (h 4 0)) 17 5 (h 17 0)) 26 0 (mWt h c)) 5 := ⟨hG.1, hG.2.1, hG.2.2.1, hG.2.2.2.1, hG.2.2.2.2⟩
        refine w_aload_n dX7_weighCells_38 rfl ?_
        refine w_getr 4 5 dX7_weighCells_39 fl_X7_25 rfl (by decide) ?_
        refine w_iload_n dX7_weighCells_42 rfl ?_
        refine w_iconst dX7_weighCells_43 ?_
        refine w_callV (d := d + 2) (S := []) [aI (c : Int), aI (-1)] dX7_weighCells_44 ml_X7_48 ok_X1_change vi_X1_change rfl rfl (by decide) rfl (Nat.le_of_ble_eq_true rfl) ?_
        refine c_X1_changeE (d := (d + 1)) 5 (c : Int) (-1) (by decide) (by first | assumption | omega | decide) (by first | assumption | omega | decide) (show (c : Int) < (h 4 0) 1 by first | assumption | omega | decide) ?_
        show fwWP mX7_weighCells (d + 3) 47 [some (aR 8 0), some (aI (c : Int))] [] (fwUc (fwUc (fwUc (fwUc h 4 5 (h 4 0)) 17 5 (h 17 0)) 26 0 (mWt h c)) 17 5 (fwFu ((h 17 0)) ((c : Int)).toNat ((h 17 0) ((c : Int)).toNat + (-1)))) Q
        rw [show fwUc (fwUc (fwUc (fwUc h 4 5 (h 4 0)) 17 5 (h 17 0)) 26 0 (mWt h c)) 17 5 (fwFu ((h 17 0)) ((c : Int)).toNat ((h 17 0) ((c : Int)).toNat + (-1))) = (fwUc (fwUc (fwUc h 4 5 (h 4 0)) 17 5 (fwFu ((h 17 0)) ((c : Int)).toNat ((h 17 0) ((c : Int)).toNat + (-1)))) 26 0 (mWt h c)) from by funext a b; simp only [fwUc]; (repeat' split); all_goals first | rfl | (exfalso; omega)]
        have hG6 : gOk (fwUc (fwUc (fwUc h 4 5 (h 4 0)) 17 5 (fwFu ((h 17 0)) ((c : Int)).toNat ((h 17 0) ((c : Int)).toNat + (-1)))) 26 0 (mWt h c)) 5 := ⟨hG.1, hG.2.1, hG.2.2.1, hG.2.2.2.1, fwFu_rng g8 (by rw [Int.toNat_natCast]; omega)⟩
        refine w_aload_n dX7_weighCells_47 rfl ?_
        refine w_getr 3 0 dX7_weighCells_48 fl_X7_21 rfl (by decide) ?_
        refine w_getr 5 0 dX7_weighCells_51 fl_X7_52 rfl (by decide) ?_
        refine w_aload_n dX7_weighCells_54 rfl ?_
        refine w_getr 4 5 dX7_weighCells_55 fl_X7_25 rfl (by decide) ?_
        refine w_aload_n dX7_weighCells_58 rfl ?_
        refine w_getr 26 0 dX7_weighCells_59 fl_X7_9 rfl (by decide) ?_
        refine w_iload_n dX7_weighCells_62 rfl ?_
        refine w_bipush dX7_weighCells_63 rfl ?_
        refine w_imul dX7_weighCells_65 ?_
        refine w_callV (d := d + 2) (S := []) [aR 4 5, aR 26 0, aI ((c : Int) * 8)] dX7_weighCells_66 ml_X7_56 ok_X3_fillGains vi_X3_fillGains rfl rfl (by decide) rfl (Nat.le_of_ble_eq_true rfl) ?_
        refine c_fillGains26 (d := d) 0 5 (c * 8) (by decide) (by decide) (by first | assumption | omega | decide) (by first | assumption | omega | decide) (by first | assumption | omega | decide) ?_
        show fwWP mX7_weighCells (d + 3) 69 [some (aR 8 0), some (aI (c : Int))] [] (fwUc (fwUc (fwUc (fwUc h 4 5 (h 4 0)) 17 5 (fwFu ((h 17 0)) ((c : Int)).toNat ((h 17 0) ((c : Int)).toNat + (-1)))) 26 0 (mWt h c)) 26 0 (fwFlA (mGain ((h 4 0) 1) (fwFu ((h 17 0)) ((c : Int)).toNat ((h 17 0) ((c : Int)).toNat + (-1))) ((h 4 0) 2) (h 18 0)) ((mWt h c)) (c * 8) (h 5 0 3).toNat)) Q
        rw [show fwUc (fwUc (fwUc (fwUc h 4 5 (h 4 0)) 17 5 (fwFu ((h 17 0)) ((c : Int)).toNat ((h 17 0) ((c : Int)).toNat + (-1)))) 26 0 (mWt h c)) 26 0 (fwFlA (mGain ((h 4 0) 1) (fwFu ((h 17 0)) ((c : Int)).toNat ((h 17 0) ((c : Int)).toNat + (-1))) ((h 4 0) 2) (h 18 0)) ((mWt h c)) (c * 8) (h 5 0 3).toNat) = (fwUc (fwUc (fwUc h 4 5 (h 4 0)) 17 5 (fwFu ((h 17 0)) ((c : Int)).toNat ((h 17 0) ((c : Int)).toNat + (-1)))) 26 0 (fwFlA (mGain ((h 4 0) 1) (fwFu ((h 17 0)) ((c : Int)).toNat ((h 17 0) ((c : Int)).toNat + (-1))) ((h 4 0) 2) (h 18 0)) ((mWt h c)) (c * 8) (h 5 0 3).toNat)) from by funext a b; simp only [fwUc]; (repeat' split); all_goals first | rfl | (exfalso; omega)]
        have hG8 : gOk (fwUc (fwUc (fwUc h 4 5 (h 4 0)) 17 5 (fwFu ((h 17 0)) ((c : Int)).toNat ((h 17 0) ((c : Int)).toNat + (-1)))) 26 0 (fwFlA (mGain ((h 4 0) 1) (fwFu ((h 17 0)) ((c : Int)).toNat ((h 17 0) ((c : Int)).toNat + (-1))) ((h 4 0) 2) (h 18 0)) ((mWt h c)) (c * 8) (h 5 0 3).toNat)) 5 := ⟨hG.1, hG.2.1, hG.2.2.1, hG.2.2.2.1, fwFu_rng g8 (by rw [Int.toNat_natCast]; omega)⟩
        refine w_aload_n dX7_weighCells_69 rfl ?_
        refine w_getr 4 5 dX7_weighCells_70 fl_X7_25 rfl (by decide) ?_
        refine w_iload_n dX7_weighCells_73 rfl ?_
        refine w_iconst dX7_weighCells_74 ?_
        refine w_callV (d := d + 2) (S := []) [aI (c : Int), aI 1] dX7_weighCells_75 ml_X7_48 ok_X1_change vi_X1_change rfl rfl (by decide) rfl (Nat.le_of_ble_eq_true rfl) ?_
        refine c_X1_changeE (d := (d + 1)) 5 (c : Int) 1 (by decide) (by first | assumption | omega | decide) (by first | assumption | omega | decide) (show (c : Int) < (h 4 0) 1 by first | assumption | omega | decide) ?_
        show fwWP mX7_weighCells (d + 3) 78 [some (aR 8 0), some (aI (c : Int))] [] (fwUc (fwUc (fwUc (fwUc h 4 5 (h 4 0)) 17 5 (fwFu ((h 17 0)) ((c : Int)).toNat ((h 17 0) ((c : Int)).toNat + (-1)))) 26 0 (fwFlA (mGain ((h 4 0) 1) (fwFu ((h 17 0)) ((c : Int)).toNat ((h 17 0) ((c : Int)).toNat + (-1))) ((h 4 0) 2) (h 18 0)) ((mWt h c)) (c * 8) (h 5 0 3).toNat)) 17 5 (fwFu ((fwFu ((h 17 0)) ((c : Int)).toNat ((h 17 0) ((c : Int)).toNat + (-1)))) ((c : Int)).toNat ((fwFu ((h 17 0)) ((c : Int)).toNat ((h 17 0) ((c : Int)).toNat + (-1))) ((c : Int)).toNat + 1))) Q
        rw [show fwUc (fwUc (fwUc (fwUc h 4 5 (h 4 0)) 17 5 (fwFu ((h 17 0)) ((c : Int)).toNat ((h 17 0) ((c : Int)).toNat + (-1)))) 26 0 (fwFlA (mGain ((h 4 0) 1) (fwFu ((h 17 0)) ((c : Int)).toNat ((h 17 0) ((c : Int)).toNat + (-1))) ((h 4 0) 2) (h 18 0)) ((mWt h c)) (c * 8) (h 5 0 3).toNat)) 17 5 (fwFu ((fwFu ((h 17 0)) ((c : Int)).toNat ((h 17 0) ((c : Int)).toNat + (-1)))) ((c : Int)).toNat ((fwFu ((h 17 0)) ((c : Int)).toNat ((h 17 0) ((c : Int)).toNat + (-1))) ((c : Int)).toNat + 1)) = (fwUc (fwUc (fwUc h 4 5 (h 4 0)) 17 5 (fwFu ((fwFu ((h 17 0)) ((c : Int)).toNat ((h 17 0) ((c : Int)).toNat + (-1)))) ((c : Int)).toNat ((fwFu ((h 17 0)) ((c : Int)).toNat ((h 17 0) ((c : Int)).toNat + (-1))) ((c : Int)).toNat + 1))) 26 0 (fwFlA (mGain ((h 4 0) 1) (fwFu ((h 17 0)) ((c : Int)).toNat ((h 17 0) ((c : Int)).toNat + (-1))) ((h 4 0) 2) (h 18 0)) ((mWt h c)) (c * 8) (h 5 0 3).toNat)) from by funext a b; simp only [fwUc]; (repeat' split); all_goals first | rfl | (exfalso; omega)]
        refine w_iinc [some (aR 8 0), some (aI ((c : Int) + 1))] dX7_weighCells_78 rfl rfl (by decide) ?_
        refine w_goto 16 dX7_weighCells_81 (by decide) ?_
        refine ih16 (by omega) _ _ ?_ ?_
        · exact (by omega)
        · exact (by rw [mWt, if_pos (by omega)]; rw [fwFu_dn]; rfl)
  refine lp16 0 (Nat.zero_le _) _ _ ?_ ?_
  · exact (by omega)
  · exact (fwUc_self (fwUc (fwUc h 4 5 (h 4 0)) 17 5 (h 17 0)) 26 0).symm
set_option maxRecDepth 100000 in
set_option maxHeartbeats 4000000 in
theorem c_X7_weightOf {d : Nat} {h : fwH} {Q : Option fwV → fwH → Prop} (x y : Nat) (hx : x < 10) (hy : y < 8) (k : Q (some (aI (h 26 0 (x * 8 + y)))) h) : fwCt mX7_weightOf (d + 0) [aR 8 0, aI (x : Int), aI (y : Int)] h Q := by
  refine fwCt_of [some (aR 8 0), some (aI (x : Int)), some (aI (y : Int)), none] rfl rfl rfl ?_
  refine w_iload_n dX7_weightOf_0 rfl ?_
  refine w_bipush dX7_weightOf_1 rfl ?_
  refine w_imul dX7_weightOf_3 ?_
  refine w_iload_n dX7_weightOf_4 rfl ?_
  refine w_iadd dX7_weightOf_5 ?_
  refine w_istore_n [some (aR 8 0), some (aI (x : Int)), some (aI (y : Int)), some (aI (((x : Int) * 8) + (y : Int)))] dX7_weightOf_6 rfl (by decide) ?_
  refine w_iload_n dX7_weightOf_7 rfl ?_
  refine w_if_lt 29 dX7_weightOf_8 (by decide) (by omega) (fun c8 => ?_) (fun c8 => ?_)
  · (exfalso; omega)
  · refine w_iload_n dX7_weightOf_11 rfl ?_
    refine w_aload_n dX7_weightOf_12 rfl ?_
    refine w_getr 26 0 dX7_weightOf_13 fl_X7_9 rfl (by decide) ?_
    refine w_alen dX7_weightOf_16 rfl (by decide) (by decide) ?_
    refine w_icmp_ge 29 dX7_weightOf_17 (by decide) (by omega) (by omega) (fun c17 => ?_) (fun c17 => ?_)
    · (exfalso; omega)
    · refine w_aload_n dX7_weightOf_20 rfl ?_
      refine w_getr 26 0 dX7_weightOf_21 fl_X7_9 rfl (by decide) ?_
      refine w_iload_n dX7_weightOf_24 rfl ?_
      refine w_ialdE (v := h 26 0 (x * 8 + y)) dX7_weightOf_25 rfl (by decide) (by omega) (by omega) (by rw [show ((x : Int) * 8 + (y : Int)).toNat = x * 8 + y by omega]) ?_
      refine w_goto 30 dX7_weightOf_26 (by decide) ?_
      exact w_iretE dX7_weightOf_30 rfl (by rfl) k
theorem c_X7_weightOfE {d : Nat} {h : fwH} {Q : Option fwV → fwH → Prop} (x y : Nat) (v : Int) (hx : x < 10) (hy : y < 8) (e : h 26 0 (x * 8 + y) = v) (k : Q (some (aI v)) h) : fwCt mX7_weightOf d [aR 8 0, aI (x : Int), aI (y : Int)] h Q := by
  subst e
  exact c_X7_weightOf x y hx hy k
/-- who would rather have a FOOT taken from x than from y -/
def mVoB (h : fwH) (x y f : Nat) : Bool := decide (mGn h y f < mGn h x f)
def mVo (h : fwH) (x y : Nat) : Int := mBits (mVoB h x y) (h 5 0 3).toNat
/-- the weights hold -/
abbrev mWok (h : fwH) : Prop := ∀ c f : Nat, c < (h 4 0 1).toNat → 0 < h 17 0 c → f < (h 5 0 3).toNat → h 26 0 (c * 8 + f) = mGn h c f
set_option maxRecDepth 100000 in
set_option maxHeartbeats 4000000 in
theorem c_X7_votersFor {d : Nat} {h : fwH} {Q : Option fwV → fwH → Prop} (x y : Nat) (hP : pOk h 0) (hG : gOk h 0) (hW : mWok h) (hx : (x : Int) < h 4 0 1) (hx2 : 0 < h 17 0 x) (hy : (y : Int) < h 4 0 1) (hy2 : 0 < h 17 0 y) (k : Q (some (aI (mVo h x y))) h) : fwCt mX7_votersFor (d + 1) [aR 8 0, aI (x : Int), aI (y : Int)] h Q := by
  refine fwCt_of [some (aR 8 0), some (aI (x : Int)), some (aI (y : Int)), none, none] rfl rfl rfl ?_
  obtain ⟨⟨g1, g2⟩, ⟨g3, g4⟩, ⟨g5, g6⟩, g7, g8⟩ := id hG
  have hpz := hP.1
  refine w_iconst dX7_votersFor_0 ?_
  refine w_istore_n [some (aR 8 0), some (aI (x : Int)), some (aI (y : Int)), some (aI 0), none] dX7_votersFor_1 rfl (by decide) ?_
  refine w_iconst dX7_votersFor_2 ?_
  refine w_istore [some (aR 8 0), some (aI (x : Int)), some (aI (y : Int)), some (aI 0), some (aI 0)] dX7_votersFor_3 rfl (by decide) ?_
  have lp5 : ∀ c : Nat, c ≤ (h 5 0 3).toNat → ∀ (y5 bi : Int), y5 = (c : Int) → bi = mBits (mVoB h x y) c → fwWP mX7_votersFor (d + 1) 5 [some (aR 8 0), some (aI (x : Int)), some (aI (y : Int)), some (aI bi), some (aI y5)] [] h Q := by
    refine fw_up (fun c hc5 ih5 => ?_)
    intro y5 bi ey5 e_bi
    subst ey5
    subst e_bi
    show fwWP mX7_votersFor (d + 1) 5 [some (aR 8 0), some (aI (x : Int)), some (aI (y : Int)), some (aI (mBits (mVoB h x y) c)), some (aI (c : Int))] [] h Q
    refine w_iload dX7_votersFor_5 rfl ?_
    refine w_aload_n dX7_votersFor_7 rfl ?_
    refine w_getr 3 0 dX7_votersFor_8 fl_X7_21 rfl (by decide) ?_
    refine w_getr 5 0 dX7_votersFor_11 fl_X7_52 rfl (by decide) ?_
    refine w_geti dX7_votersFor_14 fl_X7_62 rfl (by decide) ?_
    refine w_icmp_ge 50 dX7_votersFor_17 (by decide) (by omega) (by omega) (fun c17 => ?_) (fun c17 => ?_)
    · have ec5 : (h 5 0 3).toNat = c := by omega
      subst ec5
      refine w_iload_n dX7_votersFor_50 rfl ?_
      exact w_iretE dX7_votersFor_51 rfl (by rfl) k
    · refine w_aload_n dX7_votersFor_20 rfl ?_
      refine w_iload_n dX7_votersFor_21 rfl ?_
      refine w_iload dX7_votersFor_22 rfl ?_
      refine w_callV (d := d + 0) (S := []) [aI (x : Int), aI (c : Int)] dX7_votersFor_24 ml_X7_65 ok_X7_weightOf vi_X7_weightOf rfl rfl (by decide) rfl (Nat.le_of_ble_eq_true rfl) ?_
      refine c_X7_weightOfE (d := d) x c (mGn h x c) (by first | assumption | omega | decide) (by first | assumption | omega | decide) (hW x c (by omega) (by omega) (by omega)) ?_
      show fwWP mX7_votersFor (d + 1) 27 [some (aR 8 0), some (aI (x : Int)), some (aI (y : Int)), some (aI (mBits (mVoB h x y) c)), some (aI (c : Int))] [aI (mGn h x c)] h Q
      refine w_aload_n dX7_votersFor_27 rfl ?_
      refine w_iload_n dX7_votersFor_28 rfl ?_
      refine w_iload dX7_votersFor_29 rfl ?_
      refine w_callV (d := d + 0) (S := [aI (mGn h x c)]) [aI (y : Int), aI (c : Int)] dX7_votersFor_31 ml_X7_65 ok_X7_weightOf vi_X7_weightOf rfl rfl (by decide) rfl (Nat.le_of_ble_eq_true rfl) ?_
      refine c_X7_weightOfE (d := d) y c (mGn h y c) (by first | assumption | omega | decide) (by first | assumption | omega | decide) (hW y c (by omega) (by omega) (by omega)) ?_
      show fwWP mX7_votersFor (d + 1) 34 [some (aR 8 0), some (aI (x : Int)), some (aI (y : Int)), some (aI (mBits (mVoB h x y) c)), some (aI (c : Int))] [aI (mGn h y c), aI (mGn h x c)] h Q
      have hr1 := mGn_rng hP hG x (by omega) hx2 c (by omega)
      have hr2 := mGn_rng hP hG y (by omega) hy2 c (by omega)
      refine w_icmp_le 44 dX7_votersFor_34 (by decide) (by omega) (by omega) (fun c34 => ?_) (fun c34 => ?_)
      · refine w_iinc [some (aR 8 0), some (aI (x : Int)), some (aI (y : Int)), some (aI (mBits (mVoB h x y) c)), some (aI ((c : Int) + 1))] dX7_votersFor_44 rfl rfl (by decide) ?_
        refine w_goto 5 dX7_votersFor_47 (by decide) ?_
        refine ih5 (by omega) _ _ ?_ ?_
        · exact (by omega)
        · exact (by rw [mBits]; first | rw [if_pos (by unfold mVoB; simp only [decide_eq_true_eq]; omega)] | rw [if_neg (by unfold mVoB; simp only [decide_eq_true_eq]; omega)])
      · refine w_iload_n dX7_votersFor_37 rfl ?_
        refine w_iconst dX7_votersFor_38 ?_
        refine w_iload dX7_votersFor_39 rfl ?_
        refine w_ishl dX7_votersFor_41 ?_
        refine w_ior dX7_votersFor_42 ?_
        refine w_istore_n [some (aR 8 0), some (aI (x : Int)), some (aI (y : Int)), some (aI (fwOr (mBits (mVoB h x y) c) (fwShl 1 (c : Int)))), some (aI (c : Int))] dX7_votersFor_43 rfl (by decide) ?_
        refine w_iinc [some (aR 8 0), some (aI (x : Int)), some (aI (y : Int)), some (aI (fwOr (mBits (mVoB h x y) c) (fwShl 1 (c : Int)))), some (aI ((c : Int) + 1))] dX7_votersFor_44 rfl rfl (by decide) ?_
        refine w_goto 5 dX7_votersFor_47 (by decide) ?_
        refine ih5 (by omega) _ _ ?_ ?_
        · exact (by omega)
        · exact (by rw [mBits]; first | rw [if_pos (by unfold mVoB; simp only [decide_eq_true_eq]; omega)] | rw [if_neg (by unfold mVoB; simp only [decide_eq_true_eq]; omega)])
  refine lp5 0 (Nat.zero_le _) _ _ ?_ ?_
  · exact (by omega)
  · exact rfl
def mVoN (h : fwH) (x y : Nat) : Int := mNames (h 18 0) (mVo h x y) (h 5 0 3).toNat
def mUnB (h : fwH) (x y : Nat) : Bool := decide (0 < h 17 0 y → mVoN h y x ≤ mVoN h x y)
abbrev mUnb (h : fwH) (x : Nat) : Prop := mAll (mUnB h x) (h 4 0 1).toNat = true
set_option maxRecDepth 100000 in
set_option maxHeartbeats 4000000 in
theorem c_X7_isUnbeaten {d : Nat} {h : fwH} {Q : Option fwV → fwH → Prop} (x : Nat) (hP : pOk h 0) (hG : gOk h 0) (hW : mWok h) (hx : (x : Int) < h 4 0 1) (hx2 : 0 < h 17 0 x) (k : Q (some (aI (fwB (mUnb h x)))) h) : fwCt mX7_isUnbeaten (d + 2) [aR 8 0, aI (x : Int)] h Q := by
  refine fwCt_of [some (aR 8 0), some (aI (x : Int)), none, none] rfl rfl rfl ?_
  obtain ⟨⟨g1, g2⟩, ⟨g3, g4⟩, ⟨g5, g6⟩, g7, g8⟩ := id hG
  have hpz := hP.1
  refine w_iconst dX7_isUnbeaten_0 ?_
  refine w_istore_n [some (aR 8 0), some (aI (x : Int)), some (aI 0), none] dX7_isUnbeaten_1 rfl (by decide) ?_
  have lp2 : ∀ c : Nat, c ≤ (h 4 0 1).toNat → ∀ (y2  : Int), y2 = (c : Int) → (mAll (mUnB h x) c = true) → fwWP mX7_isUnbeaten (d + 2) 2 [some (aR 8 0), some (aI (x : Int)), some (aI y2), none] [] h Q := by
    refine fw_up (fun c hc2 ih2 => ?_)
    intro y2  ey2 iv2_0
    subst ey2
    show fwWP mX7_isUnbeaten (d + 2) 2 [some (aR 8 0), some (aI (x : Int)), some (aI (c : Int)), none] [] h Q
    refine w_iload_n dX7_isUnbeaten_2 rfl ?_
    refine w_aload_n dX7_isUnbeaten_3 rfl ?_
    refine w_getr 3 0 dX7_isUnbeaten_4 fl_X7_21 rfl (by decide) ?_
    refine w_getr 4 0 dX7_isUnbeaten_7 fl_X7_29 rfl (by decide) ?_
    refine w_geti dX7_isUnbeaten_10 fl_X7_40 rfl (by decide) ?_
    refine w_icmp_ge 75 dX7_isUnbeaten_13 (by decide) (by omega) (by omega) (fun c13 => ?_) (fun c13 => ?_)
    · have ec2 : (h 4 0 1).toNat = c := by omega
      subst ec2
      refine w_iconst dX7_isUnbeaten_75 ?_
      exact w_zretE (P := mUnb h x) dX7_isUnbeaten_76 rfl (by rw [fwB_t iv2_0]) k
    · refine w_aload_n dX7_isUnbeaten_16 rfl ?_
      refine w_getr 3 0 dX7_isUnbeaten_17 fl_X7_21 rfl (by decide) ?_
      refine w_getr 4 0 dX7_isUnbeaten_20 fl_X7_29 rfl (by decide) ?_
      refine w_iload_n dX7_isUnbeaten_23 rfl ?_
      refine w_callV (d := d + 1) (S := []) [aI (c : Int)] dX7_isUnbeaten_24 ml_X7_44 ok_X1_heightOf vi_X1_heightOf rfl rfl (by decide) rfl (Nat.le_of_ble_eq_true rfl) ?_
      refine c_X1_heightOfE (d := (d + 1)) 0 (c : Int) (h 17 0 c) (by decide) (by first | assumption | omega | decide) (by first | assumption | omega | decide) (hOf_in (by omega)) ?_
      show fwWP mX7_isUnbeaten (d + 2) 27 [some (aR 8 0), some (aI (x : Int)), some (aI (c : Int)), none] [aI (h 17 0 c)] h Q
      have hc1 := g8 c (by omega)
      refine w_if_le 69 dX7_isUnbeaten_27 (by decide) (by omega) (fun c27 => ?_) (fun c27 => ?_)
      · refine w_iinc [some (aR 8 0), some (aI (x : Int)), some (aI ((c : Int) + 1)), none] dX7_isUnbeaten_69 rfl rfl (by decide) ?_
        refine w_goto 2 dX7_isUnbeaten_72 (by decide) ?_
        refine ih2 (by omega) _ ?_ ?_
        · exact (by omega)
        · exact (by rw [mAll, iv2_0, Bool.true_and]; unfold mUnB; simp only [decide_eq_true_eq]; omega)
      · refine w_aload_n dX7_isUnbeaten_30 rfl ?_
        refine w_getr 3 0 dX7_isUnbeaten_31 fl_X7_21 rfl (by decide) ?_
        refine w_getr 5 0 dX7_isUnbeaten_34 fl_X7_52 rfl (by decide) ?_
        refine w_aload_n dX7_isUnbeaten_37 rfl ?_
        refine w_iload_n dX7_isUnbeaten_38 rfl ?_
        refine w_iload_n dX7_isUnbeaten_39 rfl ?_
        refine w_callV (d := d + 1) (S := [aR 5 0]) [aI (x : Int), aI (c : Int)] dX7_isUnbeaten_40 ml_X7_76 ok_X7_votersFor vi_X7_votersFor rfl rfl (by decide) rfl (Nat.le_of_ble_eq_true rfl) ?_
        refine c_X7_votersFor (d := d) x c (by first | assumption | omega | decide) (by first | assumption | omega | decide) (by first | assumption | omega | decide) (by first | assumption | omega | decide) (by first | assumption | omega | decide) (by first | assumption | omega | decide) (by first | assumption | omega | decide) ?_
        show fwWP mX7_isUnbeaten (d + 2) 43 [some (aR 8 0), some (aI (x : Int)), some (aI (c : Int)), none] [aI (mVo h x c), aR 5 0] h Q
        refine w_callV (d := d + 1) (S := []) [aI (mVo h x c)] dX7_isUnbeaten_43 ml_X7_79 ok_X3_namesOf vi_X3_namesOf rfl rfl (by decide) rfl (Nat.le_of_ble_eq_true rfl) ?_
        refine c_X3_namesOf (d := d) 0 (mVo h x c) (by decide) (by first | assumption | omega | decide) ?_
        show fwWP mX7_isUnbeaten (d + 2) 46 [some (aR 8 0), some (aI (x : Int)), some (aI (c : Int)), none] [aI (mNames (h 18 0) (mVo h x c) (h 5 0 3).toNat)] h Q
        refine w_istore_n [some (aR 8 0), some (aI (x : Int)), some (aI (c : Int)), some (aI (mNames (h 18 0) (mVo h x c) (h 5 0 3).toNat))] dX7_isUnbeaten_46 rfl (by decide) ?_
        refine w_iload_n dX7_isUnbeaten_47 rfl ?_
        refine w_aload_n dX7_isUnbeaten_48 rfl ?_
        refine w_getr 3 0 dX7_isUnbeaten_49 fl_X7_21 rfl (by decide) ?_
        refine w_getr 5 0 dX7_isUnbeaten_52 fl_X7_52 rfl (by decide) ?_
        refine w_aload_n dX7_isUnbeaten_55 rfl ?_
        refine w_iload_n dX7_isUnbeaten_56 rfl ?_
        refine w_iload_n dX7_isUnbeaten_57 rfl ?_
        refine w_callV (d := d + 1) (S := [aR 5 0, aI (mNames (h 18 0) (mVo h x c) (h 5 0 3).toNat)]) [aI (c : Int), aI (x : Int)] dX7_isUnbeaten_58 ml_X7_76 ok_X7_votersFor vi_X7_votersFor rfl rfl (by decide) rfl (Nat.le_of_ble_eq_true rfl) ?_
        refine c_X7_votersFor (d := d) c x (by first | assumption | omega | decide) (by first | assumption | omega | decide) (by first | assumption | omega | decide) (by first | assumption | omega | decide) (by first | assumption | omega | decide) (by first | assumption | omega | decide) (by first | assumption | omega | decide) ?_
        show fwWP mX7_isUnbeaten (d + 2) 61 [some (aR 8 0), some (aI (x : Int)), some (aI (c : Int)), some (aI (mNames (h 18 0) (mVo h x c) (h 5 0 3).toNat))] [aI (mVo h c x), aR 5 0, aI (mNames (h 18 0) (mVo h x c) (h 5 0 3).toNat)] h Q
        refine w_callV (d := d + 1) (S := [aI (mNames (h 18 0) (mVo h x c) (h 5 0 3).toNat)]) [aI (mVo h c x)] dX7_isUnbeaten_61 ml_X7_79 ok_X3_namesOf vi_X3_namesOf rfl rfl (by decide) rfl (Nat.le_of_ble_eq_true rfl) ?_
        refine c_X3_namesOf (d := d) 0 (mVo h c x) (by decide) (by first | assumption | omega | decide) ?_
        show fwWP mX7_isUnbeaten (d + 2) 64 [some (aR 8 0), some (aI (x : Int)), some (aI (c : Int)), some (aI (mNames (h 18 0) (mVo h x c) (h 5 0 3).toNat))] [aI (mNames (h 18 0) (mVo h c x) (h 5 0 3).toNat), aI (mNames (h 18 0) (mVo h x c) (h 5 0 3).toNat)] h Q
        have hn1 : 0 ≤ mVoN h x c ∧ mVoN h x c ≤ 792 := mNames_r2 hP _
        have hn2 : 0 ≤ mVoN h c x ∧ mVoN h c x ≤ 792 := mNames_r2 hP _
        change fwWP mX7_isUnbeaten (d + 2) 64 [some (aR 8 0), some (aI (x : Int)), some (aI (c : Int)), some (aI (mVoN h x c))] [aI (mVoN h c x), aI (mVoN h x c)] h Q
        refine w_icmp_ge 69 dX7_isUnbeaten_64 (by decide) (by omega) (by omega) (fun c64 => ?_) (fun c64 => ?_)
        · refine w_iinc [some (aR 8 0), some (aI (x : Int)), some (aI ((c : Int) + 1)), some (aI (mVoN h x c))] dX7_isUnbeaten_69 rfl rfl (by decide) ?_
          refine w_goto 2 dX7_isUnbeaten_72 (by decide) ?_
          refine w_drop [3] [some (aR 8 0), some (aI (x : Int)), some (aI ((c : Int) + 1)), none] rfl ?_
          refine ih2 (by omega) _ ?_ ?_
          · exact (by omega)
          · exact (by rw [mAll, iv2_0, Bool.true_and]; unfold mUnB; simp only [decide_eq_true_eq]; omega)
        · refine w_iconst dX7_isUnbeaten_67 ?_
          exact w_zretE (P := mUnb h x) dX7_isUnbeaten_68 rfl (by rw [fwB_f (fun q => by have := (mAll_iff _ _).mp q c (by omega); unfold mUnB at this; simp only [decide_eq_true_eq] at this; omega)]) k
  refine lp2 0 (Nat.zero_le _) _ ?_ ?_
  · exact (by omega)
  · exact rfl
def mElB (h : fwH) (c : Nat) : Bool := decide (¬ (0 < h 17 0 c ∧ mUnb h c))
def mEl (h : fwH) : Int := if mFst (mElB h) (h 4 0 1).toNat = (h 4 0 1).toNat then -1 else (mFst (mElB h) (h 4 0 1).toNat : Int)
set_option maxRecDepth 100000 in
set_option maxHeartbeats 4000000 in
theorem c_X7_electedCell {d : Nat} {h : fwH} {Q : Option fwV → fwH → Prop}  (hP : pOk h 0) (hG : gOk h 0) (hn : 1 ≤ h 4 0 1) (hM : ∀ c : Nat, c < 10 → h 17 0 c ≤ 999) (k : Q (some (aI (mEl h))) (fwUc (fwUc (fwUc h 4 5 (h 4 0)) 17 5 (h 17 0)) 26 0 (mWt h (h 4 0 1).toNat))) : fwCt mX7_electedCell (d + 4) [aR 8 0] h Q := by
  refine fwCt_of [some (aR 8 0), none] rfl rfl rfl ?_
  obtain ⟨⟨g1, g2⟩, ⟨g3, g4⟩, ⟨g5, g6⟩, g7, g8⟩ := id hG
  have hpz := hP.1
  refine w_aload_n dX7_electedCell_0 rfl ?_
  refine w_callV (d := d + 3) (S := []) [] dX7_electedCell_1 ml_X7_69 ok_X7_weighCells vi_X7_weighCells rfl rfl (by decide) rfl (Nat.le_of_ble_eq_true rfl) ?_
  refine c_X7_weighCells (d := d) (by first | assumption | omega | decide) (by first | assumption | omega | decide) (by first | assumption | omega | decide) (by first | assumption | omega | decide) ?_
  show fwWP mX7_electedCell (d + 4) 4 [some (aR 8 0), none] [] (fwUc (fwUc (fwUc h 4 5 (h 4 0)) 17 5 (h 17 0)) 26 0 (mWt h (h 4 0 1).toNat)) Q
  have hW : mWok (fwUc (fwUc (fwUc h 4 5 (h 4 0)) 17 5 (h 17 0)) 26 0 (mWt h (h 4 0 1).toNat)) := fun c f hc h0 hf => mWt_at (by omega) _ c f hc h0 hf
  refine w_iconst dX7_electedCell_4 ?_
  refine w_istore_n [some (aR 8 0), some (aI 0)] dX7_electedCell_5 rfl (by decide) ?_
  have lp6 : ∀ c : Nat, c ≤ (h 4 0 1).toNat → ∀ (y6  : Int), y6 = (c : Int) → (mFst (mElB h) c = c) → fwWP mX7_electedCell (d + 4) 6 [some (aR 8 0), some (aI y6)] [] (fwUc (fwUc (fwUc h 4 5 (h 4 0)) 17 5 (h 17 0)) 26 0 (mWt h (h 4 0 1).toNat)) Q := by
    refine fw_up (fun c hc6 ih6 => ?_)
    intro y6  ey6 iv6_0
    subst ey6
    show fwWP mX7_electedCell (d + 4) 6 [some (aR 8 0), some (aI (c : Int))] [] (fwUc (fwUc (fwUc h 4 5 (h 4 0)) 17 5 (h 17 0)) 26 0 (mWt h (h 4 0 1).toNat)) Q
    refine w_iload_n dX7_electedCell_6 rfl ?_
    refine w_aload_n dX7_electedCell_7 rfl ?_
    refine w_getr 3 0 dX7_electedCell_8 fl_X7_21 rfl (by decide) ?_
    refine w_getr 4 0 dX7_electedCell_11 fl_X7_29 rfl (by decide) ?_
    refine w_getiE (v := h 4 0 1) dX7_electedCell_14 fl_X7_40 rfl (by decide) (by first | rfl | simp [fwUp, fwUc]) ?_
    refine w_icmp_ge 50 dX7_electedCell_17 (by decide) (by omega) (by omega) (fun c17 => ?_) (fun c17 => ?_)
    · have ec6 : (h 4 0 1).toNat = c := by omega
      subst ec6
      refine w_iconst dX7_electedCell_50 ?_
      exact w_iretE dX7_electedCell_51 rfl (by rw [mEl, if_pos iv6_0]) k
    · refine w_aload_n dX7_electedCell_20 rfl ?_
      refine w_getr 3 0 dX7_electedCell_21 fl_X7_21 rfl (by decide) ?_
      refine w_getr 4 0 dX7_electedCell_24 fl_X7_29 rfl (by decide) ?_
      refine w_iload_n dX7_electedCell_27 rfl ?_
      refine w_callV (d := d + 3) (S := []) [aI (c : Int)] dX7_electedCell_28 ml_X7_44 ok_X1_heightOf vi_X1_heightOf rfl rfl (by decide) rfl (Nat.le_of_ble_eq_true rfl) ?_
      refine c_X1_heightOfE (d := (d + 3)) 0 (c : Int) (h 17 0 c) (by decide) (by first | assumption | omega | decide) (by first | assumption | omega | decide) (hOf_in (n := h 4 0 1) (H := h 17 0) (by omega)) ?_
      show fwWP mX7_electedCell (d + 4) 31 [some (aR 8 0), some (aI (c : Int))] [aI (h 17 0 c)] (fwUc (fwUc (fwUc h 4 5 (h 4 0)) 17 5 (h 17 0)) 26 0 (mWt h (h 4 0 1).toNat)) Q
      have hc1 := g8 c (by omega)
      refine w_if_le 44 dX7_electedCell_31 (by decide) (by omega) (fun ch => ?_) (fun ch => ?_)
      · refine w_iinc [some (aR 8 0), some (aI ((c : Int) + 1))] dX7_electedCell_44 rfl rfl (by decide) ?_
        refine w_goto 6 dX7_electedCell_47 (by decide) ?_
        refine ih6 (by omega) _ ?_ ?_
        · exact (by omega)
        · exact (mFst_go iv6_0 (decide_eq_true (fun q => by first | omega | exact cu q.2)))
      · refine w_aload_n dX7_electedCell_34 rfl ?_
        refine w_iload_n dX7_electedCell_35 rfl ?_
        refine w_callV (d := d + 3) (S := []) [aI (c : Int)] dX7_electedCell_36 ml_X7_72 ok_X7_isUnbeaten vi_X7_isUnbeaten rfl rfl (by decide) rfl (Nat.le_of_ble_eq_true rfl) ?_
        refine c_X7_isUnbeaten (d := (d + 1)) c (by first | assumption | omega | decide) (by first | assumption | omega | decide) (by first | assumption | omega | decide) (by first | assumption | omega | decide) (by first | assumption | omega | decide) ?_
        show fwWP mX7_electedCell (d + 4) 39 [some (aR 8 0), some (aI (c : Int))] [aI (fwB (mUnb (fwUc (fwUc (fwUc h 4 5 (h 4 0)) 17 5 (h 17 0)) 26 0 (mWt h (h 4 0 1).toNat)) c))] (fwUc (fwUc (fwUc h 4 5 (h 4 0)) 17 5 (h 17 0)) 26 0 (mWt h (h 4 0 1).toNat)) Q
        refine w_ifB_eq 44 dX7_electedCell_39 (by decide) (fun cu => ?_) (fun cu => ?_)
        · refine w_iinc [some (aR 8 0), some (aI ((c : Int) + 1))] dX7_electedCell_44 rfl rfl (by decide) ?_
          refine w_goto 6 dX7_electedCell_47 (by decide) ?_
          refine ih6 (by omega) _ ?_ ?_
          · exact (by omega)
          · exact (mFst_go iv6_0 (decide_eq_true (fun q => by first | omega | exact cu q.2)))
        · refine w_iload_n dX7_electedCell_42 rfl ?_
          have est := mFst_stop iv6_0 (show ¬ mElB h c = true from fun q => (of_decide_eq_true q) ⟨by omega, cu⟩) ((h 4 0 1).toNat - c)
          rw [show c + ((h 4 0 1).toNat - c) = (h 4 0 1).toNat by omega] at est
          exact w_iretE dX7_electedCell_43 rfl (by rw [mEl, if_neg (by omega), est]) k
  refine lp6 0 (Nat.zero_le _) _ ?_ ?_
  · exact (by omega)
  · exact rfl
theorem mSum_rng {H : Nat → Int} {b : Int} : ∀ c : Nat, (∀ j, j < c → 0 ≤ H j ∧ H j ≤ b) → 0 ≤ mSum H c ∧ mSum H c ≤ b * c := by
  intro c
  induction c with
  | zero => intro _; simp [mSum]
  | succ c ih =>
    intro hj
    have h1 := ih (fun j hj2 => hj j (by omega))
    have h2 := hj c (by omega)
    rw [mSum, show b * ((c + 1 : Nat) : Int) = b * c + b by rw [Int.natCast_add, Int.mul_add]; simp]
    omega
set_option maxRecDepth 100000 in
set_option maxHeartbeats 4000000 in
theorem c_X7_canShape {d : Nat} {h : fwH} {Q : Option fwV → fwH → Prop} (x : Int) (hl : 0 ≤ h 3 0 6 ∧ h 3 0 6 ≤ 1000) (hP : pOk h 0) (hG : gOk h 0) (hx : -2147483648 ≤ x ∧ x < 2147483648) (k : Q (some (aI (fwB (0 < h 3 0 6 ∧ 0 ≤ x ∧ x ≤ 3 ∧ x ≤ mSum (h 17 0) (h 4 0 1).toNat)))) h) : fwCt mX7_canShape (d + 2) [aR 8 0, aI x] h Q := by
  refine fwCt_of [some (aR 8 0), some (aI x)] rfl rfl rfl ?_
  obtain ⟨⟨g1, g2⟩, ⟨g3, g4⟩, ⟨g5, g6⟩, g7, g8⟩ := id hG
  have hpz := hP.1
  refine w_aload_n dX7_canShape_0 rfl ?_
  refine w_getr 3 0 dX7_canShape_1 fl_X7_21 rfl (by decide) ?_
  refine w_callV (d := d + 1) (S := []) [] dX7_canShape_4 ml_X7_82 ok_X2_isTold vi_X2_isTold rfl rfl (by decide) rfl (Nat.le_of_ble_eq_true rfl) ?_
  refine c_X2_isTold (d := (d + 1)) (show 0 ≤ h 3 0 6 ∧ h 3 0 6 ≤ 1000 by first | assumption | omega | decide) ?_
  show fwWP mX7_canShape (d + 2) 7 [some (aR 8 0), some (aI x)] [aI (fwB (0 < h 3 0 6))] h Q
  refine w_ifB_eq 37 dX7_canShape_7 (by decide) (fun c7 => ?_) (fun c7 => ?_)
  · refine w_iconst dX7_canShape_37 ?_
    exact w_zretE dX7_canShape_38 rfl (by first | (exfalso; omega) | (rw [fwB_t (by omega)]) | (rw [fwB_f (by omega)])) k
  · refine w_iload_n dX7_canShape_10 rfl ?_
    refine w_if_lt 37 dX7_canShape_11 (by decide) (by omega) (fun c11 => ?_) (fun c11 => ?_)
    · refine w_iconst dX7_canShape_37 ?_
      exact w_zretE dX7_canShape_38 rfl (by first | (exfalso; omega) | (rw [fwB_t (by omega)]) | (rw [fwB_f (by omega)])) k
    · refine w_iload_n dX7_canShape_14 rfl ?_
      refine w_iconst dX7_canShape_15 ?_
      refine w_icmp_gt 37 dX7_canShape_16 (by decide) (by omega) (by omega) (fun c16 => ?_) (fun c16 => ?_)
      · refine w_iconst dX7_canShape_37 ?_
        exact w_zretE dX7_canShape_38 rfl (by first | (exfalso; omega) | (rw [fwB_t (by omega)]) | (rw [fwB_f (by omega)])) k
      · refine w_aload_n dX7_canShape_19 rfl ?_
        refine w_getr 3 0 dX7_canShape_20 fl_X7_21 rfl (by decide) ?_
        refine w_getr 4 0 dX7_canShape_23 fl_X7_29 rfl (by decide) ?_
        refine w_callV (d := d + 1) (S := []) [] dX7_canShape_26 ml_X7_86 ok_X1_feetInAll vi_X1_feetInAll rfl rfl (by decide) rfl (Nat.le_of_ble_eq_true rfl) ?_
        refine c_X1_feetInAll (d := d) 0  (by decide) (by first | assumption | omega | decide) ?_
        show fwWP mX7_canShape (d + 2) 29 [some (aR 8 0), some (aI x)] [aI (mSum (h 17 0) (h 4 0 1).toNat)] h Q
        have hsm := mSum_rng (H := h 17 0) (b := 1000) (h 4 0 1).toNat (fun j hj => g8 j (by omega))
        refine w_iload_n dX7_canShape_29 rfl ?_
        refine w_icmp_lt 37 dX7_canShape_30 (by decide) (by omega) (by omega) (fun c30 => ?_) (fun c30 => ?_)
        · refine w_iconst dX7_canShape_37 ?_
          exact w_zretE dX7_canShape_38 rfl (by first | (exfalso; omega) | (rw [fwB_t (by omega)]) | (rw [fwB_f (by omega)])) k
        · refine w_iconst dX7_canShape_33 ?_
          refine w_goto 38 dX7_canShape_34 (by decide) ?_
          exact w_zretE dX7_canShape_38 rfl (by first | (exfalso; omega) | (rw [fwB_t (by omega)]) | (rw [fwB_f (by omega)])) k
set_option maxRecDepth 100000 in
set_option maxHeartbeats 4000000 in
theorem c_X7_shapedCell {d : Nat} {h : fwH} {Q : Option fwV → fwH → Prop} (x : Int) (hx : 0 ≤ x ∧ x < 3) (k : Q (some (aI (h 28 0 x.toNat))) h) : fwCt mX7_shapedCell (d + 0) [aR 8 0, aI x] h Q := by
  refine fwCt_of [some (aR 8 0), some (aI x)] rfl rfl rfl ?_
  refine w_iload_n dX7_shapedCell_0 rfl ?_
  refine w_if_lt 22 dX7_shapedCell_1 (by decide) (by omega) (fun c1 => ?_) (fun c1 => ?_)
  · (exfalso; omega)
  · refine w_iload_n dX7_shapedCell_4 rfl ?_
    refine w_aload_n dX7_shapedCell_5 rfl ?_
    refine w_getr 28 0 dX7_shapedCell_6 fl_X7_18 rfl (by decide) ?_
    refine w_alen dX7_shapedCell_9 rfl (by decide) (by decide) ?_
    refine w_icmp_ge 22 dX7_shapedCell_10 (by decide) (by omega) (by omega) (fun c10 => ?_) (fun c10 => ?_)
    · (exfalso; omega)
    · refine w_aload_n dX7_shapedCell_13 rfl ?_
      refine w_getr 28 0 dX7_shapedCell_14 fl_X7_18 rfl (by decide) ?_
      refine w_iload_n dX7_shapedCell_17 rfl ?_
      refine w_iald dX7_shapedCell_18 rfl (by decide) (by omega) (by omega) ?_
      refine w_goto 23 dX7_shapedCell_19 (by decide) ?_
      exact w_iretE dX7_shapedCell_23 rfl (by rfl) k
abbrev fwSt := (Nat → Int) × Int × Int × (Nat → Int)
/-- the way, whether one was found, its GAINS, the best way -/
def mKeep (g : Int) (s : fwSt) : fwSt := if s.2.1 ≠ 0 ∧ g ≤ s.2.2.1 then s else (s.1, 1, g, s.1)
def mSeL (R : Nat → (Nat → Int) → fwSt → fwSt) (d fr : Nat) (H : Nat → Int) (s0 : fwSt) : Nat → fwSt
  | 0 => s0
  | j + 1 => if 0 < H (fr + j) then R (fr + j) (fwFu H (fr + j) (H (fr + j) + -1)) (fwFu (mSeL R d fr H s0 j).1 d ((fr + j : Nat) : Int), (mSeL R d fr H s0 j).2) else mSeL R d fr H s0 j
def mSe (G : (Nat → Int) → Int) (nc : Nat) : Nat → Nat → Nat → (Nat → Int) → fwSt → fwSt
  | 0, _, _, H, s => mKeep (G H) s
  | k + 1, d, fr, H, s => mSeL (mSe G nc k (d + 1)) d fr H s (nc - fr)
def seF (g : Nat → Int) (bg fd : Int) : Nat → Int := fwFu (fwFu g 5 bg) 6 fd
theorem seF_seF (g : Nat → Int) (a b c d : Int) : seF (seF g a b) c d = seF g c d := by
  funext s
  unfold seF fwFu
  by_cases e6 : s = 6
  · simp [e6]
  · by_cases e5 : s = 5
    · simp [e5]
    · simp [e5, e6]
theorem seF_self (g : Nat → Int) : seF g (g 5) (g 6) = g := by
  funext s
  unfold seF fwFu
  by_cases e6 : s = 6
  · subst e6; simp
  · by_cases e5 : s = 5
    · subst e5; simp
    · simp [e5, e6]
abbrev stOk (s : fwSt) : Prop := (s.2.1 = 0 ∨ s.2.1 = 1) ∧ 0 ≤ s.2.2.1 ∧ s.2.2.1 ≤ 300000
theorem mKeep_ok {g : Int} {s : fwSt} (hg : 0 ≤ g ∧ g ≤ 300000) (hs : stOk s) : stOk (mKeep g s) := by
  unfold mKeep
  split
  · exact hs
  · exact ⟨Or.inr rfl, hg⟩
theorem mSe_ok {G : (Nat → Int) → Int} {nc : Nat} (hnc : nc ≤ 10) (hG : ∀ H : Nat → Int, (∀ c : Nat, c < 10 → 0 ≤ H c ∧ H c ≤ 1000) → 0 ≤ G H ∧ G H ≤ 300000) : ∀ (k d fr : Nat) (H : Nat → Int) (s : fwSt), (∀ c : Nat, c < 10 → 0 ≤ H c ∧ H c ≤ 1000) → stOk s → stOk (mSe G nc k d fr H s) := by
  intro k
  induction k with
  | zero => intro d fr H s hH hs; exact mKeep_ok (hG H hH) hs
  | succ k ih =>
    intro d fr H s hH hs
    rw [mSe]
    have key : ∀ j, fr + j ≤ 10 → stOk (mSeL (mSe G nc k (d + 1)) d fr H s j) := by
      intro j
      induction j with
      | zero => intro _; exact hs
      | succ j ihj =>
        intro hj
        have h1 := ihj (by omega)
        rw [mSeL]
        split
        · rename_i q
          have h2 := hH (fr + j) (by omega)
          exact ih _ _ _ _ (fwFu_rng hH (by omega)) h1
        · exact h1
    rcases Nat.lt_or_ge nc fr with q | q
    · rw [show nc - fr = 0 by omega]; exact hs
    · exact key _ (by omega)
theorem mSeL_ok {G : (Nat → Int) → Int} {nc : Nat} (hnc : nc ≤ 10) (hG : ∀ H : Nat → Int, (∀ c : Nat, c < 10 → 0 ≤ H c ∧ H c ≤ 1000) → 0 ≤ G H ∧ G H ≤ 300000) (k d fr : Nat) (H : Nat → Int) (s : fwSt) (hH : ∀ c : Nat, c < 10 → 0 ≤ H c ∧ H c ≤ 1000) (hs : stOk s) : ∀ j, fr + j ≤ 10 → stOk (mSeL (mSe G nc k (d + 1)) d fr H s j) := by
  intro j
  induction j with
  | zero => intro _; exact hs
  | succ j ihj =>
    intro hj
    have h1 := ihj (by omega)
    rw [mSeL]
    split
    · rename_i q
      have h2 := hH (fr + j) (by omega)
      exact mSe_ok hnc hG _ _ _ _ _ (fwFu_rng hH (by omega)) h1
    · exact h1
/-- GAINS of all FOLK with the heights H -/
def mGt (h : fwH) (H : Nat → Int) : Int := mSum (mGain (h 4 0 1) H (h 4 0 2) (h 18 0)) (h 5 0 3).toNat
/-- the same on the trial ground -/
def mGt5 (h : fwH) (H : Nat → Int) : Int := mSum (mGain (h 4 5 1) H (h 4 5 2) (h 18 0)) (h 5 0 3).toNat
theorem mGt5_rng {h : fwH} (hP : pOk h 0) (hn : h 4 5 1 ≤ 10) : ∀ H : Nat → Int, (∀ c : Nat, c < 10 → 0 ≤ H c ∧ H c ≤ 1000) → 0 ≤ mGt5 h H ∧ mGt5 h H ≤ 300000 := by
  intro H hH
  have := mSum_rng (H := mGain (h 4 5 1) H (h 4 5 2) (h 18 0)) (b := 27000) (h 5 0 3).toNat (fun f hf => by
    have hp := hP.1
    have h1 := hP.2 f (by omega)
    exact mGain_rng hn hH h1.2.2.1 h1.2.2.2.1 h1.2.2.2.2.1)
  have hp := hP.1
  unfold mGt5
  omega
theorem mGt_rng {h : fwH} (hP : pOk h 0) (hn : h 4 0 1 ≤ 10) : ∀ H : Nat → Int, (∀ c : Nat, c < 10 → 0 ≤ H c ∧ H c ≤ 1000) → 0 ≤ mGt h H ∧ mGt h H ≤ 300000 := by
  intro H hH
  have := mSum_rng (H := mGain (h 4 0 1) H (h 4 0 2) (h 18 0)) (b := 27000) (h 5 0 3).toNat (fun f hf => by
    have hp := hP.1
    have h1 := hP.2 f (by omega)
    exact mGain_rng hn hH h1.2.2.1 h1.2.2.2.1 h1.2.2.2.2.1)
  have hp := hP.1
  unfold mGt
  omega
abbrev stOf (h : fwH) : fwSt := (h 27 0, h 8 0 6, h 8 0 5, h 28 0)
/-- the heap with a state of the search -/
def seH (h : fwH) (H : Nat → Int) (s : fwSt) (A : Nat → Int) : fwH := fwUc (fwUc (fwUc (fwUc (fwUc h 8 0 (seF (h 8 0) s.2.2.1 s.2.1)) 17 5 H) 20 0 A) 27 0 s.1) 28 0 s.2.2.2
theorem seH_self (h : fwH) (A : Nat → Int) : seH h (h 17 5) (stOf h) A = fwUc h 20 0 A := by
  unfold seH stOf
  dsimp only
  rw [seF_self, fwUc_self, fwUc_self]
  rw [show fwUc (fwUc h 20 0 A) 27 0 (h 27 0) = fwUc h 20 0 A from fwUc_self (fwUc h 20 0 A) 27 0]
  exact fwUc_self (fwUc h 20 0 A) 28 0
theorem seH_self' (h : fwH) : seH h (h 17 5) (stOf h) (h 20 0) = h := by rw [seH_self, fwUc_self]
theorem fwKeepE (h : fwH) (A : Nat → Int) (g : Int) : fwUc (fwUp (fwUp (fwUc h 20 0 A) 8 0 6 1) 8 0 5 g) 28 0 (h 27 0) = seH h (h 17 5) (h 27 0, 1, g, h 27 0) A := by
  have e1 : fwUp (fwUp (fwUc h 20 0 A) 8 0 6 1) 8 0 5 g = fwUc (fwUc h 20 0 A) 8 0 (seF (h 8 0) g 1) := by
    rw [fwUp_fu (fwUc h 20 0 A) 8 0 6 1, fwUp_uc]
    refine congrArg (fwUc (fwUc h 20 0 A) 8 0) ?_
    funext s
    show fwFu (fwFu (h 8 0) 6 1) 5 g s = seF (h 8 0) g 1 s
    unfold seF fwFu
    by_cases e5 : s = 5
    · simp [e5]
    · by_cases e6 : s = 6
      · simp [e6]
      · simp [e5, e6]
  rw [e1]
  unfold seH
  dsimp only
  rw [show fwUc (fwUc h 8 0 (seF (h 8 0) g 1)) 17 5 (h 17 5) = fwUc h 8 0 (seF (h 8 0) g 1) from fwUc_self (fwUc h 8 0 (seF (h 8 0) g 1)) 17 5]
  rw [show fwUc (fwUc (fwUc h 8 0 (seF (h 8 0) g 1)) 20 0 A) 27 0 (h 27 0) = fwUc (fwUc h 8 0 (seF (h 8 0) g 1)) 20 0 A from fwUc_self (fwUc (fwUc h 8 0 (seF (h 8 0) g 1)) 20 0 A) 27 0]
  rw [fwUc_comm h (k := 20) (i := 0) (k' := 8) (i' := 0) A _ (by decide)]
set_option maxRecDepth 100000 in
set_option maxHeartbeats 4000000 in
theorem c_X7_keepIfBetter {d : Nat} {h : fwH} {Q : Option fwV → fwH → Prop}  (hP : pOk h 0) (hG : gOk h 5) (hS : stOk (stOf h)) (k : ∀ A, Q none (seH h (h 17 5) (mKeep (mGt5 h (h 17 5)) (stOf h)) A)) : fwCt mX7_keepIfBetter (d + 4) [aR 8 0] h Q := by
  refine fwCt_of [some (aR 8 0), none, none] rfl rfl rfl ?_
  obtain ⟨⟨g1, g2⟩, ⟨g3, g4⟩, ⟨g5, g6⟩, g7, g8⟩ := id hG
  obtain ⟨s1, s2, s3⟩ := id hS
  dsimp only [stOf] at s1 s2 s3
  refine w_aload_n dX7_keepIfBetter_0 rfl ?_
  refine w_getr 3 0 dX7_keepIfBetter_1 fl_X7_21 rfl (by decide) ?_
  refine w_getr 5 0 dX7_keepIfBetter_4 fl_X7_52 rfl (by decide) ?_
  refine w_aload_n dX7_keepIfBetter_7 rfl ?_
  refine w_getr 4 5 dX7_keepIfBetter_8 fl_X7_25 rfl (by decide) ?_
  refine w_callV (d := d + 3) (S := []) [aR 4 5] dX7_keepIfBetter_11 ml_X7_104 ok_X3_gainsOn vi_X3_gainsOn rfl rfl (by decide) rfl (Nat.le_of_ble_eq_true rfl) ?_
  refine c_X3_gainsOn (d := d) 0 5 (by decide) (by decide) (by first | assumption | omega | decide) (by first | assumption | omega | decide) ?_
  intro A1
  show fwWP mX7_keepIfBetter (d + 4) 14 [some (aR 8 0), none, none] [aI (mSum (mGain (h 4 5 1) (h 17 5) (h 4 5 2) (h 18 0)) (h 5 0 3).toNat)] (fwUc h 20 0 A1) Q
  have hgr : 0 ≤ mGt5 h (h 17 5) ∧ mGt5 h (h 17 5) ≤ 300000 := mGt5_rng hP g2 _ g8
  change fwWP mX7_keepIfBetter (d + 4) 14 [some (aR 8 0), none, none] [aI (mGt5 h (h 17 5))] (fwUc h 20 0 A1) Q
  refine w_istore_n [some (aR 8 0), some (aI (mGt5 h (h 17 5))), none] dX7_keepIfBetter_14 rfl (by decide) ?_
  refine w_aload_n dX7_keepIfBetter_15 rfl ?_
  refine w_getiE (v := h 8 0 6) dX7_keepIfBetter_16 fl_X7_90 rfl (by decide) rfl ?_
  refine w_if_eq 31 dX7_keepIfBetter_19 (by decide) (by omega) (fun c19 => ?_) (fun c19 => ?_)
  · refine w_aload_n dX7_keepIfBetter_31 rfl ?_
    refine w_iconst dX7_keepIfBetter_32 ?_
    refine w_putz dX7_keepIfBetter_33 fl_X7_90 fp_8_6 rfl (by first | omega | exact fwB_01 _) (by decide) ?_
    refine w_aload_n dX7_keepIfBetter_36 rfl ?_
    refine w_iload_n dX7_keepIfBetter_37 rfl ?_
    refine w_puti dX7_keepIfBetter_38 fl_X7_98 fp_8_5 rfl (by decide) ?_
    refine w_iconst dX7_keepIfBetter_41 ?_
    refine w_istore_n [some (aR 8 0), some (aI (mGt5 h (h 17 5))), some (aI 0)] dX7_keepIfBetter_42 rfl (by decide) ?_
    have lp43 : ∀ c : Nat, c ≤ 3 → ∀ (y43  : Int) (hh43 : fwH), y43 = (c : Int) → hh43 = (fwUc (fwUp (fwUp (fwUc h 20 0 A1) 8 0 6 1) 8 0 5 (mGt5 h (h 17 5))) 28 0 (fwFl (h 27 0) (h 28 0) c)) → fwWP mX7_keepIfBetter (d + 4) 43 [some (aR 8 0), some (aI (mGt5 h (h 17 5))), some (aI y43)] [] hh43 Q := by
      refine fw_up (fun c hc43 ih43 => ?_)
      intro y43  hh43 ey43 eh43
      subst ey43
      subst eh43
      show fwWP mX7_keepIfBetter (d + 4) 43 [some (aR 8 0), some (aI (mGt5 h (h 17 5))), some (aI (c : Int))] [] (fwUc (fwUp (fwUp (fwUc h 20 0 A1) 8 0 6 1) 8 0 5 (mGt5 h (h 17 5))) 28 0 (fwFl (h 27 0) (h 28 0) c)) Q
      refine w_iload_n dX7_keepIfBetter_43 rfl ?_
      refine w_iconst dX7_keepIfBetter_44 ?_
      refine w_icmp_ge 66 dX7_keepIfBetter_45 (by decide) (by omega) (by omega) (fun c45 => ?_) (fun c45 => ?_)
      · have ec43 : 3 = c := by omega
        subst ec43
        have k9 := k A1
        rw [show mKeep (mGt5 h (h 17 5)) (stOf h) = (h 27 0, 1, mGt5 h (h 17 5), h 27 0) from by rw [mKeep, if_neg (by intro q; have q1 : h 8 0 6 ≠ 0 := q.1; have q2 : mGt5 h (h 17 5) ≤ h 8 0 5 := q.2; omega)]] at k9
        refine w_heq _ (fwFl_all (by decide)) ?_
        rw [show (fwUc (fwUp (fwUp (fwUc h 20 0 A1) 8 0 6 1) 8 0 5 (mGt5 h (h 17 5))) 28 0 (h 27 0)) = seH h (h 17 5) (h 27 0, 1, mGt5 h (h 17 5), h 27 0) A1 from fwKeepE h A1 _]
        exact w_vret dX7_keepIfBetter_66 rfl k9
      · refine w_aload_n dX7_keepIfBetter_48 rfl ?_
        refine w_getr 28 0 dX7_keepIfBetter_49 fl_X7_18 rfl (by decide) ?_
        refine w_iload_n dX7_keepIfBetter_52 rfl ?_
        refine w_aload_n dX7_keepIfBetter_53 rfl ?_
        refine w_getr 27 0 dX7_keepIfBetter_54 fl_X7_15 rfl (by decide) ?_
        refine w_iload_n dX7_keepIfBetter_57 rfl ?_
        refine w_ialdE (v := h 27 0 c) dX7_keepIfBetter_58 rfl (by decide) (by omega) (by omega) rfl ?_
        refine w_iast dX7_keepIfBetter_59 rfl (by decide) (by omega) (by omega) ?_
        refine w_iinc [some (aR 8 0), some (aI (mGt5 h (h 17 5))), some (aI ((c : Int) + 1))] dX7_keepIfBetter_60 rfl rfl (by decide) ?_
        refine w_goto 43 dX7_keepIfBetter_63 (by decide) ?_
        refine ih43 (by omega) _ _ ?_ ?_
        · exact (by omega)
        · exact (by rw [fwUp_uc, Int.toNat_natCast]; exact congrArg _ (fwFl_succ (h 27 0) (h 28 0) c))
    refine lp43 0 (Nat.zero_le _) _ _ ?_ ?_
    · exact (by omega)
    · exact (by rw [fwFl_0]; exact (fwUc_self _ 28 0).symm)
  · refine w_iload_n dX7_keepIfBetter_22 rfl ?_
    refine w_aload_n dX7_keepIfBetter_23 rfl ?_
    refine w_getiE (v := h 8 0 5) dX7_keepIfBetter_24 fl_X7_98 rfl (by decide) rfl ?_
    refine w_icmp_gt 31 dX7_keepIfBetter_27 (by decide) (by omega) (by omega) (fun c27 => ?_) (fun c27 => ?_)
    · refine w_aload_n dX7_keepIfBetter_31 rfl ?_
      refine w_iconst dX7_keepIfBetter_32 ?_
      refine w_putz dX7_keepIfBetter_33 fl_X7_90 fp_8_6 rfl (by first | omega | exact fwB_01 _) (by decide) ?_
      refine w_aload_n dX7_keepIfBetter_36 rfl ?_
      refine w_iload_n dX7_keepIfBetter_37 rfl ?_
      refine w_puti dX7_keepIfBetter_38 fl_X7_98 fp_8_5 rfl (by decide) ?_
      refine w_iconst dX7_keepIfBetter_41 ?_
      refine w_istore_n [some (aR 8 0), some (aI (mGt5 h (h 17 5))), some (aI 0)] dX7_keepIfBetter_42 rfl (by decide) ?_
      have lp43 : ∀ c : Nat, c ≤ 3 → ∀ (y43  : Int) (hh43 : fwH), y43 = (c : Int) → hh43 = (fwUc (fwUp (fwUp (fwUc h 20 0 A1) 8 0 6 1) 8 0 5 (mGt5 h (h 17 5))) 28 0 (fwFl (h 27 0) (h 28 0) c)) → fwWP mX7_keepIfBetter (d + 4) 43 [some (aR 8 0), some (aI (mGt5 h (h 17 5))), some (aI y43)] [] hh43 Q := by
        refine fw_up (fun c hc43 ih43 => ?_)
        intro y43  hh43 ey43 eh43
        subst ey43
        subst eh43
        show fwWP mX7_keepIfBetter (d + 4) 43 [some (aR 8 0), some (aI (mGt5 h (h 17 5))), some (aI (c : Int))] [] (fwUc (fwUp (fwUp (fwUc h 20 0 A1) 8 0 6 1) 8 0 5 (mGt5 h (h 17 5))) 28 0 (fwFl (h 27 0) (h 28 0) c)) Q
        refine w_iload_n dX7_keepIfBetter_43 rfl ?_
        refine w_iconst dX7_keepIfBetter_44 ?_
        refine w_icmp_ge 66 dX7_keepIfBetter_45 (by decide) (by omega) (by omega) (fun c45 => ?_) (fun c45 => ?_)
        · have ec43 : 3 = c := by omega
          subst ec43
          have k9 := k A1
          rw [show mKeep (mGt5 h (h 17 5)) (stOf h) = (h 27 0, 1, mGt5 h (h 17 5), h 27 0) from by rw [mKeep, if_neg (by intro q; have q1 : h 8 0 6 ≠ 0 := q.1; have q2 : mGt5 h (h 17 5) ≤ h 8 0 5 := q.2; omega)]] at k9
          refine w_heq _ (fwFl_all (by decide)) ?_
          rw [show (fwUc (fwUp (fwUp (fwUc h 20 0 A1) 8 0 6 1) 8 0 5 (mGt5 h (h 17 5))) 28 0 (h 27 0)) = seH h (h 17 5) (h 27 0, 1, mGt5 h (h 17 5), h 27 0) A1 from fwKeepE h A1 _]
          exact w_vret dX7_keepIfBetter_66 rfl k9
        · refine w_aload_n dX7_keepIfBetter_48 rfl ?_
          refine w_getr 28 0 dX7_keepIfBetter_49 fl_X7_18 rfl (by decide) ?_
          refine w_iload_n dX7_keepIfBetter_52 rfl ?_
          refine w_aload_n dX7_keepIfBetter_53 rfl ?_
          refine w_getr 27 0 dX7_keepIfBetter_54 fl_X7_15 rfl (by decide) ?_
          refine w_iload_n dX7_keepIfBetter_57 rfl ?_
          refine w_ialdE (v := h 27 0 c) dX7_keepIfBetter_58 rfl (by decide) (by omega) (by omega) rfl ?_
          refine w_iast dX7_keepIfBetter_59 rfl (by decide) (by omega) (by omega) ?_
          refine w_iinc [some (aR 8 0), some (aI (mGt5 h (h 17 5))), some (aI ((c : Int) + 1))] dX7_keepIfBetter_60 rfl rfl (by decide) ?_
          refine w_goto 43 dX7_keepIfBetter_63 (by decide) ?_
          refine ih43 (by omega) _ _ ?_ ?_
          · exact (by omega)
          · exact (by rw [fwUp_uc, Int.toNat_natCast]; exact congrArg _ (fwFl_succ (h 27 0) (h 28 0) c))
      refine lp43 0 (Nat.zero_le _) _ _ ?_ ?_
      · exact (by omega)
      · exact (by rw [fwFl_0]; exact (fwUc_self _ 28 0).symm)
    · have k9 := k A1
      rw [show mKeep (mGt5 h (h 17 5)) (stOf h) = stOf h from by rw [mKeep, if_pos ⟨by assumption, by omega⟩], seH_self] at k9
      exact w_vret dX7_keepIfBetter_30 rfl k9
set_option maxRecDepth 100000 in
set_option maxHeartbeats 4000000 in
theorem c_search0 {d : Nat} {h : fwH} {Q : Option fwV → fwH → Prop} (dp fr : Nat) (hP : pOk h 0) (hG : gOk h 5) (hS : stOk (stOf h)) (hd : dp + 0 ≤ 3) (hfr : (fr : Int) ≤ h 4 5 1) (k : ∀ A, Q none (seH h (h 17 5) (mSe (mGt5 h) (h 4 5 1).toNat 0 dp fr (h 17 5) (stOf h)) A)) : fwCt mX7_search (d + 5) [aR 8 0, aI ((dp : Int) + 0), aI (dp : Int), aI (fr : Int)] h Q := by
  refine fwCt_of [some (aR 8 0), some (aI ((dp : Int) + 0)), some (aI (dp : Int)), some (aI (fr : Int)), none] rfl rfl rfl ?_
  refine w_iload_n dX7_search_0 rfl ?_
  refine w_iload_n dX7_search_1 rfl ?_
  refine w_icmp_ge 10 dX7_search_2 (by decide) (by omega) (by omega) (fun c2 => ?_) (fun c2 => ?_)
  · refine w_aload_n dX7_search_10 rfl ?_
    refine w_callV (d := d + 4) (S := []) [] dX7_search_11 ml_X7_101 ok_X7_keepIfBetter vi_X7_keepIfBetter rfl rfl (by decide) rfl (Nat.le_of_ble_eq_true rfl) ?_
    refine c_X7_keepIfBetter (d := d) (by first | assumption | omega | decide) (by first | assumption | omega | decide) (by first | assumption | omega | decide) ?_
    intro A1
    show fwWP mX7_search (d + 5) 14 [some (aR 8 0), some (aI ((dp : Int) + 0)), some (aI (dp : Int)), some (aI (fr : Int)), none] [] (seH h (h 17 5) (mKeep (mGt5 h (h 17 5)) (stOf h)) A1) Q
    exact w_vret dX7_search_14 rfl (k _)
  · (exfalso; omega)
theorem c_search0E {d : Nat} {h : fwH} {Q : Option fwV → fwH → Prop} (dp fr : Nat) (n x y : Int) (en : n = (dp : Int) + 0) (ex : x = (dp : Int)) (ey : y = (fr : Int)) (hP : pOk h 0) (hG : gOk h 5) (hS : stOk (stOf h)) (hd : dp + 0 ≤ 3) (hfr : (fr : Int) ≤ h 4 5 1) (k : ∀ A, Q none (seH h (h 17 5) (mSe (mGt5 h) (h 4 5 1).toNat 0 dp fr (h 17 5) (stOf h)) A)) : fwCt mX7_search (d + 5) [aR 8 0, aI n, aI x, aI y] h Q := by
  subst en ex ey
  exact c_search0 dp fr hP hG hS hd hfr k
set_option maxRecDepth 100000 in
set_option maxHeartbeats 4000000 in
theorem c_search1 {d : Nat} {h : fwH} {Q : Option fwV → fwH → Prop} (dp fr : Nat) (hP : pOk h 0) (hG : gOk h 5) (hS : stOk (stOf h)) (hd : dp + 1 ≤ 3) (hfr : (fr : Int) ≤ h 4 5 1) (k : ∀ A, Q none (seH h (h 17 5) (mSe (mGt5 h) (h 4 5 1).toNat 1 dp fr (h 17 5) (stOf h)) A)) : fwCt mX7_search (d + 6) [aR 8 0, aI ((dp : Int) + 1), aI (dp : Int), aI (fr : Int)] h Q := by
  refine fwCt_of [some (aR 8 0), some (aI ((dp : Int) + 1)), some (aI (dp : Int)), some (aI (fr : Int)), none] rfl rfl rfl ?_
  obtain ⟨⟨g1, g2⟩, ⟨g3, g4⟩, ⟨g5, g6⟩, g7, g8⟩ := id hG
  refine w_iload_n dX7_search_0 rfl ?_
  refine w_iload_n dX7_search_1 rfl ?_
  refine w_icmp_ge 10 dX7_search_2 (by decide) (by omega) (by omega) (fun c2 => ?_) (fun c2 => ?_)
  · (exfalso; omega)
  · refine w_iload_n dX7_search_5 rfl ?_
    refine w_iconst dX7_search_6 ?_
    refine w_icmp_lt 15 dX7_search_7 (by decide) (by omega) (by omega) (fun c7 => ?_) (fun c7 => ?_)
    · refine w_iload_n dX7_search_15 rfl ?_
      refine w_istore [some (aR 8 0), some (aI ((dp : Int) + 1)), some (aI (dp : Int)), some (aI (fr : Int)), some (aI (fr : Int))] dX7_search_16 rfl (by decide) ?_
      have lp18 : ∀ j : Nat, j ≤ ((h 4 5 1).toNat - fr) → ∀ (y18  : Int) (hh18 : fwH), y18 = (fr : Int) + (j : Int) → (∃ A : Nat → Int, hh18 = (fwUc (fwUc (fwUc (fwUc (fwUc h 8 0 (seF (h 8 0) (mSeL (mSe (mGt5 h) (h 4 5 1).toNat 0 (dp + 1)) dp fr (h 17 5) (stOf h) j).2.2.1 (mSeL (mSe (mGt5 h) (h 4 5 1).toNat 0 (dp + 1)) dp fr (h 17 5) (stOf h) j).2.1)) 17 5 (h 17 5)) 20 0 A) 27 0 (mSeL (mSe (mGt5 h) (h 4 5 1).toNat 0 (dp + 1)) dp fr (h 17 5) (stOf h) j).1) 28 0 (mSeL (mSe (mGt5 h) (h 4 5 1).toNat 0 (dp + 1)) dp fr (h 17 5) (stOf h) j).2.2.2)) → fwWP mX7_search (d + 6) 18 [some (aR 8 0), some (aI ((dp : Int) + 1)), some (aI (dp : Int)), some (aI (fr : Int)), some (aI y18)] [] hh18 Q := by
        refine fw_up (fun j hc18 ih18 => ?_)
        intro y18  hh18 ey18 eh18
        subst ey18
        obtain ⟨A_18, eh18⟩ := eh18
        subst eh18
        have hSj := mSeL_ok (nc := (h 4 5 1).toNat) (by omega) (mGt5_rng hP g2) 0 dp fr (h 17 5) (stOf h) g8 hS j (by omega)
        show fwWP mX7_search (d + 6) 18 [some (aR 8 0), some (aI ((dp : Int) + 1)), some (aI (dp : Int)), some (aI (fr : Int)), some (aI ((fr : Int) + (j : Int)))] [] (fwUc (fwUc (fwUc (fwUc (fwUc h 8 0 (seF (h 8 0) (mSeL (mSe (mGt5 h) (h 4 5 1).toNat 0 (dp + 1)) dp fr (h 17 5) (stOf h) j).2.2.1 (mSeL (mSe (mGt5 h) (h 4 5 1).toNat 0 (dp + 1)) dp fr (h 17 5) (stOf h) j).2.1)) 17 5 (h 17 5)) 20 0 A_18) 27 0 (mSeL (mSe (mGt5 h) (h 4 5 1).toNat 0 (dp + 1)) dp fr (h 17 5) (stOf h) j).1) 28 0 (mSeL (mSe (mGt5 h) (h 4 5 1).toNat 0 (dp + 1)) dp fr (h 17 5) (stOf h) j).2.2.2) Q
        refine w_iload dX7_search_18 rfl ?_
        refine w_aload_n dX7_search_20 rfl ?_
        refine w_getr 4 5 dX7_search_21 fl_X7_25 rfl (by decide) ?_
        refine w_getiE (v := h 4 5 1) dX7_search_24 fl_X7_40 rfl (by decide) (by first | rfl | simp [fwUp, fwUc]) ?_
        refine w_icmp_ge 86 dX7_search_27 (by decide) (by omega) (by omega) (fun c27 => ?_) (fun c27 => ?_)
        · have ec18 : ((h 4 5 1).toNat - fr) = j := by omega
          subst ec18
          exact w_vret dX7_search_86 rfl (k _)
        · have hG6 : gOk (fwUc (fwUc (fwUc (fwUc (fwUc h 8 0 (seF (h 8 0) (mSeL (mSe (mGt5 h) (h 4 5 1).toNat 0 (dp + 1)) dp fr (h 17 5) (stOf h) j).2.2.1 (mSeL (mSe (mGt5 h) (h 4 5 1).toNat 0 (dp + 1)) dp fr (h 17 5) (stOf h) j).2.1)) 17 5 (h 17 5)) 20 0 A_18) 27 0 (mSeL (mSe (mGt5 h) (h 4 5 1).toNat 0 (dp + 1)) dp fr (h 17 5) (stOf h) j).1) 28 0 (mSeL (mSe (mGt5 h) (h 4 5 1).toNat 0 (dp + 1)) dp fr (h 17 5) (stOf h) j).2.2.2) 5 := ⟨hG.1, hG.2.1, hG.2.2.1, hG.2.2.2.1, hG.2.2.2.2⟩
          refine w_aload_n dX7_search_30 rfl ?_
          refine w_getr 4 5 dX7_search_31 fl_X7_25 rfl (by decide) ?_
          refine w_iload dX7_search_34 rfl ?_
          refine w_callV (d := d + 5) (S := []) [aI ((fr : Int) + (j : Int))] dX7_search_36 ml_X7_44 ok_X1_heightOf vi_X1_heightOf rfl rfl (by decide) rfl (Nat.le_of_ble_eq_true rfl) ?_
          refine c_X1_heightOfE (d := (d + 5)) 5 ((fr : Int) + (j : Int)) (h 17 5 (fr + j)) (by decide) (by first | assumption | omega | decide) (by first | assumption | omega | decide) (hOf_in (n := h 4 5 1) (H := h 17 5) (c := fr + j) (by omega)) ?_
          show fwWP mX7_search (d + 6) 39 [some (aR 8 0), some (aI ((dp : Int) + 1)), some (aI (dp : Int)), some (aI (fr : Int)), some (aI ((fr : Int) + (j : Int)))] [aI (h 17 5 (fr + j))] (fwUc (fwUc (fwUc (fwUc (fwUc h 8 0 (seF (h 8 0) (mSeL (mSe (mGt5 h) (h 4 5 1).toNat 0 (dp + 1)) dp fr (h 17 5) (stOf h) j).2.2.1 (mSeL (mSe (mGt5 h) (h 4 5 1).toNat 0 (dp + 1)) dp fr (h 17 5) (stOf h) j).2.1)) 17 5 (h 17 5)) 20 0 A_18) 27 0 (mSeL (mSe (mGt5 h) (h 4 5 1).toNat 0 (dp + 1)) dp fr (h 17 5) (stOf h) j).1) 28 0 (mSeL (mSe (mGt5 h) (h 4 5 1).toNat 0 (dp + 1)) dp fr (h 17 5) (stOf h) j).2.2.2) Q
          have hc1 := g8 (fr + j) (by omega)
          refine w_if_le 80 dX7_search_39 (by decide) (by omega) (fun c39 => ?_) (fun c39 => ?_)
          · refine w_iinc [some (aR 8 0), some (aI ((dp : Int) + 1)), some (aI (dp : Int)), some (aI (fr : Int)), some (aI (((fr : Int) + (j : Int)) + 1))] dX7_search_80 rfl rfl (by decide) ?_
            refine w_goto 18 dX7_search_83 (by decide) ?_
            refine ih18 (by omega) _ _ ?_ ?_
            · exact (by omega)
            · exact ⟨_, by rw [mSeL, if_neg (by omega)]⟩
          · refine w_aload_n dX7_search_42 rfl ?_
            refine w_getr 4 5 dX7_search_43 fl_X7_25 rfl (by decide) ?_
            refine w_iload dX7_search_46 rfl ?_
            refine w_iconst dX7_search_48 ?_
            refine w_callV (d := d + 5) (S := []) [aI ((fr : Int) + (j : Int)), aI (-1)] dX7_search_49 ml_X7_48 ok_X1_change vi_X1_change rfl rfl (by decide) rfl (Nat.le_of_ble_eq_true rfl) ?_
            refine c_X1_changeE (d := (d + 4)) 5 ((fr : Int) + (j : Int)) (-1) (by decide) (by first | assumption | omega | decide) (by first | assumption | omega | decide) (show (fr : Int) + (j : Int) < h 4 5 1 by first | assumption | omega | decide) ?_
            show fwWP mX7_search (d + 6) 52 [some (aR 8 0), some (aI ((dp : Int) + 1)), some (aI (dp : Int)), some (aI (fr : Int)), some (aI ((fr : Int) + (j : Int)))] [] (fwUc (fwUc (fwUc (fwUc (fwUc (fwUc h 8 0 (seF (h 8 0) (mSeL (mSe (mGt5 h) (h 4 5 1).toNat 0 (dp + 1)) dp fr (h 17 5) (stOf h) j).2.2.1 (mSeL (mSe (mGt5 h) (h 4 5 1).toNat 0 (dp + 1)) dp fr (h 17 5) (stOf h) j).2.1)) 17 5 (h 17 5)) 20 0 A_18) 27 0 (mSeL (mSe (mGt5 h) (h 4 5 1).toNat 0 (dp + 1)) dp fr (h 17 5) (stOf h) j).1) 28 0 (mSeL (mSe (mGt5 h) (h 4 5 1).toNat 0 (dp + 1)) dp fr (h 17 5) (stOf h) j).2.2.2) 17 5 (fwFu ((h 17 5)) ((fr : Int) + (j : Int)).toNat ((h 17 5) ((fr : Int) + (j : Int)).toNat + (-1)))) Q
            rw [show fwUc (fwUc (fwUc (fwUc (fwUc (fwUc h 8 0 (seF (h 8 0) (mSeL (mSe (mGt5 h) (h 4 5 1).toNat 0 (dp + 1)) dp fr (h 17 5) (stOf h) j).2.2.1 (mSeL (mSe (mGt5 h) (h 4 5 1).toNat 0 (dp + 1)) dp fr (h 17 5) (stOf h) j).2.1)) 17 5 (h 17 5)) 20 0 A_18) 27 0 (mSeL (mSe (mGt5 h) (h 4 5 1).toNat 0 (dp + 1)) dp fr (h 17 5) (stOf h) j).1) 28 0 (mSeL (mSe (mGt5 h) (h 4 5 1).toNat 0 (dp + 1)) dp fr (h 17 5) (stOf h) j).2.2.2) 17 5 (fwFu ((h 17 5)) ((fr : Int) + (j : Int)).toNat ((h 17 5) ((fr : Int) + (j : Int)).toNat + (-1))) = (fwUc (fwUc (fwUc (fwUc (fwUc h 8 0 (seF (h 8 0) (mSeL (mSe (mGt5 h) (h 4 5 1).toNat 0 (dp + 1)) dp fr (h 17 5) (stOf h) j).2.2.1 (mSeL (mSe (mGt5 h) (h 4 5 1).toNat 0 (dp + 1)) dp fr (h 17 5) (stOf h) j).2.1)) 17 5 (fwFu ((h 17 5)) ((fr : Int) + (j : Int)).toNat ((h 17 5) ((fr : Int) + (j : Int)).toNat + (-1)))) 20 0 A_18) 27 0 ((mSeL (mSe (mGt5 h) (h 4 5 1).toNat 0 (dp + 1)) dp fr (h 17 5) (stOf h) j).1)) 28 0 ((mSeL (mSe (mGt5 h) (h 4 5 1).toNat 0 (dp + 1)) dp fr (h 17 5) (stOf h) j).2.2.2)) from by funext a b; simp only [fwUc]; (repeat' split); all_goals first | rfl | (exfalso; omega)]
            rw [show (fwUc (fwUc (fwUc (fwUc (fwUc h 8 0 (seF (h 8 0) (mSeL (mSe (mGt5 h) (h 4 5 1).toNat 0 (dp + 1)) dp fr (h 17 5) (stOf h) j).2.2.1 (mSeL (mSe (mGt5 h) (h 4 5 1).toNat 0 (dp + 1)) dp fr (h 17 5) (stOf h) j).2.1)) 17 5 (fwFu ((h 17 5)) ((fr : Int) + (j : Int)).toNat ((h 17 5) ((fr : Int) + (j : Int)).toNat + (-1)))) 20 0 A_18) 27 0 ((mSeL (mSe (mGt5 h) (h 4 5 1).toNat 0 (dp + 1)) dp fr (h 17 5) (stOf h) j).1)) 28 0 ((mSeL (mSe (mGt5 h) (h 4 5 1).toNat 0 (dp + 1)) dp fr (h 17 5) (stOf h) j).2.2.2)) = (fwUc (fwUc (fwUc (fwUc (fwUc h 8 0 (seF (h 8 0) (mSeL (mSe (mGt5 h) (h 4 5 1).toNat 0 (dp + 1)) dp fr (h 17 5) (stOf h) j).2.2.1 (mSeL (mSe (mGt5 h) (h 4 5 1).toNat 0 (dp + 1)) dp fr (h 17 5) (stOf h) j).2.1)) 17 5 ((fwFu (h 17 5) (fr + j) (h 17 5 (fr + j) + -1)))) 20 0 A_18) 27 0 (mSeL (mSe (mGt5 h) (h 4 5 1).toNat 0 (dp + 1)) dp fr (h 17 5) (stOf h) j).1) 28 0 (mSeL (mSe (mGt5 h) (h 4 5 1).toNat 0 (dp + 1)) dp fr (h 17 5) (stOf h) j).2.2.2) from by rw [show ((fr : Int) + (j : Int)).toNat = fr + j by omega]]
            refine w_aload_n dX7_search_52 rfl ?_
            refine w_getr 27 0 dX7_search_53 fl_X7_15 rfl (by decide) ?_
            refine w_iload_n dX7_search_56 rfl ?_
            refine w_iload dX7_search_57 rfl ?_
            refine w_iast dX7_search_59 rfl (by decide) (by omega) (by omega) ?_
            rw [show (fwUp (fwUc (fwUc (fwUc (fwUc (fwUc h 8 0 (seF (h 8 0) (mSeL (mSe (mGt5 h) (h 4 5 1).toNat 0 (dp + 1)) dp fr (h 17 5) (stOf h) j).2.2.1 (mSeL (mSe (mGt5 h) (h 4 5 1).toNat 0 (dp + 1)) dp fr (h 17 5) (stOf h) j).2.1)) 17 5 ((fwFu (h 17 5) (fr + j) (h 17 5 (fr + j) + -1)))) 20 0 A_18) 27 0 (mSeL (mSe (mGt5 h) (h 4 5 1).toNat 0 (dp + 1)) dp fr (h 17 5) (stOf h) j).1) 28 0 (mSeL (mSe (mGt5 h) (h 4 5 1).toNat 0 (dp + 1)) dp fr (h 17 5) (stOf h) j).2.2.2) 27 0 ((dp : Int)).toNat ((fr : Int) + (j : Int))) = (fwUc (fwUc (fwUc (fwUc (fwUc (fwUc h 8 0 (seF (h 8 0) (mSeL (mSe (mGt5 h) (h 4 5 1).toNat 0 (dp + 1)) dp fr (h 17 5) (stOf h) j).2.2.1 (mSeL (mSe (mGt5 h) (h 4 5 1).toNat 0 (dp + 1)) dp fr (h 17 5) (stOf h) j).2.1)) 17 5 ((fwFu (h 17 5) (fr + j) (h 17 5 (fr + j) + -1)))) 20 0 A_18) 27 0 (mSeL (mSe (mGt5 h) (h 4 5 1).toNat 0 (dp + 1)) dp fr (h 17 5) (stOf h) j).1) 28 0 (mSeL (mSe (mGt5 h) (h 4 5 1).toNat 0 (dp + 1)) dp fr (h 17 5) (stOf h) j).2.2.2) 27 0 (fwFu (((mSeL (mSe (mGt5 h) (h 4 5 1).toNat 0 (dp + 1)) dp fr (h 17 5) (stOf h) j).1)) ((dp : Int)).toNat ((fr : Int) + (j : Int)))) from fwUp_fu _ _ _ _ _]
            rw [show (fwUc (fwUc (fwUc (fwUc (fwUc (fwUc h 8 0 (seF (h 8 0) (mSeL (mSe (mGt5 h) (h 4 5 1).toNat 0 (dp + 1)) dp fr (h 17 5) (stOf h) j).2.2.1 (mSeL (mSe (mGt5 h) (h 4 5 1).toNat 0 (dp + 1)) dp fr (h 17 5) (stOf h) j).2.1)) 17 5 ((fwFu (h 17 5) (fr + j) (h 17 5 (fr + j) + -1)))) 20 0 A_18) 27 0 (mSeL (mSe (mGt5 h) (h 4 5 1).toNat 0 (dp + 1)) dp fr (h 17 5) (stOf h) j).1) 28 0 (mSeL (mSe (mGt5 h) (h 4 5 1).toNat 0 (dp + 1)) dp fr (h 17 5) (stOf h) j).2.2.2) 27 0 (fwFu (((mSeL (mSe (mGt5 h) (h 4 5 1).toNat 0 (dp + 1)) dp fr (h 17 5) (stOf h) j).1)) ((dp : Int)).toNat ((fr : Int) + (j : Int)))) = (fwUc (fwUc (fwUc (fwUc (fwUc h 8 0 (seF (h 8 0) (mSeL (mSe (mGt5 h) (h 4 5 1).toNat 0 (dp + 1)) dp fr (h 17 5) (stOf h) j).2.2.1 (mSeL (mSe (mGt5 h) (h 4 5 1).toNat 0 (dp + 1)) dp fr (h 17 5) (stOf h) j).2.1)) 17 5 ((fwFu (h 17 5) (fr + j) (h 17 5 (fr + j) + -1)))) 20 0 A_18) 27 0 (fwFu (((mSeL (mSe (mGt5 h) (h 4 5 1).toNat 0 (dp + 1)) dp fr (h 17 5) (stOf h) j).1)) ((dp : Int)).toNat ((fr : Int) + (j : Int)))) 28 0 ((mSeL (mSe (mGt5 h) (h 4 5 1).toNat 0 (dp + 1)) dp fr (h 17 5) (stOf h) j).2.2.2)) from by funext a b; simp only [fwUc]; (repeat' split); all_goals first | rfl | (exfalso; omega)]
            rw [show (fwUc (fwUc (fwUc (fwUc (fwUc h 8 0 (seF (h 8 0) (mSeL (mSe (mGt5 h) (h 4 5 1).toNat 0 (dp + 1)) dp fr (h 17 5) (stOf h) j).2.2.1 (mSeL (mSe (mGt5 h) (h 4 5 1).toNat 0 (dp + 1)) dp fr (h 17 5) (stOf h) j).2.1)) 17 5 ((fwFu (h 17 5) (fr + j) (h 17 5 (fr + j) + -1)))) 20 0 A_18) 27 0 (fwFu (((mSeL (mSe (mGt5 h) (h 4 5 1).toNat 0 (dp + 1)) dp fr (h 17 5) (stOf h) j).1)) ((dp : Int)).toNat ((fr : Int) + (j : Int)))) 28 0 ((mSeL (mSe (mGt5 h) (h 4 5 1).toNat 0 (dp + 1)) dp fr (h 17 5) (stOf h) j).2.2.2)) = (fwUc (fwUc (fwUc (fwUc (fwUc h 8 0 (seF (h 8 0) (mSeL (mSe (mGt5 h) (h 4 5 1).toNat 0 (dp + 1)) dp fr (h 17 5) (stOf h) j).2.2.1 (mSeL (mSe (mGt5 h) (h 4 5 1).toNat 0 (dp + 1)) dp fr (h 17 5) (stOf h) j).2.1)) 17 5 (fwFu (h 17 5) (fr + j) (h 17 5 (fr + j) + -1))) 20 0 A_18) 27 0 (fwFu (mSeL (mSe (mGt5 h) (h 4 5 1).toNat 0 (dp + 1)) dp fr (h 17 5) (stOf h) j).1 dp ((fr + j : Nat) : Int))) 28 0 (mSeL (mSe (mGt5 h) (h 4 5 1).toNat 0 (dp + 1)) dp fr (h 17 5) (stOf h) j).2.2.2) from rfl]
            have hG7 : gOk (fwUc (fwUc (fwUc (fwUc (fwUc h 8 0 (seF (h 8 0) (mSeL (mSe (mGt5 h) (h 4 5 1).toNat 0 (dp + 1)) dp fr (h 17 5) (stOf h) j).2.2.1 (mSeL (mSe (mGt5 h) (h 4 5 1).toNat 0 (dp + 1)) dp fr (h 17 5) (stOf h) j).2.1)) 17 5 (fwFu (h 17 5) (fr + j) (h 17 5 (fr + j) + -1))) 20 0 A_18) 27 0 (fwFu (mSeL (mSe (mGt5 h) (h 4 5 1).toNat 0 (dp + 1)) dp fr (h 17 5) (stOf h) j).1 dp ((fr + j : Nat) : Int))) 28 0 (mSeL (mSe (mGt5 h) (h 4 5 1).toNat 0 (dp + 1)) dp fr (h 17 5) (stOf h) j).2.2.2) 5 := ⟨hG.1, hG.2.1, hG.2.2.1, hG.2.2.2.1, fwFu_rng g8 (by omega)⟩
            have hS7 : stOk (stOf (fwUc (fwUc (fwUc (fwUc (fwUc h 8 0 (seF (h 8 0) (mSeL (mSe (mGt5 h) (h 4 5 1).toNat 0 (dp + 1)) dp fr (h 17 5) (stOf h) j).2.2.1 (mSeL (mSe (mGt5 h) (h 4 5 1).toNat 0 (dp + 1)) dp fr (h 17 5) (stOf h) j).2.1)) 17 5 (fwFu (h 17 5) (fr + j) (h 17 5 (fr + j) + -1))) 20 0 A_18) 27 0 (fwFu (mSeL (mSe (mGt5 h) (h 4 5 1).toNat 0 (dp + 1)) dp fr (h 17 5) (stOf h) j).1 dp ((fr + j : Nat) : Int))) 28 0 (mSeL (mSe (mGt5 h) (h 4 5 1).toNat 0 (dp + 1)) dp fr (h 17 5) (stOf h) j).2.2.2)) := hSj
            refine w_aload_n dX7_search_60 rfl ?_
            refine w_iload_n dX7_search_61 rfl ?_
            refine w_iload_n dX7_search_62 rfl ?_
            refine w_iconst dX7_search_63 ?_
            refine w_iadd dX7_search_64 ?_
            refine w_iload dX7_search_65 rfl ?_
            refine w_callV (d := d + 5) (S := []) [aI ((dp : Int) + 1), aI ((dp : Int) + 1), aI ((fr : Int) + (j : Int))] dX7_search_67 ml_X7_94 ok_X7_search vi_X7_search rfl rfl (by decide) rfl (Nat.le_of_ble_eq_true rfl) ?_
            refine c_search0E (d := d) (dp + 1) (fr + j) ((dp : Int) + 1) ((dp : Int) + 1) ((fr : Int) + (j : Int)) (by omega) (by omega) (by omega) (by first | assumption | omega | decide) (by first | assumption | omega | decide) (by first | assumption | omega | decide) (by omega) (show ((fr + j : Nat) : Int) ≤ h 4 5 1 by omega) ?_
            intro A1
            show fwWP mX7_search (d + 6) 70 [some (aR 8 0), some (aI ((dp : Int) + 1)), some (aI (dp : Int)), some (aI (fr : Int)), some (aI ((fr : Int) + (j : Int)))] [] (fwUc (fwUc (fwUc (fwUc (fwUc (fwUc (fwUc (fwUc (fwUc (fwUc h 8 0 (seF (h 8 0) (mSeL (mSe (mGt5 h) (h 4 5 1).toNat 0 (dp + 1)) dp fr (h 17 5) (stOf h) j).2.2.1 (mSeL (mSe (mGt5 h) (h 4 5 1).toNat 0 (dp + 1)) dp fr (h 17 5) (stOf h) j).2.1)) 17 5 (fwFu (h 17 5) (fr + j) (h 17 5 (fr + j) + -1))) 20 0 A_18) 27 0 (fwFu (mSeL (mSe (mGt5 h) (h 4 5 1).toNat 0 (dp + 1)) dp fr (h 17 5) (stOf h) j).1 dp ((fr + j : Nat) : Int))) 28 0 (mSeL (mSe (mGt5 h) (h 4 5 1).toNat 0 (dp + 1)) dp fr (h 17 5) (stOf h) j).2.2.2) 8 0 (seF ((seF (h 8 0) (mSeL (mSe (mGt5 h) (h 4 5 1).toNat 0 (dp + 1)) dp fr (h 17 5) (stOf h) j).2.2.1 (mSeL (mSe (mGt5 h) (h 4 5 1).toNat 0 (dp + 1)) dp fr (h 17 5) (stOf h) j).2.1)) (mSe (mGt5 h) (h 4 5 1).toNat 0 (dp + 1) (fr + j) (fwFu (h 17 5) (fr + j) (h 17 5 (fr + j) + -1)) (fwFu (mSeL (mSe (mGt5 h) (h 4 5 1).toNat 0 (dp + 1)) dp fr (h 17 5) (stOf h) j).1 dp ((fr + j : Nat) : Int), (mSeL (mSe (mGt5 h) (h 4 5 1).toNat 0 (dp + 1)) dp fr (h 17 5) (stOf h) j).2)).2.2.1 (mSe (mGt5 h) (h 4 5 1).toNat 0 (dp + 1) (fr + j) (fwFu (h 17 5) (fr + j) (h 17 5 (fr + j) + -1)) (fwFu (mSeL (mSe (mGt5 h) (h 4 5 1).toNat 0 (dp + 1)) dp fr (h 17 5) (stOf h) j).1 dp ((fr + j : Nat) : Int), (mSeL (mSe (mGt5 h) (h 4 5 1).toNat 0 (dp + 1)) dp fr (h 17 5) (stOf h) j).2)).2.1)) 17 5 (fwFu (h 17 5) (fr + j) (h 17 5 (fr + j) + -1))) 20 0 A1) 27 0 (mSe (mGt5 h) (h 4 5 1).toNat 0 (dp + 1) (fr + j) (fwFu (h 17 5) (fr + j) (h 17 5 (fr + j) + -1)) (fwFu (mSeL (mSe (mGt5 h) (h 4 5 1).toNat 0 (dp + 1)) dp fr (h 17 5) (stOf h) j).1 dp ((fr + j : Nat) : Int), (mSeL (mSe (mGt5 h) (h 4 5 1).toNat 0 (dp + 1)) dp fr (h 17 5) (stOf h) j).2)).1) 28 0 (mSe (mGt5 h) (h 4 5 1).toNat 0 (dp + 1) (fr + j) (fwFu (h 17 5) (fr + j) (h 17 5 (fr + j) + -1)) (fwFu (mSeL (mSe (mGt5 h) (h 4 5 1).toNat 0 (dp + 1)) dp fr (h 17 5) (stOf h) j).1 dp ((fr + j : Nat) : Int), (mSeL (mSe (mGt5 h) (h 4 5 1).toNat 0 (dp + 1)) dp fr (h 17 5) (stOf h) j).2)).2.2.2) Q
            rw [show fwUc (fwUc (fwUc (fwUc (fwUc (fwUc (fwUc (fwUc (fwUc (fwUc h 8 0 (seF (h 8 0) (mSeL (mSe (mGt5 h) (h 4 5 1).toNat 0 (dp + 1)) dp fr (h 17 5) (stOf h) j).2.2.1 (mSeL (mSe (mGt5 h) (h 4 5 1).toNat 0 (dp + 1)) dp fr (h 17 5) (stOf h) j).2.1)) 17 5 (fwFu (h 17 5) (fr + j) (h 17 5 (fr + j) + -1))) 20 0 A_18) 27 0 (fwFu (mSeL (mSe (mGt5 h) (h 4 5 1).toNat 0 (dp + 1)) dp fr (h 17 5) (stOf h) j).1 dp ((fr + j : Nat) : Int))) 28 0 (mSeL (mSe (mGt5 h) (h 4 5 1).toNat 0 (dp + 1)) dp fr (h 17 5) (stOf h) j).2.2.2) 8 0 (seF ((seF (h 8 0) (mSeL (mSe (mGt5 h) (h 4 5 1).toNat 0 (dp + 1)) dp fr (h 17 5) (stOf h) j).2.2.1 (mSeL (mSe (mGt5 h) (h 4 5 1).toNat 0 (dp + 1)) dp fr (h 17 5) (stOf h) j).2.1)) (mSe (mGt5 h) (h 4 5 1).toNat 0 (dp + 1) (fr + j) (fwFu (h 17 5) (fr + j) (h 17 5 (fr + j) + -1)) (fwFu (mSeL (mSe (mGt5 h) (h 4 5 1).toNat 0 (dp + 1)) dp fr (h 17 5) (stOf h) j).1 dp ((fr + j : Nat) : Int), (mSeL (mSe (mGt5 h) (h 4 5 1).toNat 0 (dp + 1)) dp fr (h 17 5) (stOf h) j).2)).2.2.1 (mSe (mGt5 h) (h 4 5 1).toNat 0 (dp + 1) (fr + j) (fwFu (h 17 5) (fr + j) (h 17 5 (fr + j) + -1)) (fwFu (mSeL (mSe (mGt5 h) (h 4 5 1).toNat 0 (dp + 1)) dp fr (h 17 5) (stOf h) j).1 dp ((fr + j : Nat) : Int), (mSeL (mSe (mGt5 h) (h 4 5 1).toNat 0 (dp + 1)) dp fr (h 17 5) (stOf h) j).2)).2.1)) 17 5 (fwFu (h 17 5) (fr + j) (h 17 5 (fr + j) + -1))) 20 0 A1) 27 0 (mSe (mGt5 h) (h 4 5 1).toNat 0 (dp + 1) (fr + j) (fwFu (h 17 5) (fr + j) (h 17 5 (fr + j) + -1)) (fwFu (mSeL (mSe (mGt5 h) (h 4 5 1).toNat 0 (dp + 1)) dp fr (h 17 5) (stOf h) j).1 dp ((fr + j : Nat) : Int), (mSeL (mSe (mGt5 h) (h 4 5 1).toNat 0 (dp + 1)) dp fr (h 17 5) (stOf h) j).2)).1) 28 0 (mSe (mGt5 h) (h 4 5 1).toNat 0 (dp + 1) (fr + j) (fwFu (h 17 5) (fr + j) (h 17 5 (fr + j) + -1)) (fwFu (mSeL (mSe (mGt5 h) (h 4 5 1).toNat 0 (dp + 1)) dp fr (h 17 5) (stOf h) j).1 dp ((fr + j : Nat) : Int), (mSeL (mSe (mGt5 h) (h 4 5 1).toNat 0 (dp + 1)) dp fr (h 17 5) (stOf h) j).2)).2.2.2 = (fwUc (fwUc (fwUc (fwUc (fwUc h 8 0 (seF ((seF (h 8 0) (mSeL (mSe (mGt5 h) (h 4 5 1).toNat 0 (dp + 1)) dp fr (h 17 5) (stOf h) j).2.2.1 (mSeL (mSe (mGt5 h) (h 4 5 1).toNat 0 (dp + 1)) dp fr (h 17 5) (stOf h) j).2.1)) (mSe (mGt5 h) (h 4 5 1).toNat 0 (dp + 1) (fr + j) (fwFu (h 17 5) (fr + j) (h 17 5 (fr + j) + -1)) (fwFu (mSeL (mSe (mGt5 h) (h 4 5 1).toNat 0 (dp + 1)) dp fr (h 17 5) (stOf h) j).1 dp ((fr + j : Nat) : Int), (mSeL (mSe (mGt5 h) (h 4 5 1).toNat 0 (dp + 1)) dp fr (h 17 5) (stOf h) j).2)).2.2.1 (mSe (mGt5 h) (h 4 5 1).toNat 0 (dp + 1) (fr + j) (fwFu (h 17 5) (fr + j) (h 17 5 (fr + j) + -1)) (fwFu (mSeL (mSe (mGt5 h) (h 4 5 1).toNat 0 (dp + 1)) dp fr (h 17 5) (stOf h) j).1 dp ((fr + j : Nat) : Int), (mSeL (mSe (mGt5 h) (h 4 5 1).toNat 0 (dp + 1)) dp fr (h 17 5) (stOf h) j).2)).2.1)) 17 5 (fwFu (h 17 5) (fr + j) (h 17 5 (fr + j) + -1))) 20 0 A1) 27 0 ((mSe (mGt5 h) (h 4 5 1).toNat 0 (dp + 1) (fr + j) (fwFu (h 17 5) (fr + j) (h 17 5 (fr + j) + -1)) (fwFu (mSeL (mSe (mGt5 h) (h 4 5 1).toNat 0 (dp + 1)) dp fr (h 17 5) (stOf h) j).1 dp ((fr + j : Nat) : Int), (mSeL (mSe (mGt5 h) (h 4 5 1).toNat 0 (dp + 1)) dp fr (h 17 5) (stOf h) j).2)).1)) 28 0 ((mSe (mGt5 h) (h 4 5 1).toNat 0 (dp + 1) (fr + j) (fwFu (h 17 5) (fr + j) (h 17 5 (fr + j) + -1)) (fwFu (mSeL (mSe (mGt5 h) (h 4 5 1).toNat 0 (dp + 1)) dp fr (h 17 5) (stOf h) j).1 dp ((fr + j : Nat) : Int), (mSeL (mSe (mGt5 h) (h 4 5 1).toNat 0 (dp + 1)) dp fr (h 17 5) (stOf h) j).2)).2.2.2)) from by funext a b; simp only [fwUc]; (repeat' split); all_goals first | rfl | (exfalso; omega)]
            rw [seF_seF]
            have hG8 : gOk (fwUc (fwUc (fwUc (fwUc (fwUc h 8 0 (seF (h 8 0) (mSe (mGt5 h) (h 4 5 1).toNat 0 (dp + 1) (fr + j) (fwFu (h 17 5) (fr + j) (h 17 5 (fr + j) + -1)) (fwFu (mSeL (mSe (mGt5 h) (h 4 5 1).toNat 0 (dp + 1)) dp fr (h 17 5) (stOf h) j).1 dp ((fr + j : Nat) : Int), (mSeL (mSe (mGt5 h) (h 4 5 1).toNat 0 (dp + 1)) dp fr (h 17 5) (stOf h) j).2)).2.2.1 (mSe (mGt5 h) (h 4 5 1).toNat 0 (dp + 1) (fr + j) (fwFu (h 17 5) (fr + j) (h 17 5 (fr + j) + -1)) (fwFu (mSeL (mSe (mGt5 h) (h 4 5 1).toNat 0 (dp + 1)) dp fr (h 17 5) (stOf h) j).1 dp ((fr + j : Nat) : Int), (mSeL (mSe (mGt5 h) (h 4 5 1).toNat 0 (dp + 1)) dp fr (h 17 5) (stOf h) j).2)).2.1)) 17 5 ((fwFu (h 17 5) (fr + j) (h 17 5 (fr + j) + -1)))) 20 0 A1) 27 0 (mSe (mGt5 h) (h 4 5 1).toNat 0 (dp + 1) (fr + j) (fwFu (h 17 5) (fr + j) (h 17 5 (fr + j) + -1)) (fwFu (mSeL (mSe (mGt5 h) (h 4 5 1).toNat 0 (dp + 1)) dp fr (h 17 5) (stOf h) j).1 dp ((fr + j : Nat) : Int), (mSeL (mSe (mGt5 h) (h 4 5 1).toNat 0 (dp + 1)) dp fr (h 17 5) (stOf h) j).2)).1) 28 0 (mSe (mGt5 h) (h 4 5 1).toNat 0 (dp + 1) (fr + j) (fwFu (h 17 5) (fr + j) (h 17 5 (fr + j) + -1)) (fwFu (mSeL (mSe (mGt5 h) (h 4 5 1).toNat 0 (dp + 1)) dp fr (h 17 5) (stOf h) j).1 dp ((fr + j : Nat) : Int), (mSeL (mSe (mGt5 h) (h 4 5 1).toNat 0 (dp + 1)) dp fr (h 17 5) (stOf h) j).2)).2.2.2) 5 := ⟨hG.1, hG.2.1, hG.2.2.1, hG.2.2.2.1, fwFu_rng g8 (by omega)⟩
            refine w_aload_n dX7_search_70 rfl ?_
            refine w_getr 4 5 dX7_search_71 fl_X7_25 rfl (by decide) ?_
            refine w_iload dX7_search_74 rfl ?_
            refine w_iconst dX7_search_76 ?_
            refine w_callV (d := d + 5) (S := []) [aI ((fr : Int) + (j : Int)), aI 1] dX7_search_77 ml_X7_48 ok_X1_change vi_X1_change rfl rfl (by decide) rfl (Nat.le_of_ble_eq_true rfl) ?_
            refine c_X1_changeE (d := (d + 4)) 5 ((fr : Int) + (j : Int)) 1 (by decide) (by first | assumption | omega | decide) (by first | assumption | omega | decide) (show (fr : Int) + (j : Int) < h 4 5 1 by first | assumption | omega | decide) ?_
            show fwWP mX7_search (d + 6) 80 [some (aR 8 0), some (aI ((dp : Int) + 1)), some (aI (dp : Int)), some (aI (fr : Int)), some (aI ((fr : Int) + (j : Int)))] [] (fwUc (fwUc (fwUc (fwUc (fwUc (fwUc h 8 0 (seF (h 8 0) (mSe (mGt5 h) (h 4 5 1).toNat 0 (dp + 1) (fr + j) (fwFu (h 17 5) (fr + j) (h 17 5 (fr + j) + -1)) (fwFu (mSeL (mSe (mGt5 h) (h 4 5 1).toNat 0 (dp + 1)) dp fr (h 17 5) (stOf h) j).1 dp ((fr + j : Nat) : Int), (mSeL (mSe (mGt5 h) (h 4 5 1).toNat 0 (dp + 1)) dp fr (h 17 5) (stOf h) j).2)).2.2.1 (mSe (mGt5 h) (h 4 5 1).toNat 0 (dp + 1) (fr + j) (fwFu (h 17 5) (fr + j) (h 17 5 (fr + j) + -1)) (fwFu (mSeL (mSe (mGt5 h) (h 4 5 1).toNat 0 (dp + 1)) dp fr (h 17 5) (stOf h) j).1 dp ((fr + j : Nat) : Int), (mSeL (mSe (mGt5 h) (h 4 5 1).toNat 0 (dp + 1)) dp fr (h 17 5) (stOf h) j).2)).2.1)) 17 5 ((fwFu (h 17 5) (fr + j) (h 17 5 (fr + j) + -1)))) 20 0 A1) 27 0 (mSe (mGt5 h) (h 4 5 1).toNat 0 (dp + 1) (fr + j) (fwFu (h 17 5) (fr + j) (h 17 5 (fr + j) + -1)) (fwFu (mSeL (mSe (mGt5 h) (h 4 5 1).toNat 0 (dp + 1)) dp fr (h 17 5) (stOf h) j).1 dp ((fr + j : Nat) : Int), (mSeL (mSe (mGt5 h) (h 4 5 1).toNat 0 (dp + 1)) dp fr (h 17 5) (stOf h) j).2)).1) 28 0 (mSe (mGt5 h) (h 4 5 1).toNat 0 (dp + 1) (fr + j) (fwFu (h 17 5) (fr + j) (h 17 5 (fr + j) + -1)) (fwFu (mSeL (mSe (mGt5 h) (h 4 5 1).toNat 0 (dp + 1)) dp fr (h 17 5) (stOf h) j).1 dp ((fr + j : Nat) : Int), (mSeL (mSe (mGt5 h) (h 4 5 1).toNat 0 (dp + 1)) dp fr (h 17 5) (stOf h) j).2)).2.2.2) 17 5 (fwFu (((fwFu (h 17 5) (fr + j) (h 17 5 (fr + j) + -1)))) ((fr : Int) + (j : Int)).toNat (((fwFu (h 17 5) (fr + j) (h 17 5 (fr + j) + -1))) ((fr : Int) + (j : Int)).toNat + 1))) Q
            rw [show fwUc (fwUc (fwUc (fwUc (fwUc (fwUc h 8 0 (seF (h 8 0) (mSe (mGt5 h) (h 4 5 1).toNat 0 (dp + 1) (fr + j) (fwFu (h 17 5) (fr + j) (h 17 5 (fr + j) + -1)) (fwFu (mSeL (mSe (mGt5 h) (h 4 5 1).toNat 0 (dp + 1)) dp fr (h 17 5) (stOf h) j).1 dp ((fr + j : Nat) : Int), (mSeL (mSe (mGt5 h) (h 4 5 1).toNat 0 (dp + 1)) dp fr (h 17 5) (stOf h) j).2)).2.2.1 (mSe (mGt5 h) (h 4 5 1).toNat 0 (dp + 1) (fr + j) (fwFu (h 17 5) (fr + j) (h 17 5 (fr + j) + -1)) (fwFu (mSeL (mSe (mGt5 h) (h 4 5 1).toNat 0 (dp + 1)) dp fr (h 17 5) (stOf h) j).1 dp ((fr + j : Nat) : Int), (mSeL (mSe (mGt5 h) (h 4 5 1).toNat 0 (dp + 1)) dp fr (h 17 5) (stOf h) j).2)).2.1)) 17 5 ((fwFu (h 17 5) (fr + j) (h 17 5 (fr + j) + -1)))) 20 0 A1) 27 0 (mSe (mGt5 h) (h 4 5 1).toNat 0 (dp + 1) (fr + j) (fwFu (h 17 5) (fr + j) (h 17 5 (fr + j) + -1)) (fwFu (mSeL (mSe (mGt5 h) (h 4 5 1).toNat 0 (dp + 1)) dp fr (h 17 5) (stOf h) j).1 dp ((fr + j : Nat) : Int), (mSeL (mSe (mGt5 h) (h 4 5 1).toNat 0 (dp + 1)) dp fr (h 17 5) (stOf h) j).2)).1) 28 0 (mSe (mGt5 h) (h 4 5 1).toNat 0 (dp + 1) (fr + j) (fwFu (h 17 5) (fr + j) (h 17 5 (fr + j) + -1)) (fwFu (mSeL (mSe (mGt5 h) (h 4 5 1).toNat 0 (dp + 1)) dp fr (h 17 5) (stOf h) j).1 dp ((fr + j : Nat) : Int), (mSeL (mSe (mGt5 h) (h 4 5 1).toNat 0 (dp + 1)) dp fr (h 17 5) (stOf h) j).2)).2.2.2) 17 5 (fwFu (((fwFu (h 17 5) (fr + j) (h 17 5 (fr + j) + -1)))) ((fr : Int) + (j : Int)).toNat (((fwFu (h 17 5) (fr + j) (h 17 5 (fr + j) + -1))) ((fr : Int) + (j : Int)).toNat + 1)) = (fwUc (fwUc (fwUc (fwUc (fwUc h 8 0 (seF (h 8 0) (mSe (mGt5 h) (h 4 5 1).toNat 0 (dp + 1) (fr + j) (fwFu (h 17 5) (fr + j) (h 17 5 (fr + j) + -1)) (fwFu (mSeL (mSe (mGt5 h) (h 4 5 1).toNat 0 (dp + 1)) dp fr (h 17 5) (stOf h) j).1 dp ((fr + j : Nat) : Int), (mSeL (mSe (mGt5 h) (h 4 5 1).toNat 0 (dp + 1)) dp fr (h 17 5) (stOf h) j).2)).2.2.1 (mSe (mGt5 h) (h 4 5 1).toNat 0 (dp + 1) (fr + j) (fwFu (h 17 5) (fr + j) (h 17 5 (fr + j) + -1)) (fwFu (mSeL (mSe (mGt5 h) (h 4 5 1).toNat 0 (dp + 1)) dp fr (h 17 5) (stOf h) j).1 dp ((fr + j : Nat) : Int), (mSeL (mSe (mGt5 h) (h 4 5 1).toNat 0 (dp + 1)) dp fr (h 17 5) (stOf h) j).2)).2.1)) 17 5 (fwFu (((fwFu (h 17 5) (fr + j) (h 17 5 (fr + j) + -1)))) ((fr : Int) + (j : Int)).toNat (((fwFu (h 17 5) (fr + j) (h 17 5 (fr + j) + -1))) ((fr : Int) + (j : Int)).toNat + 1))) 20 0 A1) 27 0 ((mSe (mGt5 h) (h 4 5 1).toNat 0 (dp + 1) (fr + j) (fwFu (h 17 5) (fr + j) (h 17 5 (fr + j) + -1)) (fwFu (mSeL (mSe (mGt5 h) (h 4 5 1).toNat 0 (dp + 1)) dp fr (h 17 5) (stOf h) j).1 dp ((fr + j : Nat) : Int), (mSeL (mSe (mGt5 h) (h 4 5 1).toNat 0 (dp + 1)) dp fr (h 17 5) (stOf h) j).2)).1)) 28 0 ((mSe (mGt5 h) (h 4 5 1).toNat 0 (dp + 1) (fr + j) (fwFu (h 17 5) (fr + j) (h 17 5 (fr + j) + -1)) (fwFu (mSeL (mSe (mGt5 h) (h 4 5 1).toNat 0 (dp + 1)) dp fr (h 17 5) (stOf h) j).1 dp ((fr + j : Nat) : Int), (mSeL (mSe (mGt5 h) (h 4 5 1).toNat 0 (dp + 1)) dp fr (h 17 5) (stOf h) j).2)).2.2.2)) from by funext a b; simp only [fwUc]; (repeat' split); all_goals first | rfl | (exfalso; omega)]
            rw [show (fwUc (fwUc (fwUc (fwUc (fwUc h 8 0 (seF (h 8 0) (mSe (mGt5 h) (h 4 5 1).toNat 0 (dp + 1) (fr + j) (fwFu (h 17 5) (fr + j) (h 17 5 (fr + j) + -1)) (fwFu (mSeL (mSe (mGt5 h) (h 4 5 1).toNat 0 (dp + 1)) dp fr (h 17 5) (stOf h) j).1 dp ((fr + j : Nat) : Int), (mSeL (mSe (mGt5 h) (h 4 5 1).toNat 0 (dp + 1)) dp fr (h 17 5) (stOf h) j).2)).2.2.1 (mSe (mGt5 h) (h 4 5 1).toNat 0 (dp + 1) (fr + j) (fwFu (h 17 5) (fr + j) (h 17 5 (fr + j) + -1)) (fwFu (mSeL (mSe (mGt5 h) (h 4 5 1).toNat 0 (dp + 1)) dp fr (h 17 5) (stOf h) j).1 dp ((fr + j : Nat) : Int), (mSeL (mSe (mGt5 h) (h 4 5 1).toNat 0 (dp + 1)) dp fr (h 17 5) (stOf h) j).2)).2.1)) 17 5 (fwFu (((fwFu (h 17 5) (fr + j) (h 17 5 (fr + j) + -1)))) ((fr : Int) + (j : Int)).toNat (((fwFu (h 17 5) (fr + j) (h 17 5 (fr + j) + -1))) ((fr : Int) + (j : Int)).toNat + 1))) 20 0 A1) 27 0 ((mSe (mGt5 h) (h 4 5 1).toNat 0 (dp + 1) (fr + j) (fwFu (h 17 5) (fr + j) (h 17 5 (fr + j) + -1)) (fwFu (mSeL (mSe (mGt5 h) (h 4 5 1).toNat 0 (dp + 1)) dp fr (h 17 5) (stOf h) j).1 dp ((fr + j : Nat) : Int), (mSeL (mSe (mGt5 h) (h 4 5 1).toNat 0 (dp + 1)) dp fr (h 17 5) (stOf h) j).2)).1)) 28 0 ((mSe (mGt5 h) (h 4 5 1).toNat 0 (dp + 1) (fr + j) (fwFu (h 17 5) (fr + j) (h 17 5 (fr + j) + -1)) (fwFu (mSeL (mSe (mGt5 h) (h 4 5 1).toNat 0 (dp + 1)) dp fr (h 17 5) (stOf h) j).1 dp ((fr + j : Nat) : Int), (mSeL (mSe (mGt5 h) (h 4 5 1).toNat 0 (dp + 1)) dp fr (h 17 5) (stOf h) j).2)).2.2.2)) = (fwUc (fwUc (fwUc (fwUc (fwUc h 8 0 (seF (h 8 0) (mSe (mGt5 h) (h 4 5 1).toNat 0 (dp + 1) (fr + j) (fwFu (h 17 5) (fr + j) (h 17 5 (fr + j) + -1)) (fwFu (mSeL (mSe (mGt5 h) (h 4 5 1).toNat 0 (dp + 1)) dp fr (h 17 5) (stOf h) j).1 dp ((fr + j : Nat) : Int), (mSeL (mSe (mGt5 h) (h 4 5 1).toNat 0 (dp + 1)) dp fr (h 17 5) (stOf h) j).2)).2.2.1 (mSe (mGt5 h) (h 4 5 1).toNat 0 (dp + 1) (fr + j) (fwFu (h 17 5) (fr + j) (h 17 5 (fr + j) + -1)) (fwFu (mSeL (mSe (mGt5 h) (h 4 5 1).toNat 0 (dp + 1)) dp fr (h 17 5) (stOf h) j).1 dp ((fr + j : Nat) : Int), (mSeL (mSe (mGt5 h) (h 4 5 1).toNat 0 (dp + 1)) dp fr (h 17 5) (stOf h) j).2)).2.1)) 17 5 (h 17 5)) 20 0 A1) 27 0 (mSe (mGt5 h) (h 4 5 1).toNat 0 (dp + 1) (fr + j) (fwFu (h 17 5) (fr + j) (h 17 5 (fr + j) + -1)) (fwFu (mSeL (mSe (mGt5 h) (h 4 5 1).toNat 0 (dp + 1)) dp fr (h 17 5) (stOf h) j).1 dp ((fr + j : Nat) : Int), (mSeL (mSe (mGt5 h) (h 4 5 1).toNat 0 (dp + 1)) dp fr (h 17 5) (stOf h) j).2)).1) 28 0 (mSe (mGt5 h) (h 4 5 1).toNat 0 (dp + 1) (fr + j) (fwFu (h 17 5) (fr + j) (h 17 5 (fr + j) + -1)) (fwFu (mSeL (mSe (mGt5 h) (h 4 5 1).toNat 0 (dp + 1)) dp fr (h 17 5) (stOf h) j).1 dp ((fr + j : Nat) : Int), (mSeL (mSe (mGt5 h) (h 4 5 1).toNat 0 (dp + 1)) dp fr (h 17 5) (stOf h) j).2)).2.2.2) from by rw [show ((fr : Int) + (j : Int)).toNat = fr + j by omega, fwFu_dn]]
            refine w_iinc [some (aR 8 0), some (aI ((dp : Int) + 1)), some (aI (dp : Int)), some (aI (fr : Int)), some (aI (((fr : Int) + (j : Int)) + 1))] dX7_search_80 rfl rfl (by decide) ?_
            refine w_goto 18 dX7_search_83 (by decide) ?_
            refine ih18 (by omega) _ _ ?_ ?_
            · exact (by omega)
            · exact ⟨_, by rw [mSeL, if_pos (by omega)]⟩
      refine lp18 0 (Nat.zero_le _) _ _ ?_ ?_
      · exact (by omega)
      · exact ⟨h 20 0, (seH_self' h).symm⟩
    · (exfalso; omega)
theorem c_search1E {d : Nat} {h : fwH} {Q : Option fwV → fwH → Prop} (dp fr : Nat) (n x y : Int) (en : n = (dp : Int) + 1) (ex : x = (dp : Int)) (ey : y = (fr : Int)) (hP : pOk h 0) (hG : gOk h 5) (hS : stOk (stOf h)) (hd : dp + 1 ≤ 3) (hfr : (fr : Int) ≤ h 4 5 1) (k : ∀ A, Q none (seH h (h 17 5) (mSe (mGt5 h) (h 4 5 1).toNat 1 dp fr (h 17 5) (stOf h)) A)) : fwCt mX7_search (d + 6) [aR 8 0, aI n, aI x, aI y] h Q := by
  subst en ex ey
  exact c_search1 dp fr hP hG hS hd hfr k
set_option maxRecDepth 100000 in
set_option maxHeartbeats 4000000 in
theorem c_search2 {d : Nat} {h : fwH} {Q : Option fwV → fwH → Prop} (dp fr : Nat) (hP : pOk h 0) (hG : gOk h 5) (hS : stOk (stOf h)) (hd : dp + 2 ≤ 3) (hfr : (fr : Int) ≤ h 4 5 1) (k : ∀ A, Q none (seH h (h 17 5) (mSe (mGt5 h) (h 4 5 1).toNat 2 dp fr (h 17 5) (stOf h)) A)) : fwCt mX7_search (d + 7) [aR 8 0, aI ((dp : Int) + 2), aI (dp : Int), aI (fr : Int)] h Q := by
  refine fwCt_of [some (aR 8 0), some (aI ((dp : Int) + 2)), some (aI (dp : Int)), some (aI (fr : Int)), none] rfl rfl rfl ?_
  obtain ⟨⟨g1, g2⟩, ⟨g3, g4⟩, ⟨g5, g6⟩, g7, g8⟩ := id hG
  refine w_iload_n dX7_search_0 rfl ?_
  refine w_iload_n dX7_search_1 rfl ?_
  refine w_icmp_ge 10 dX7_search_2 (by decide) (by omega) (by omega) (fun c2 => ?_) (fun c2 => ?_)
  · (exfalso; omega)
  · refine w_iload_n dX7_search_5 rfl ?_
    refine w_iconst dX7_search_6 ?_
    refine w_icmp_lt 15 dX7_search_7 (by decide) (by omega) (by omega) (fun c7 => ?_) (fun c7 => ?_)
    · refine w_iload_n dX7_search_15 rfl ?_
      refine w_istore [some (aR 8 0), some (aI ((dp : Int) + 2)), some (aI (dp : Int)), some (aI (fr : Int)), some (aI (fr : Int))] dX7_search_16 rfl (by decide) ?_
      have lp18 : ∀ j : Nat, j ≤ ((h 4 5 1).toNat - fr) → ∀ (y18  : Int) (hh18 : fwH), y18 = (fr : Int) + (j : Int) → (∃ A : Nat → Int, hh18 = (fwUc (fwUc (fwUc (fwUc (fwUc h 8 0 (seF (h 8 0) (mSeL (mSe (mGt5 h) (h 4 5 1).toNat 1 (dp + 1)) dp fr (h 17 5) (stOf h) j).2.2.1 (mSeL (mSe (mGt5 h) (h 4 5 1).toNat 1 (dp + 1)) dp fr (h 17 5) (stOf h) j).2.1)) 17 5 (h 17 5)) 20 0 A) 27 0 (mSeL (mSe (mGt5 h) (h 4 5 1).toNat 1 (dp + 1)) dp fr (h 17 5) (stOf h) j).1) 28 0 (mSeL (mSe (mGt5 h) (h 4 5 1).toNat 1 (dp + 1)) dp fr (h 17 5) (stOf h) j).2.2.2)) → fwWP mX7_search (d + 7) 18 [some (aR 8 0), some (aI ((dp : Int) + 2)), some (aI (dp : Int)), some (aI (fr : Int)), some (aI y18)] [] hh18 Q := by
        refine fw_up (fun j hc18 ih18 => ?_)
        intro y18  hh18 ey18 eh18
        subst ey18
        obtain ⟨A_18, eh18⟩ := eh18
        subst eh18
        have hSj := mSeL_ok (nc := (h 4 5 1).toNat) (by omega) (mGt5_rng hP g2) 1 dp fr (h 17 5) (stOf h) g8 hS j (by omega)
        show fwWP mX7_search (d + 7) 18 [some (aR 8 0), some (aI ((dp : Int) + 2)), some (aI (dp : Int)), some (aI (fr : Int)), some (aI ((fr : Int) + (j : Int)))] [] (fwUc (fwUc (fwUc (fwUc (fwUc h 8 0 (seF (h 8 0) (mSeL (mSe (mGt5 h) (h 4 5 1).toNat 1 (dp + 1)) dp fr (h 17 5) (stOf h) j).2.2.1 (mSeL (mSe (mGt5 h) (h 4 5 1).toNat 1 (dp + 1)) dp fr (h 17 5) (stOf h) j).2.1)) 17 5 (h 17 5)) 20 0 A_18) 27 0 (mSeL (mSe (mGt5 h) (h 4 5 1).toNat 1 (dp + 1)) dp fr (h 17 5) (stOf h) j).1) 28 0 (mSeL (mSe (mGt5 h) (h 4 5 1).toNat 1 (dp + 1)) dp fr (h 17 5) (stOf h) j).2.2.2) Q
        refine w_iload dX7_search_18 rfl ?_
        refine w_aload_n dX7_search_20 rfl ?_
        refine w_getr 4 5 dX7_search_21 fl_X7_25 rfl (by decide) ?_
        refine w_getiE (v := h 4 5 1) dX7_search_24 fl_X7_40 rfl (by decide) (by first | rfl | simp [fwUp, fwUc]) ?_
        refine w_icmp_ge 86 dX7_search_27 (by decide) (by omega) (by omega) (fun c27 => ?_) (fun c27 => ?_)
        · have ec18 : ((h 4 5 1).toNat - fr) = j := by omega
          subst ec18
          exact w_vret dX7_search_86 rfl (k _)
        · have hG6 : gOk (fwUc (fwUc (fwUc (fwUc (fwUc h 8 0 (seF (h 8 0) (mSeL (mSe (mGt5 h) (h 4 5 1).toNat 1 (dp + 1)) dp fr (h 17 5) (stOf h) j).2.2.1 (mSeL (mSe (mGt5 h) (h 4 5 1).toNat 1 (dp + 1)) dp fr (h 17 5) (stOf h) j).2.1)) 17 5 (h 17 5)) 20 0 A_18) 27 0 (mSeL (mSe (mGt5 h) (h 4 5 1).toNat 1 (dp + 1)) dp fr (h 17 5) (stOf h) j).1) 28 0 (mSeL (mSe (mGt5 h) (h 4 5 1).toNat 1 (dp + 1)) dp fr (h 17 5) (stOf h) j).2.2.2) 5 := ⟨hG.1, hG.2.1, hG.2.2.1, hG.2.2.2.1, hG.2.2.2.2⟩
          refine w_aload_n dX7_search_30 rfl ?_
          refine w_getr 4 5 dX7_search_31 fl_X7_25 rfl (by decide) ?_
          refine w_iload dX7_search_34 rfl ?_
          refine w_callV (d := d + 6) (S := []) [aI ((fr : Int) + (j : Int))] dX7_search_36 ml_X7_44 ok_X1_heightOf vi_X1_heightOf rfl rfl (by decide) rfl (Nat.le_of_ble_eq_true rfl) ?_
          refine c_X1_heightOfE (d := (d + 6)) 5 ((fr : Int) + (j : Int)) (h 17 5 (fr + j)) (by decide) (by first | assumption | omega | decide) (by first | assumption | omega | decide) (hOf_in (n := h 4 5 1) (H := h 17 5) (c := fr + j) (by omega)) ?_
          show fwWP mX7_search (d + 7) 39 [some (aR 8 0), some (aI ((dp : Int) + 2)), some (aI (dp : Int)), some (aI (fr : Int)), some (aI ((fr : Int) + (j : Int)))] [aI (h 17 5 (fr + j))] (fwUc (fwUc (fwUc (fwUc (fwUc h 8 0 (seF (h 8 0) (mSeL (mSe (mGt5 h) (h 4 5 1).toNat 1 (dp + 1)) dp fr (h 17 5) (stOf h) j).2.2.1 (mSeL (mSe (mGt5 h) (h 4 5 1).toNat 1 (dp + 1)) dp fr (h 17 5) (stOf h) j).2.1)) 17 5 (h 17 5)) 20 0 A_18) 27 0 (mSeL (mSe (mGt5 h) (h 4 5 1).toNat 1 (dp + 1)) dp fr (h 17 5) (stOf h) j).1) 28 0 (mSeL (mSe (mGt5 h) (h 4 5 1).toNat 1 (dp + 1)) dp fr (h 17 5) (stOf h) j).2.2.2) Q
          have hc1 := g8 (fr + j) (by omega)
          refine w_if_le 80 dX7_search_39 (by decide) (by omega) (fun c39 => ?_) (fun c39 => ?_)
          · refine w_iinc [some (aR 8 0), some (aI ((dp : Int) + 2)), some (aI (dp : Int)), some (aI (fr : Int)), some (aI (((fr : Int) + (j : Int)) + 1))] dX7_search_80 rfl rfl (by decide) ?_
            refine w_goto 18 dX7_search_83 (by decide) ?_
            refine ih18 (by omega) _ _ ?_ ?_
            · exact (by omega)
            · exact ⟨_, by rw [mSeL, if_neg (by omega)]⟩
          · refine w_aload_n dX7_search_42 rfl ?_
            refine w_getr 4 5 dX7_search_43 fl_X7_25 rfl (by decide) ?_
            refine w_iload dX7_search_46 rfl ?_
            refine w_iconst dX7_search_48 ?_
            refine w_callV (d := d + 6) (S := []) [aI ((fr : Int) + (j : Int)), aI (-1)] dX7_search_49 ml_X7_48 ok_X1_change vi_X1_change rfl rfl (by decide) rfl (Nat.le_of_ble_eq_true rfl) ?_
            refine c_X1_changeE (d := (d + 5)) 5 ((fr : Int) + (j : Int)) (-1) (by decide) (by first | assumption | omega | decide) (by first | assumption | omega | decide) (show (fr : Int) + (j : Int) < h 4 5 1 by first | assumption | omega | decide) ?_
            show fwWP mX7_search (d + 7) 52 [some (aR 8 0), some (aI ((dp : Int) + 2)), some (aI (dp : Int)), some (aI (fr : Int)), some (aI ((fr : Int) + (j : Int)))] [] (fwUc (fwUc (fwUc (fwUc (fwUc (fwUc h 8 0 (seF (h 8 0) (mSeL (mSe (mGt5 h) (h 4 5 1).toNat 1 (dp + 1)) dp fr (h 17 5) (stOf h) j).2.2.1 (mSeL (mSe (mGt5 h) (h 4 5 1).toNat 1 (dp + 1)) dp fr (h 17 5) (stOf h) j).2.1)) 17 5 (h 17 5)) 20 0 A_18) 27 0 (mSeL (mSe (mGt5 h) (h 4 5 1).toNat 1 (dp + 1)) dp fr (h 17 5) (stOf h) j).1) 28 0 (mSeL (mSe (mGt5 h) (h 4 5 1).toNat 1 (dp + 1)) dp fr (h 17 5) (stOf h) j).2.2.2) 17 5 (fwFu ((h 17 5)) ((fr : Int) + (j : Int)).toNat ((h 17 5) ((fr : Int) + (j : Int)).toNat + (-1)))) Q
            rw [show fwUc (fwUc (fwUc (fwUc (fwUc (fwUc h 8 0 (seF (h 8 0) (mSeL (mSe (mGt5 h) (h 4 5 1).toNat 1 (dp + 1)) dp fr (h 17 5) (stOf h) j).2.2.1 (mSeL (mSe (mGt5 h) (h 4 5 1).toNat 1 (dp + 1)) dp fr (h 17 5) (stOf h) j).2.1)) 17 5 (h 17 5)) 20 0 A_18) 27 0 (mSeL (mSe (mGt5 h) (h 4 5 1).toNat 1 (dp + 1)) dp fr (h 17 5) (stOf h) j).1) 28 0 (mSeL (mSe (mGt5 h) (h 4 5 1).toNat 1 (dp + 1)) dp fr (h 17 5) (stOf h) j).2.2.2) 17 5 (fwFu ((h 17 5)) ((fr : Int) + (j : Int)).toNat ((h 17 5) ((fr : Int) + (j : Int)).toNat + (-1))) = (fwUc (fwUc (fwUc (fwUc (fwUc h 8 0 (seF (h 8 0) (mSeL (mSe (mGt5 h) (h 4 5 1).toNat 1 (dp + 1)) dp fr (h 17 5) (stOf h) j).2.2.1 (mSeL (mSe (mGt5 h) (h 4 5 1).toNat 1 (dp + 1)) dp fr (h 17 5) (stOf h) j).2.1)) 17 5 (fwFu ((h 17 5)) ((fr : Int) + (j : Int)).toNat ((h 17 5) ((fr : Int) + (j : Int)).toNat + (-1)))) 20 0 A_18) 27 0 ((mSeL (mSe (mGt5 h) (h 4 5 1).toNat 1 (dp + 1)) dp fr (h 17 5) (stOf h) j).1)) 28 0 ((mSeL (mSe (mGt5 h) (h 4 5 1).toNat 1 (dp + 1)) dp fr (h 17 5) (stOf h) j).2.2.2)) from by funext a b; simp only [fwUc]; (repeat' split); all_goals first | rfl | (exfalso; omega)]
            rw [show (fwUc (fwUc (fwUc (fwUc (fwUc h 8 0 (seF (h 8 0) (mSeL (mSe (mGt5 h) (h 4 5 1).toNat 1 (dp + 1)) dp fr (h 17 5) (stOf h) j).2.2.1 (mSeL (mSe (mGt5 h) (h 4 5 1).toNat 1 (dp + 1)) dp fr (h 17 5) (stOf h) j).2.1)) 17 5 (fwFu ((h 17 5)) ((fr : Int) + (j : Int)).toNat ((h 17 5) ((fr : Int) + (j : Int)).toNat + (-1)))) 20 0 A_18) 27 0 ((mSeL (mSe (mGt5 h) (h 4 5 1).toNat 1 (dp + 1)) dp fr (h 17 5) (stOf h) j).1)) 28 0 ((mSeL (mSe (mGt5 h) (h 4 5 1).toNat 1 (dp + 1)) dp fr (h 17 5) (stOf h) j).2.2.2)) = (fwUc (fwUc (fwUc (fwUc (fwUc h 8 0 (seF (h 8 0) (mSeL (mSe (mGt5 h) (h 4 5 1).toNat 1 (dp + 1)) dp fr (h 17 5) (stOf h) j).2.2.1 (mSeL (mSe (mGt5 h) (h 4 5 1).toNat 1 (dp + 1)) dp fr (h 17 5) (stOf h) j).2.1)) 17 5 ((fwFu (h 17 5) (fr + j) (h 17 5 (fr + j) + -1)))) 20 0 A_18) 27 0 (mSeL (mSe (mGt5 h) (h 4 5 1).toNat 1 (dp + 1)) dp fr (h 17 5) (stOf h) j).1) 28 0 (mSeL (mSe (mGt5 h) (h 4 5 1).toNat 1 (dp + 1)) dp fr (h 17 5) (stOf h) j).2.2.2) from by rw [show ((fr : Int) + (j : Int)).toNat = fr + j by omega]]
            refine w_aload_n dX7_search_52 rfl ?_
            refine w_getr 27 0 dX7_search_53 fl_X7_15 rfl (by decide) ?_
            refine w_iload_n dX7_search_56 rfl ?_
            refine w_iload dX7_search_57 rfl ?_
            refine w_iast dX7_search_59 rfl (by decide) (by omega) (by omega) ?_
            rw [show (fwUp (fwUc (fwUc (fwUc (fwUc (fwUc h 8 0 (seF (h 8 0) (mSeL (mSe (mGt5 h) (h 4 5 1).toNat 1 (dp + 1)) dp fr (h 17 5) (stOf h) j).2.2.1 (mSeL (mSe (mGt5 h) (h 4 5 1).toNat 1 (dp + 1)) dp fr (h 17 5) (stOf h) j).2.1)) 17 5 ((fwFu (h 17 5) (fr + j) (h 17 5 (fr + j) + -1)))) 20 0 A_18) 27 0 (mSeL (mSe (mGt5 h) (h 4 5 1).toNat 1 (dp + 1)) dp fr (h 17 5) (stOf h) j).1) 28 0 (mSeL (mSe (mGt5 h) (h 4 5 1).toNat 1 (dp + 1)) dp fr (h 17 5) (stOf h) j).2.2.2) 27 0 ((dp : Int)).toNat ((fr : Int) + (j : Int))) = (fwUc (fwUc (fwUc (fwUc (fwUc (fwUc h 8 0 (seF (h 8 0) (mSeL (mSe (mGt5 h) (h 4 5 1).toNat 1 (dp + 1)) dp fr (h 17 5) (stOf h) j).2.2.1 (mSeL (mSe (mGt5 h) (h 4 5 1).toNat 1 (dp + 1)) dp fr (h 17 5) (stOf h) j).2.1)) 17 5 ((fwFu (h 17 5) (fr + j) (h 17 5 (fr + j) + -1)))) 20 0 A_18) 27 0 (mSeL (mSe (mGt5 h) (h 4 5 1).toNat 1 (dp + 1)) dp fr (h 17 5) (stOf h) j).1) 28 0 (mSeL (mSe (mGt5 h) (h 4 5 1).toNat 1 (dp + 1)) dp fr (h 17 5) (stOf h) j).2.2.2) 27 0 (fwFu (((mSeL (mSe (mGt5 h) (h 4 5 1).toNat 1 (dp + 1)) dp fr (h 17 5) (stOf h) j).1)) ((dp : Int)).toNat ((fr : Int) + (j : Int)))) from fwUp_fu _ _ _ _ _]
            rw [show (fwUc (fwUc (fwUc (fwUc (fwUc (fwUc h 8 0 (seF (h 8 0) (mSeL (mSe (mGt5 h) (h 4 5 1).toNat 1 (dp + 1)) dp fr (h 17 5) (stOf h) j).2.2.1 (mSeL (mSe (mGt5 h) (h 4 5 1).toNat 1 (dp + 1)) dp fr (h 17 5) (stOf h) j).2.1)) 17 5 ((fwFu (h 17 5) (fr + j) (h 17 5 (fr + j) + -1)))) 20 0 A_18) 27 0 (mSeL (mSe (mGt5 h) (h 4 5 1).toNat 1 (dp + 1)) dp fr (h 17 5) (stOf h) j).1) 28 0 (mSeL (mSe (mGt5 h) (h 4 5 1).toNat 1 (dp + 1)) dp fr (h 17 5) (stOf h) j).2.2.2) 27 0 (fwFu (((mSeL (mSe (mGt5 h) (h 4 5 1).toNat 1 (dp + 1)) dp fr (h 17 5) (stOf h) j).1)) ((dp : Int)).toNat ((fr : Int) + (j : Int)))) = (fwUc (fwUc (fwUc (fwUc (fwUc h 8 0 (seF (h 8 0) (mSeL (mSe (mGt5 h) (h 4 5 1).toNat 1 (dp + 1)) dp fr (h 17 5) (stOf h) j).2.2.1 (mSeL (mSe (mGt5 h) (h 4 5 1).toNat 1 (dp + 1)) dp fr (h 17 5) (stOf h) j).2.1)) 17 5 ((fwFu (h 17 5) (fr + j) (h 17 5 (fr + j) + -1)))) 20 0 A_18) 27 0 (fwFu (((mSeL (mSe (mGt5 h) (h 4 5 1).toNat 1 (dp + 1)) dp fr (h 17 5) (stOf h) j).1)) ((dp : Int)).toNat ((fr : Int) + (j : Int)))) 28 0 ((mSeL (mSe (mGt5 h) (h 4 5 1).toNat 1 (dp + 1)) dp fr (h 17 5) (stOf h) j).2.2.2)) from by funext a b; simp only [fwUc]; (repeat' split); all_goals first | rfl | (exfalso; omega)]
            rw [show (fwUc (fwUc (fwUc (fwUc (fwUc h 8 0 (seF (h 8 0) (mSeL (mSe (mGt5 h) (h 4 5 1).toNat 1 (dp + 1)) dp fr (h 17 5) (stOf h) j).2.2.1 (mSeL (mSe (mGt5 h) (h 4 5 1).toNat 1 (dp + 1)) dp fr (h 17 5) (stOf h) j).2.1)) 17 5 ((fwFu (h 17 5) (fr + j) (h 17 5 (fr + j) + -1)))) 20 0 A_18) 27 0 (fwFu (((mSeL (mSe (mGt5 h) (h 4 5 1).toNat 1 (dp + 1)) dp fr (h 17 5) (stOf h) j).1)) ((dp : Int)).toNat ((fr : Int) + (j : Int)))) 28 0 ((mSeL (mSe (mGt5 h) (h 4 5 1).toNat 1 (dp + 1)) dp fr (h 17 5) (stOf h) j).2.2.2)) = (fwUc (fwUc (fwUc (fwUc (fwUc h 8 0 (seF (h 8 0) (mSeL (mSe (mGt5 h) (h 4 5 1).toNat 1 (dp + 1)) dp fr (h 17 5) (stOf h) j).2.2.1 (mSeL (mSe (mGt5 h) (h 4 5 1).toNat 1 (dp + 1)) dp fr (h 17 5) (stOf h) j).2.1)) 17 5 (fwFu (h 17 5) (fr + j) (h 17 5 (fr + j) + -1))) 20 0 A_18) 27 0 (fwFu (mSeL (mSe (mGt5 h) (h 4 5 1).toNat 1 (dp + 1)) dp fr (h 17 5) (stOf h) j).1 dp ((fr + j : Nat) : Int))) 28 0 (mSeL (mSe (mGt5 h) (h 4 5 1).toNat 1 (dp + 1)) dp fr (h 17 5) (stOf h) j).2.2.2) from rfl]
            have hG7 : gOk (fwUc (fwUc (fwUc (fwUc (fwUc h 8 0 (seF (h 8 0) (mSeL (mSe (mGt5 h) (h 4 5 1).toNat 1 (dp + 1)) dp fr (h 17 5) (stOf h) j).2.2.1 (mSeL (mSe (mGt5 h) (h 4 5 1).toNat 1 (dp + 1)) dp fr (h 17 5) (stOf h) j).2.1)) 17 5 (fwFu (h 17 5) (fr + j) (h 17 5 (fr + j) + -1))) 20 0 A_18) 27 0 (fwFu (mSeL (mSe (mGt5 h) (h 4 5 1).toNat 1 (dp + 1)) dp fr (h 17 5) (stOf h) j).1 dp ((fr + j : Nat) : Int))) 28 0 (mSeL (mSe (mGt5 h) (h 4 5 1).toNat 1 (dp + 1)) dp fr (h 17 5) (stOf h) j).2.2.2) 5 := ⟨hG.1, hG.2.1, hG.2.2.1, hG.2.2.2.1, fwFu_rng g8 (by omega)⟩
            have hS7 : stOk (stOf (fwUc (fwUc (fwUc (fwUc (fwUc h 8 0 (seF (h 8 0) (mSeL (mSe (mGt5 h) (h 4 5 1).toNat 1 (dp + 1)) dp fr (h 17 5) (stOf h) j).2.2.1 (mSeL (mSe (mGt5 h) (h 4 5 1).toNat 1 (dp + 1)) dp fr (h 17 5) (stOf h) j).2.1)) 17 5 (fwFu (h 17 5) (fr + j) (h 17 5 (fr + j) + -1))) 20 0 A_18) 27 0 (fwFu (mSeL (mSe (mGt5 h) (h 4 5 1).toNat 1 (dp + 1)) dp fr (h 17 5) (stOf h) j).1 dp ((fr + j : Nat) : Int))) 28 0 (mSeL (mSe (mGt5 h) (h 4 5 1).toNat 1 (dp + 1)) dp fr (h 17 5) (stOf h) j).2.2.2)) := hSj
            refine w_aload_n dX7_search_60 rfl ?_
            refine w_iload_n dX7_search_61 rfl ?_
            refine w_iload_n dX7_search_62 rfl ?_
            refine w_iconst dX7_search_63 ?_
            refine w_iadd dX7_search_64 ?_
            refine w_iload dX7_search_65 rfl ?_
            refine w_callV (d := d + 6) (S := []) [aI ((dp : Int) + 2), aI ((dp : Int) + 1), aI ((fr : Int) + (j : Int))] dX7_search_67 ml_X7_94 ok_X7_search vi_X7_search rfl rfl (by decide) rfl (Nat.le_of_ble_eq_true rfl) ?_
            refine c_search1E (d := d) (dp + 1) (fr + j) ((dp : Int) + 2) ((dp : Int) + 1) ((fr : Int) + (j : Int)) (by omega) (by omega) (by omega) (by first | assumption | omega | decide) (by first | assumption | omega | decide) (by first | assumption | omega | decide) (by omega) (show ((fr + j : Nat) : Int) ≤ h 4 5 1 by omega) ?_
            intro A1
            show fwWP mX7_search (d + 7) 70 [some (aR 8 0), some (aI ((dp : Int) + 2)), some (aI (dp : Int)), some (aI (fr : Int)), some (aI ((fr : Int) + (j : Int)))] [] (fwUc (fwUc (fwUc (fwUc (fwUc (fwUc (fwUc (fwUc (fwUc (fwUc h 8 0 (seF (h 8 0) (mSeL (mSe (mGt5 h) (h 4 5 1).toNat 1 (dp + 1)) dp fr (h 17 5) (stOf h) j).2.2.1 (mSeL (mSe (mGt5 h) (h 4 5 1).toNat 1 (dp + 1)) dp fr (h 17 5) (stOf h) j).2.1)) 17 5 (fwFu (h 17 5) (fr + j) (h 17 5 (fr + j) + -1))) 20 0 A_18) 27 0 (fwFu (mSeL (mSe (mGt5 h) (h 4 5 1).toNat 1 (dp + 1)) dp fr (h 17 5) (stOf h) j).1 dp ((fr + j : Nat) : Int))) 28 0 (mSeL (mSe (mGt5 h) (h 4 5 1).toNat 1 (dp + 1)) dp fr (h 17 5) (stOf h) j).2.2.2) 8 0 (seF ((seF (h 8 0) (mSeL (mSe (mGt5 h) (h 4 5 1).toNat 1 (dp + 1)) dp fr (h 17 5) (stOf h) j).2.2.1 (mSeL (mSe (mGt5 h) (h 4 5 1).toNat 1 (dp + 1)) dp fr (h 17 5) (stOf h) j).2.1)) (mSe (mGt5 h) (h 4 5 1).toNat 1 (dp + 1) (fr + j) (fwFu (h 17 5) (fr + j) (h 17 5 (fr + j) + -1)) (fwFu (mSeL (mSe (mGt5 h) (h 4 5 1).toNat 1 (dp + 1)) dp fr (h 17 5) (stOf h) j).1 dp ((fr + j : Nat) : Int), (mSeL (mSe (mGt5 h) (h 4 5 1).toNat 1 (dp + 1)) dp fr (h 17 5) (stOf h) j).2)).2.2.1 (mSe (mGt5 h) (h 4 5 1).toNat 1 (dp + 1) (fr + j) (fwFu (h 17 5) (fr + j) (h 17 5 (fr + j) + -1)) (fwFu (mSeL (mSe (mGt5 h) (h 4 5 1).toNat 1 (dp + 1)) dp fr (h 17 5) (stOf h) j).1 dp ((fr + j : Nat) : Int), (mSeL (mSe (mGt5 h) (h 4 5 1).toNat 1 (dp + 1)) dp fr (h 17 5) (stOf h) j).2)).2.1)) 17 5 (fwFu (h 17 5) (fr + j) (h 17 5 (fr + j) + -1))) 20 0 A1) 27 0 (mSe (mGt5 h) (h 4 5 1).toNat 1 (dp + 1) (fr + j) (fwFu (h 17 5) (fr + j) (h 17 5 (fr + j) + -1)) (fwFu (mSeL (mSe (mGt5 h) (h 4 5 1).toNat 1 (dp + 1)) dp fr (h 17 5) (stOf h) j).1 dp ((fr + j : Nat) : Int), (mSeL (mSe (mGt5 h) (h 4 5 1).toNat 1 (dp + 1)) dp fr (h 17 5) (stOf h) j).2)).1) 28 0 (mSe (mGt5 h) (h 4 5 1).toNat 1 (dp + 1) (fr + j) (fwFu (h 17 5) (fr + j) (h 17 5 (fr + j) + -1)) (fwFu (mSeL (mSe (mGt5 h) (h 4 5 1).toNat 1 (dp + 1)) dp fr (h 17 5) (stOf h) j).1 dp ((fr + j : Nat) : Int), (mSeL (mSe (mGt5 h) (h 4 5 1).toNat 1 (dp + 1)) dp fr (h 17 5) (stOf h) j).2)).2.2.2) Q
            rw [show fwUc (fwUc (fwUc (fwUc (fwUc (fwUc (fwUc (fwUc (fwUc (fwUc h 8 0 (seF (h 8 0) (mSeL (mSe (mGt5 h) (h 4 5 1).toNat 1 (dp + 1)) dp fr (h 17 5) (stOf h) j).2.2.1 (mSeL (mSe (mGt5 h) (h 4 5 1).toNat 1 (dp + 1)) dp fr (h 17 5) (stOf h) j).2.1)) 17 5 (fwFu (h 17 5) (fr + j) (h 17 5 (fr + j) + -1))) 20 0 A_18) 27 0 (fwFu (mSeL (mSe (mGt5 h) (h 4 5 1).toNat 1 (dp + 1)) dp fr (h 17 5) (stOf h) j).1 dp ((fr + j : Nat) : Int))) 28 0 (mSeL (mSe (mGt5 h) (h 4 5 1).toNat 1 (dp + 1)) dp fr (h 17 5) (stOf h) j).2.2.2) 8 0 (seF ((seF (h 8 0) (mSeL (mSe (mGt5 h) (h 4 5 1).toNat 1 (dp + 1)) dp fr (h 17 5) (stOf h) j).2.2.1 (mSeL (mSe (mGt5 h) (h 4 5 1).toNat 1 (dp + 1)) dp fr (h 17 5) (stOf h) j).2.1)) (mSe (mGt5 h) (h 4 5 1).toNat 1 (dp + 1) (fr + j) (fwFu (h 17 5) (fr + j) (h 17 5 (fr + j) + -1)) (fwFu (mSeL (mSe (mGt5 h) (h 4 5 1).toNat 1 (dp + 1)) dp fr (h 17 5) (stOf h) j).1 dp ((fr + j : Nat) : Int), (mSeL (mSe (mGt5 h) (h 4 5 1).toNat 1 (dp + 1)) dp fr (h 17 5) (stOf h) j).2)).2.2.1 (mSe (mGt5 h) (h 4 5 1).toNat 1 (dp + 1) (fr + j) (fwFu (h 17 5) (fr + j) (h 17 5 (fr + j) + -1)) (fwFu (mSeL (mSe (mGt5 h) (h 4 5 1).toNat 1 (dp + 1)) dp fr (h 17 5) (stOf h) j).1 dp ((fr + j : Nat) : Int), (mSeL (mSe (mGt5 h) (h 4 5 1).toNat 1 (dp + 1)) dp fr (h 17 5) (stOf h) j).2)).2.1)) 17 5 (fwFu (h 17 5) (fr + j) (h 17 5 (fr + j) + -1))) 20 0 A1) 27 0 (mSe (mGt5 h) (h 4 5 1).toNat 1 (dp + 1) (fr + j) (fwFu (h 17 5) (fr + j) (h 17 5 (fr + j) + -1)) (fwFu (mSeL (mSe (mGt5 h) (h 4 5 1).toNat 1 (dp + 1)) dp fr (h 17 5) (stOf h) j).1 dp ((fr + j : Nat) : Int), (mSeL (mSe (mGt5 h) (h 4 5 1).toNat 1 (dp + 1)) dp fr (h 17 5) (stOf h) j).2)).1) 28 0 (mSe (mGt5 h) (h 4 5 1).toNat 1 (dp + 1) (fr + j) (fwFu (h 17 5) (fr + j) (h 17 5 (fr + j) + -1)) (fwFu (mSeL (mSe (mGt5 h) (h 4 5 1).toNat 1 (dp + 1)) dp fr (h 17 5) (stOf h) j).1 dp ((fr + j : Nat) : Int), (mSeL (mSe (mGt5 h) (h 4 5 1).toNat 1 (dp + 1)) dp fr (h 17 5) (stOf h) j).2)).2.2.2 = (fwUc (fwUc (fwUc (fwUc (fwUc h 8 0 (seF ((seF (h 8 0) (mSeL (mSe (mGt5 h) (h 4 5 1).toNat 1 (dp + 1)) dp fr (h 17 5) (stOf h) j).2.2.1 (mSeL (mSe (mGt5 h) (h 4 5 1).toNat 1 (dp + 1)) dp fr (h 17 5) (stOf h) j).2.1)) (mSe (mGt5 h) (h 4 5 1).toNat 1 (dp + 1) (fr + j) (fwFu (h 17 5) (fr + j) (h 17 5 (fr + j) + -1)) (fwFu (mSeL (mSe (mGt5 h) (h 4 5 1).toNat 1 (dp + 1)) dp fr (h 17 5) (stOf h) j).1 dp ((fr + j : Nat) : Int), (mSeL (mSe (mGt5 h) (h 4 5 1).toNat 1 (dp + 1)) dp fr (h 17 5) (stOf h) j).2)).2.2.1 (mSe (mGt5 h) (h 4 5 1).toNat 1 (dp + 1) (fr + j) (fwFu (h 17 5) (fr + j) (h 17 5 (fr + j) + -1)) (fwFu (mSeL (mSe (mGt5 h) (h 4 5 1).toNat 1 (dp + 1)) dp fr (h 17 5) (stOf h) j).1 dp ((fr + j : Nat) : Int), (mSeL (mSe (mGt5 h) (h 4 5 1).toNat 1 (dp + 1)) dp fr (h 17 5) (stOf h) j).2)).2.1)) 17 5 (fwFu (h 17 5) (fr + j) (h 17 5 (fr + j) + -1))) 20 0 A1) 27 0 ((mSe (mGt5 h) (h 4 5 1).toNat 1 (dp + 1) (fr + j) (fwFu (h 17 5) (fr + j) (h 17 5 (fr + j) + -1)) (fwFu (mSeL (mSe (mGt5 h) (h 4 5 1).toNat 1 (dp + 1)) dp fr (h 17 5) (stOf h) j).1 dp ((fr + j : Nat) : Int), (mSeL (mSe (mGt5 h) (h 4 5 1).toNat 1 (dp + 1)) dp fr (h 17 5) (stOf h) j).2)).1)) 28 0 ((mSe (mGt5 h) (h 4 5 1).toNat 1 (dp + 1) (fr + j) (fwFu (h 17 5) (fr + j) (h 17 5 (fr + j) + -1)) (fwFu (mSeL (mSe (mGt5 h) (h 4 5 1).toNat 1 (dp + 1)) dp fr (h 17 5) (stOf h) j).1 dp ((fr + j : Nat) : Int), (mSeL (mSe (mGt5 h) (h 4 5 1).toNat 1 (dp + 1)) dp fr (h 17 5) (stOf h) j).2)).2.2.2)) from by funext a b; simp only [fwUc]; (repeat' split); all_goals first | rfl | (exfalso; omega)]
            rw [seF_seF]
            have hG8 : gOk (fwUc (fwUc (fwUc (fwUc (fwUc h 8 0 (seF (h 8 0) (mSe (mGt5 h) (h 4 5 1).toNat 1 (dp + 1) (fr + j) (fwFu (h 17 5) (fr + j) (h 17 5 (fr + j) + -1)) (fwFu (mSeL (mSe (mGt5 h) (h 4 5 1).toNat 1 (dp + 1)) dp fr (h 17 5) (stOf h) j).1 dp ((fr + j : Nat) : Int), (mSeL (mSe (mGt5 h) (h 4 5 1).toNat 1 (dp + 1)) dp fr (h 17 5) (stOf h) j).2)).2.2.1 (mSe (mGt5 h) (h 4 5 1).toNat 1 (dp + 1) (fr + j) (fwFu (h 17 5) (fr + j) (h 17 5 (fr + j) + -1)) (fwFu (mSeL (mSe (mGt5 h) (h 4 5 1).toNat 1 (dp + 1)) dp fr (h 17 5) (stOf h) j).1 dp ((fr + j : Nat) : Int), (mSeL (mSe (mGt5 h) (h 4 5 1).toNat 1 (dp + 1)) dp fr (h 17 5) (stOf h) j).2)).2.1)) 17 5 ((fwFu (h 17 5) (fr + j) (h 17 5 (fr + j) + -1)))) 20 0 A1) 27 0 (mSe (mGt5 h) (h 4 5 1).toNat 1 (dp + 1) (fr + j) (fwFu (h 17 5) (fr + j) (h 17 5 (fr + j) + -1)) (fwFu (mSeL (mSe (mGt5 h) (h 4 5 1).toNat 1 (dp + 1)) dp fr (h 17 5) (stOf h) j).1 dp ((fr + j : Nat) : Int), (mSeL (mSe (mGt5 h) (h 4 5 1).toNat 1 (dp + 1)) dp fr (h 17 5) (stOf h) j).2)).1) 28 0 (mSe (mGt5 h) (h 4 5 1).toNat 1 (dp + 1) (fr + j) (fwFu (h 17 5) (fr + j) (h 17 5 (fr + j) + -1)) (fwFu (mSeL (mSe (mGt5 h) (h 4 5 1).toNat 1 (dp + 1)) dp fr (h 17 5) (stOf h) j).1 dp ((fr + j : Nat) : Int), (mSeL (mSe (mGt5 h) (h 4 5 1).toNat 1 (dp + 1)) dp fr (h 17 5) (stOf h) j).2)).2.2.2) 5 := ⟨hG.1, hG.2.1, hG.2.2.1, hG.2.2.2.1, fwFu_rng g8 (by omega)⟩
            refine w_aload_n dX7_search_70 rfl ?_
            refine w_getr 4 5 dX7_search_71 fl_X7_25 rfl (by decide) ?_
            refine w_iload dX7_search_74 rfl ?_
            refine w_iconst dX7_search_76 ?_
            refine w_callV (d := d + 6) (S := []) [aI ((fr : Int) + (j : Int)), aI 1] dX7_search_77 ml_X7_48 ok_X1_change vi_X1_change rfl rfl (by decide) rfl (Nat.le_of_ble_eq_true rfl) ?_
            refine c_X1_changeE (d := (d + 5)) 5 ((fr : Int) + (j : Int)) 1 (by decide) (by first | assumption | omega | decide) (by first | assumption | omega | decide) (show (fr : Int) + (j : Int) < h 4 5 1 by first | assumption | omega | decide) ?_
            show fwWP mX7_search (d + 7) 80 [some (aR 8 0), some (aI ((dp : Int) + 2)), some (aI (dp : Int)), some (aI (fr : Int)), some (aI ((fr : Int) + (j : Int)))] [] (fwUc (fwUc (fwUc (fwUc (fwUc (fwUc h 8 0 (seF (h 8 0) (mSe (mGt5 h) (h 4 5 1).toNat 1 (dp + 1) (fr + j) (fwFu (h 17 5) (fr + j) (h 17 5 (fr + j) + -1)) (fwFu (mSeL (mSe (mGt5 h) (h 4 5 1).toNat 1 (dp + 1)) dp fr (h 17 5) (stOf h) j).1 dp ((fr + j : Nat) : Int), (mSeL (mSe (mGt5 h) (h 4 5 1).toNat 1 (dp + 1)) dp fr (h 17 5) (stOf h) j).2)).2.2.1 (mSe (mGt5 h) (h 4 5 1).toNat 1 (dp + 1) (fr + j) (fwFu (h 17 5) (fr + j) (h 17 5 (fr + j) + -1)) (fwFu (mSeL (mSe (mGt5 h) (h 4 5 1).toNat 1 (dp + 1)) dp fr (h 17 5) (stOf h) j).1 dp ((fr + j : Nat) : Int), (mSeL (mSe (mGt5 h) (h 4 5 1).toNat 1 (dp + 1)) dp fr (h 17 5) (stOf h) j).2)).2.1)) 17 5 ((fwFu (h 17 5) (fr + j) (h 17 5 (fr + j) + -1)))) 20 0 A1) 27 0 (mSe (mGt5 h) (h 4 5 1).toNat 1 (dp + 1) (fr + j) (fwFu (h 17 5) (fr + j) (h 17 5 (fr + j) + -1)) (fwFu (mSeL (mSe (mGt5 h) (h 4 5 1).toNat 1 (dp + 1)) dp fr (h 17 5) (stOf h) j).1 dp ((fr + j : Nat) : Int), (mSeL (mSe (mGt5 h) (h 4 5 1).toNat 1 (dp + 1)) dp fr (h 17 5) (stOf h) j).2)).1) 28 0 (mSe (mGt5 h) (h 4 5 1).toNat 1 (dp + 1) (fr + j) (fwFu (h 17 5) (fr + j) (h 17 5 (fr + j) + -1)) (fwFu (mSeL (mSe (mGt5 h) (h 4 5 1).toNat 1 (dp + 1)) dp fr (h 17 5) (stOf h) j).1 dp ((fr + j : Nat) : Int), (mSeL (mSe (mGt5 h) (h 4 5 1).toNat 1 (dp + 1)) dp fr (h 17 5) (stOf h) j).2)).2.2.2) 17 5 (fwFu (((fwFu (h 17 5) (fr + j) (h 17 5 (fr + j) + -1)))) ((fr : Int) + (j : Int)).toNat (((fwFu (h 17 5) (fr + j) (h 17 5 (fr + j) + -1))) ((fr : Int) + (j : Int)).toNat + 1))) Q
            rw [show fwUc (fwUc (fwUc (fwUc (fwUc (fwUc h 8 0 (seF (h 8 0) (mSe (mGt5 h) (h 4 5 1).toNat 1 (dp + 1) (fr + j) (fwFu (h 17 5) (fr + j) (h 17 5 (fr + j) + -1)) (fwFu (mSeL (mSe (mGt5 h) (h 4 5 1).toNat 1 (dp + 1)) dp fr (h 17 5) (stOf h) j).1 dp ((fr + j : Nat) : Int), (mSeL (mSe (mGt5 h) (h 4 5 1).toNat 1 (dp + 1)) dp fr (h 17 5) (stOf h) j).2)).2.2.1 (mSe (mGt5 h) (h 4 5 1).toNat 1 (dp + 1) (fr + j) (fwFu (h 17 5) (fr + j) (h 17 5 (fr + j) + -1)) (fwFu (mSeL (mSe (mGt5 h) (h 4 5 1).toNat 1 (dp + 1)) dp fr (h 17 5) (stOf h) j).1 dp ((fr + j : Nat) : Int), (mSeL (mSe (mGt5 h) (h 4 5 1).toNat 1 (dp + 1)) dp fr (h 17 5) (stOf h) j).2)).2.1)) 17 5 ((fwFu (h 17 5) (fr + j) (h 17 5 (fr + j) + -1)))) 20 0 A1) 27 0 (mSe (mGt5 h) (h 4 5 1).toNat 1 (dp + 1) (fr + j) (fwFu (h 17 5) (fr + j) (h 17 5 (fr + j) + -1)) (fwFu (mSeL (mSe (mGt5 h) (h 4 5 1).toNat 1 (dp + 1)) dp fr (h 17 5) (stOf h) j).1 dp ((fr + j : Nat) : Int), (mSeL (mSe (mGt5 h) (h 4 5 1).toNat 1 (dp + 1)) dp fr (h 17 5) (stOf h) j).2)).1) 28 0 (mSe (mGt5 h) (h 4 5 1).toNat 1 (dp + 1) (fr + j) (fwFu (h 17 5) (fr + j) (h 17 5 (fr + j) + -1)) (fwFu (mSeL (mSe (mGt5 h) (h 4 5 1).toNat 1 (dp + 1)) dp fr (h 17 5) (stOf h) j).1 dp ((fr + j : Nat) : Int), (mSeL (mSe (mGt5 h) (h 4 5 1).toNat 1 (dp + 1)) dp fr (h 17 5) (stOf h) j).2)).2.2.2) 17 5 (fwFu (((fwFu (h 17 5) (fr + j) (h 17 5 (fr + j) + -1)))) ((fr : Int) + (j : Int)).toNat (((fwFu (h 17 5) (fr + j) (h 17 5 (fr + j) + -1))) ((fr : Int) + (j : Int)).toNat + 1)) = (fwUc (fwUc (fwUc (fwUc (fwUc h 8 0 (seF (h 8 0) (mSe (mGt5 h) (h 4 5 1).toNat 1 (dp + 1) (fr + j) (fwFu (h 17 5) (fr + j) (h 17 5 (fr + j) + -1)) (fwFu (mSeL (mSe (mGt5 h) (h 4 5 1).toNat 1 (dp + 1)) dp fr (h 17 5) (stOf h) j).1 dp ((fr + j : Nat) : Int), (mSeL (mSe (mGt5 h) (h 4 5 1).toNat 1 (dp + 1)) dp fr (h 17 5) (stOf h) j).2)).2.2.1 (mSe (mGt5 h) (h 4 5 1).toNat 1 (dp + 1) (fr + j) (fwFu (h 17 5) (fr + j) (h 17 5 (fr + j) + -1)) (fwFu (mSeL (mSe (mGt5 h) (h 4 5 1).toNat 1 (dp + 1)) dp fr (h 17 5) (stOf h) j).1 dp ((fr + j : Nat) : Int), (mSeL (mSe (mGt5 h) (h 4 5 1).toNat 1 (dp + 1)) dp fr (h 17 5) (stOf h) j).2)).2.1)) 17 5 (fwFu (((fwFu (h 17 5) (fr + j) (h 17 5 (fr + j) + -1)))) ((fr : Int) + (j : Int)).toNat (((fwFu (h 17 5) (fr + j) (h 17 5 (fr + j) + -1))) ((fr : Int) + (j : Int)).toNat + 1))) 20 0 A1) 27 0 ((mSe (mGt5 h) (h 4 5 1).toNat 1 (dp + 1) (fr + j) (fwFu (h 17 5) (fr + j) (h 17 5 (fr + j) + -1)) (fwFu (mSeL (mSe (mGt5 h) (h 4 5 1).toNat 1 (dp + 1)) dp fr (h 17 5) (stOf h) j).1 dp ((fr + j : Nat) : Int), (mSeL (mSe (mGt5 h) (h 4 5 1).toNat 1 (dp + 1)) dp fr (h 17 5) (stOf h) j).2)).1)) 28 0 ((mSe (mGt5 h) (h 4 5 1).toNat 1 (dp + 1) (fr + j) (fwFu (h 17 5) (fr + j) (h 17 5 (fr + j) + -1)) (fwFu (mSeL (mSe (mGt5 h) (h 4 5 1).toNat 1 (dp + 1)) dp fr (h 17 5) (stOf h) j).1 dp ((fr + j : Nat) : Int), (mSeL (mSe (mGt5 h) (h 4 5 1).toNat 1 (dp + 1)) dp fr (h 17 5) (stOf h) j).2)).2.2.2)) from by funext a b; simp only [fwUc]; (repeat' split); all_goals first | rfl | (exfalso; omega)]
            rw [show (fwUc (fwUc (fwUc (fwUc (fwUc h 8 0 (seF (h 8 0) (mSe (mGt5 h) (h 4 5 1).toNat 1 (dp + 1) (fr + j) (fwFu (h 17 5) (fr + j) (h 17 5 (fr + j) + -1)) (fwFu (mSeL (mSe (mGt5 h) (h 4 5 1).toNat 1 (dp + 1)) dp fr (h 17 5) (stOf h) j).1 dp ((fr + j : Nat) : Int), (mSeL (mSe (mGt5 h) (h 4 5 1).toNat 1 (dp + 1)) dp fr (h 17 5) (stOf h) j).2)).2.2.1 (mSe (mGt5 h) (h 4 5 1).toNat 1 (dp + 1) (fr + j) (fwFu (h 17 5) (fr + j) (h 17 5 (fr + j) + -1)) (fwFu (mSeL (mSe (mGt5 h) (h 4 5 1).toNat 1 (dp + 1)) dp fr (h 17 5) (stOf h) j).1 dp ((fr + j : Nat) : Int), (mSeL (mSe (mGt5 h) (h 4 5 1).toNat 1 (dp + 1)) dp fr (h 17 5) (stOf h) j).2)).2.1)) 17 5 (fwFu (((fwFu (h 17 5) (fr + j) (h 17 5 (fr + j) + -1)))) ((fr : Int) + (j : Int)).toNat (((fwFu (h 17 5) (fr + j) (h 17 5 (fr + j) + -1))) ((fr : Int) + (j : Int)).toNat + 1))) 20 0 A1) 27 0 ((mSe (mGt5 h) (h 4 5 1).toNat 1 (dp + 1) (fr + j) (fwFu (h 17 5) (fr + j) (h 17 5 (fr + j) + -1)) (fwFu (mSeL (mSe (mGt5 h) (h 4 5 1).toNat 1 (dp + 1)) dp fr (h 17 5) (stOf h) j).1 dp ((fr + j : Nat) : Int), (mSeL (mSe (mGt5 h) (h 4 5 1).toNat 1 (dp + 1)) dp fr (h 17 5) (stOf h) j).2)).1)) 28 0 ((mSe (mGt5 h) (h 4 5 1).toNat 1 (dp + 1) (fr + j) (fwFu (h 17 5) (fr + j) (h 17 5 (fr + j) + -1)) (fwFu (mSeL (mSe (mGt5 h) (h 4 5 1).toNat 1 (dp + 1)) dp fr (h 17 5) (stOf h) j).1 dp ((fr + j : Nat) : Int), (mSeL (mSe (mGt5 h) (h 4 5 1).toNat 1 (dp + 1)) dp fr (h 17 5) (stOf h) j).2)).2.2.2)) = (fwUc (fwUc (fwUc (fwUc (fwUc h 8 0 (seF (h 8 0) (mSe (mGt5 h) (h 4 5 1).toNat 1 (dp + 1) (fr + j) (fwFu (h 17 5) (fr + j) (h 17 5 (fr + j) + -1)) (fwFu (mSeL (mSe (mGt5 h) (h 4 5 1).toNat 1 (dp + 1)) dp fr (h 17 5) (stOf h) j).1 dp ((fr + j : Nat) : Int), (mSeL (mSe (mGt5 h) (h 4 5 1).toNat 1 (dp + 1)) dp fr (h 17 5) (stOf h) j).2)).2.2.1 (mSe (mGt5 h) (h 4 5 1).toNat 1 (dp + 1) (fr + j) (fwFu (h 17 5) (fr + j) (h 17 5 (fr + j) + -1)) (fwFu (mSeL (mSe (mGt5 h) (h 4 5 1).toNat 1 (dp + 1)) dp fr (h 17 5) (stOf h) j).1 dp ((fr + j : Nat) : Int), (mSeL (mSe (mGt5 h) (h 4 5 1).toNat 1 (dp + 1)) dp fr (h 17 5) (stOf h) j).2)).2.1)) 17 5 (h 17 5)) 20 0 A1) 27 0 (mSe (mGt5 h) (h 4 5 1).toNat 1 (dp + 1) (fr + j) (fwFu (h 17 5) (fr + j) (h 17 5 (fr + j) + -1)) (fwFu (mSeL (mSe (mGt5 h) (h 4 5 1).toNat 1 (dp + 1)) dp fr (h 17 5) (stOf h) j).1 dp ((fr + j : Nat) : Int), (mSeL (mSe (mGt5 h) (h 4 5 1).toNat 1 (dp + 1)) dp fr (h 17 5) (stOf h) j).2)).1) 28 0 (mSe (mGt5 h) (h 4 5 1).toNat 1 (dp + 1) (fr + j) (fwFu (h 17 5) (fr + j) (h 17 5 (fr + j) + -1)) (fwFu (mSeL (mSe (mGt5 h) (h 4 5 1).toNat 1 (dp + 1)) dp fr (h 17 5) (stOf h) j).1 dp ((fr + j : Nat) : Int), (mSeL (mSe (mGt5 h) (h 4 5 1).toNat 1 (dp + 1)) dp fr (h 17 5) (stOf h) j).2)).2.2.2) from by rw [show ((fr : Int) + (j : Int)).toNat = fr + j by omega, fwFu_dn]]
            refine w_iinc [some (aR 8 0), some (aI ((dp : Int) + 2)), some (aI (dp : Int)), some (aI (fr : Int)), some (aI (((fr : Int) + (j : Int)) + 1))] dX7_search_80 rfl rfl (by decide) ?_
            refine w_goto 18 dX7_search_83 (by decide) ?_
            refine ih18 (by omega) _ _ ?_ ?_
            · exact (by omega)
            · exact ⟨_, by rw [mSeL, if_pos (by omega)]⟩
      refine lp18 0 (Nat.zero_le _) _ _ ?_ ?_
      · exact (by omega)
      · exact ⟨h 20 0, (seH_self' h).symm⟩
    · (exfalso; omega)
theorem c_search2E {d : Nat} {h : fwH} {Q : Option fwV → fwH → Prop} (dp fr : Nat) (n x y : Int) (en : n = (dp : Int) + 2) (ex : x = (dp : Int)) (ey : y = (fr : Int)) (hP : pOk h 0) (hG : gOk h 5) (hS : stOk (stOf h)) (hd : dp + 2 ≤ 3) (hfr : (fr : Int) ≤ h 4 5 1) (k : ∀ A, Q none (seH h (h 17 5) (mSe (mGt5 h) (h 4 5 1).toNat 2 dp fr (h 17 5) (stOf h)) A)) : fwCt mX7_search (d + 7) [aR 8 0, aI n, aI x, aI y] h Q := by
  subst en ex ey
  exact c_search2 dp fr hP hG hS hd hfr k
set_option maxRecDepth 100000 in
set_option maxHeartbeats 4000000 in
theorem c_search3 {d : Nat} {h : fwH} {Q : Option fwV → fwH → Prop} (dp fr : Nat) (hP : pOk h 0) (hG : gOk h 5) (hS : stOk (stOf h)) (hd : dp + 3 ≤ 3) (hfr : (fr : Int) ≤ h 4 5 1) (k : ∀ A, Q none (seH h (h 17 5) (mSe (mGt5 h) (h 4 5 1).toNat 3 dp fr (h 17 5) (stOf h)) A)) : fwCt mX7_search (d + 8) [aR 8 0, aI ((dp : Int) + 3), aI (dp : Int), aI (fr : Int)] h Q := by
  refine fwCt_of [some (aR 8 0), some (aI ((dp : Int) + 3)), some (aI (dp : Int)), some (aI (fr : Int)), none] rfl rfl rfl ?_
  obtain ⟨⟨g1, g2⟩, ⟨g3, g4⟩, ⟨g5, g6⟩, g7, g8⟩ := id hG
  refine w_iload_n dX7_search_0 rfl ?_
  refine w_iload_n dX7_search_1 rfl ?_
  refine w_icmp_ge 10 dX7_search_2 (by decide) (by omega) (by omega) (fun c2 => ?_) (fun c2 => ?_)
  · (exfalso; omega)
  · refine w_iload_n dX7_search_5 rfl ?_
    refine w_iconst dX7_search_6 ?_
    refine w_icmp_lt 15 dX7_search_7 (by decide) (by omega) (by omega) (fun c7 => ?_) (fun c7 => ?_)
    · refine w_iload_n dX7_search_15 rfl ?_
      refine w_istore [some (aR 8 0), some (aI ((dp : Int) + 3)), some (aI (dp : Int)), some (aI (fr : Int)), some (aI (fr : Int))] dX7_search_16 rfl (by decide) ?_
      have lp18 : ∀ j : Nat, j ≤ ((h 4 5 1).toNat - fr) → ∀ (y18  : Int) (hh18 : fwH), y18 = (fr : Int) + (j : Int) → (∃ A : Nat → Int, hh18 = (fwUc (fwUc (fwUc (fwUc (fwUc h 8 0 (seF (h 8 0) (mSeL (mSe (mGt5 h) (h 4 5 1).toNat 2 (dp + 1)) dp fr (h 17 5) (stOf h) j).2.2.1 (mSeL (mSe (mGt5 h) (h 4 5 1).toNat 2 (dp + 1)) dp fr (h 17 5) (stOf h) j).2.1)) 17 5 (h 17 5)) 20 0 A) 27 0 (mSeL (mSe (mGt5 h) (h 4 5 1).toNat 2 (dp + 1)) dp fr (h 17 5) (stOf h) j).1) 28 0 (mSeL (mSe (mGt5 h) (h 4 5 1).toNat 2 (dp + 1)) dp fr (h 17 5) (stOf h) j).2.2.2)) → fwWP mX7_search (d + 8) 18 [some (aR 8 0), some (aI ((dp : Int) + 3)), some (aI (dp : Int)), some (aI (fr : Int)), some (aI y18)] [] hh18 Q := by
        refine fw_up (fun j hc18 ih18 => ?_)
        intro y18  hh18 ey18 eh18
        subst ey18
        obtain ⟨A_18, eh18⟩ := eh18
        subst eh18
        have hSj := mSeL_ok (nc := (h 4 5 1).toNat) (by omega) (mGt5_rng hP g2) 2 dp fr (h 17 5) (stOf h) g8 hS j (by omega)
        show fwWP mX7_search (d + 8) 18 [some (aR 8 0), some (aI ((dp : Int) + 3)), some (aI (dp : Int)), some (aI (fr : Int)), some (aI ((fr : Int) + (j : Int)))] [] (fwUc (fwUc (fwUc (fwUc (fwUc h 8 0 (seF (h 8 0) (mSeL (mSe (mGt5 h) (h 4 5 1).toNat 2 (dp + 1)) dp fr (h 17 5) (stOf h) j).2.2.1 (mSeL (mSe (mGt5 h) (h 4 5 1).toNat 2 (dp + 1)) dp fr (h 17 5) (stOf h) j).2.1)) 17 5 (h 17 5)) 20 0 A_18) 27 0 (mSeL (mSe (mGt5 h) (h 4 5 1).toNat 2 (dp + 1)) dp fr (h 17 5) (stOf h) j).1) 28 0 (mSeL (mSe (mGt5 h) (h 4 5 1).toNat 2 (dp + 1)) dp fr (h 17 5) (stOf h) j).2.2.2) Q
        refine w_iload dX7_search_18 rfl ?_
        refine w_aload_n dX7_search_20 rfl ?_
        refine w_getr 4 5 dX7_search_21 fl_X7_25 rfl (by decide) ?_
        refine w_getiE (v := h 4 5 1) dX7_search_24 fl_X7_40 rfl (by decide) (by first | rfl | simp [fwUp, fwUc]) ?_
        refine w_icmp_ge 86 dX7_search_27 (by decide) (by omega) (by omega) (fun c27 => ?_) (fun c27 => ?_)
        · have ec18 : ((h 4 5 1).toNat - fr) = j := by omega
          subst ec18
          exact w_vret dX7_search_86 rfl (k _)
        · have hG6 : gOk (fwUc (fwUc (fwUc (fwUc (fwUc h 8 0 (seF (h 8 0) (mSeL (mSe (mGt5 h) (h 4 5 1).toNat 2 (dp + 1)) dp fr (h 17 5) (stOf h) j).2.2.1 (mSeL (mSe (mGt5 h) (h 4 5 1).toNat 2 (dp + 1)) dp fr (h 17 5) (stOf h) j).2.1)) 17 5 (h 17 5)) 20 0 A_18) 27 0 (mSeL (mSe (mGt5 h) (h 4 5 1).toNat 2 (dp + 1)) dp fr (h 17 5) (stOf h) j).1) 28 0 (mSeL (mSe (mGt5 h) (h 4 5 1).toNat 2 (dp + 1)) dp fr (h 17 5) (stOf h) j).2.2.2) 5 := ⟨hG.1, hG.2.1, hG.2.2.1, hG.2.2.2.1, hG.2.2.2.2⟩
          refine w_aload_n dX7_search_30 rfl ?_
          refine w_getr 4 5 dX7_search_31 fl_X7_25 rfl (by decide) ?_
          refine w_iload dX7_search_34 rfl ?_
          refine w_callV (d := d + 7) (S := []) [aI ((fr : Int) + (j : Int))] dX7_search_36 ml_X7_44 ok_X1_heightOf vi_X1_heightOf rfl rfl (by decide) rfl (Nat.le_of_ble_eq_true rfl) ?_
          refine c_X1_heightOfE (d := (d + 7)) 5 ((fr : Int) + (j : Int)) (h 17 5 (fr + j)) (by decide) (by first | assumption | omega | decide) (by first | assumption | omega | decide) (hOf_in (n := h 4 5 1) (H := h 17 5) (c := fr + j) (by omega)) ?_
          show fwWP mX7_search (d + 8) 39 [some (aR 8 0), some (aI ((dp : Int) + 3)), some (aI (dp : Int)), some (aI (fr : Int)), some (aI ((fr : Int) + (j : Int)))] [aI (h 17 5 (fr + j))] (fwUc (fwUc (fwUc (fwUc (fwUc h 8 0 (seF (h 8 0) (mSeL (mSe (mGt5 h) (h 4 5 1).toNat 2 (dp + 1)) dp fr (h 17 5) (stOf h) j).2.2.1 (mSeL (mSe (mGt5 h) (h 4 5 1).toNat 2 (dp + 1)) dp fr (h 17 5) (stOf h) j).2.1)) 17 5 (h 17 5)) 20 0 A_18) 27 0 (mSeL (mSe (mGt5 h) (h 4 5 1).toNat 2 (dp + 1)) dp fr (h 17 5) (stOf h) j).1) 28 0 (mSeL (mSe (mGt5 h) (h 4 5 1).toNat 2 (dp + 1)) dp fr (h 17 5) (stOf h) j).2.2.2) Q
          have hc1 := g8 (fr + j) (by omega)
          refine w_if_le 80 dX7_search_39 (by decide) (by omega) (fun c39 => ?_) (fun c39 => ?_)
          · refine w_iinc [some (aR 8 0), some (aI ((dp : Int) + 3)), some (aI (dp : Int)), some (aI (fr : Int)), some (aI (((fr : Int) + (j : Int)) + 1))] dX7_search_80 rfl rfl (by decide) ?_
            refine w_goto 18 dX7_search_83 (by decide) ?_
            refine ih18 (by omega) _ _ ?_ ?_
            · exact (by omega)
            · exact ⟨_, by rw [mSeL, if_neg (by omega)]⟩
          · refine w_aload_n dX7_search_42 rfl ?_
            refine w_getr 4 5 dX7_search_43 fl_X7_25 rfl (by decide) ?_
            refine w_iload dX7_search_46 rfl ?_
            refine w_iconst dX7_search_48 ?_
            refine w_callV (d := d + 7) (S := []) [aI ((fr : Int) + (j : Int)), aI (-1)] dX7_search_49 ml_X7_48 ok_X1_change vi_X1_change rfl rfl (by decide) rfl (Nat.le_of_ble_eq_true rfl) ?_
            refine c_X1_changeE (d := (d + 6)) 5 ((fr : Int) + (j : Int)) (-1) (by decide) (by first | assumption | omega | decide) (by first | assumption | omega | decide) (show (fr : Int) + (j : Int) < h 4 5 1 by first | assumption | omega | decide) ?_
            show fwWP mX7_search (d + 8) 52 [some (aR 8 0), some (aI ((dp : Int) + 3)), some (aI (dp : Int)), some (aI (fr : Int)), some (aI ((fr : Int) + (j : Int)))] [] (fwUc (fwUc (fwUc (fwUc (fwUc (fwUc h 8 0 (seF (h 8 0) (mSeL (mSe (mGt5 h) (h 4 5 1).toNat 2 (dp + 1)) dp fr (h 17 5) (stOf h) j).2.2.1 (mSeL (mSe (mGt5 h) (h 4 5 1).toNat 2 (dp + 1)) dp fr (h 17 5) (stOf h) j).2.1)) 17 5 (h 17 5)) 20 0 A_18) 27 0 (mSeL (mSe (mGt5 h) (h 4 5 1).toNat 2 (dp + 1)) dp fr (h 17 5) (stOf h) j).1) 28 0 (mSeL (mSe (mGt5 h) (h 4 5 1).toNat 2 (dp + 1)) dp fr (h 17 5) (stOf h) j).2.2.2) 17 5 (fwFu ((h 17 5)) ((fr : Int) + (j : Int)).toNat ((h 17 5) ((fr : Int) + (j : Int)).toNat + (-1)))) Q
            rw [show fwUc (fwUc (fwUc (fwUc (fwUc (fwUc h 8 0 (seF (h 8 0) (mSeL (mSe (mGt5 h) (h 4 5 1).toNat 2 (dp + 1)) dp fr (h 17 5) (stOf h) j).2.2.1 (mSeL (mSe (mGt5 h) (h 4 5 1).toNat 2 (dp + 1)) dp fr (h 17 5) (stOf h) j).2.1)) 17 5 (h 17 5)) 20 0 A_18) 27 0 (mSeL (mSe (mGt5 h) (h 4 5 1).toNat 2 (dp + 1)) dp fr (h 17 5) (stOf h) j).1) 28 0 (mSeL (mSe (mGt5 h) (h 4 5 1).toNat 2 (dp + 1)) dp fr (h 17 5) (stOf h) j).2.2.2) 17 5 (fwFu ((h 17 5)) ((fr : Int) + (j : Int)).toNat ((h 17 5) ((fr : Int) + (j : Int)).toNat + (-1))) = (fwUc (fwUc (fwUc (fwUc (fwUc h 8 0 (seF (h 8 0) (mSeL (mSe (mGt5 h) (h 4 5 1).toNat 2 (dp + 1)) dp fr (h 17 5) (stOf h) j).2.2.1 (mSeL (mSe (mGt5 h) (h 4 5 1).toNat 2 (dp + 1)) dp fr (h 17 5) (stOf h) j).2.1)) 17 5 (fwFu ((h 17 5)) ((fr : Int) + (j : Int)).toNat ((h 17 5) ((fr : Int) + (j : Int)).toNat + (-1)))) 20 0 A_18) 27 0 ((mSeL (mSe (mGt5 h) (h 4 5 1).toNat 2 (dp + 1)) dp fr (h 17 5) (stOf h) j).1)) 28 0 ((mSeL (mSe (mGt5 h) (h 4 5 1).toNat 2 (dp + 1)) dp fr (h 17 5) (stOf h) j).2.2.2)) from by funext a b; simp only [fwUc]; (repeat' split); all_goals first | rfl | (exfalso; omega)]
            rw [show (fwUc (fwUc (fwUc (fwUc (fwUc h 8 0 (seF (h 8 0) (mSeL (mSe (mGt5 h) (h 4 5 1).toNat 2 (dp + 1)) dp fr (h 17 5) (stOf h) j).2.2.1 (mSeL (mSe (mGt5 h) (h 4 5 1).toNat 2 (dp + 1)) dp fr (h 17 5) (stOf h) j).2.1)) 17 5 (fwFu ((h 17 5)) ((fr : Int) + (j : Int)).toNat ((h 17 5) ((fr : Int) + (j : Int)).toNat + (-1)))) 20 0 A_18) 27 0 ((mSeL (mSe (mGt5 h) (h 4 5 1).toNat 2 (dp + 1)) dp fr (h 17 5) (stOf h) j).1)) 28 0 ((mSeL (mSe (mGt5 h) (h 4 5 1).toNat 2 (dp + 1)) dp fr (h 17 5) (stOf h) j).2.2.2)) = (fwUc (fwUc (fwUc (fwUc (fwUc h 8 0 (seF (h 8 0) (mSeL (mSe (mGt5 h) (h 4 5 1).toNat 2 (dp + 1)) dp fr (h 17 5) (stOf h) j).2.2.1 (mSeL (mSe (mGt5 h) (h 4 5 1).toNat 2 (dp + 1)) dp fr (h 17 5) (stOf h) j).2.1)) 17 5 ((fwFu (h 17 5) (fr + j) (h 17 5 (fr + j) + -1)))) 20 0 A_18) 27 0 (mSeL (mSe (mGt5 h) (h 4 5 1).toNat 2 (dp + 1)) dp fr (h 17 5) (stOf h) j).1) 28 0 (mSeL (mSe (mGt5 h) (h 4 5 1).toNat 2 (dp + 1)) dp fr (h 17 5) (stOf h) j).2.2.2) from by rw [show ((fr : Int) + (j : Int)).toNat = fr + j by omega]]
            refine w_aload_n dX7_search_52 rfl ?_
            refine w_getr 27 0 dX7_search_53 fl_X7_15 rfl (by decide) ?_
            refine w_iload_n dX7_search_56 rfl ?_
            refine w_iload dX7_search_57 rfl ?_
            refine w_iast dX7_search_59 rfl (by decide) (by omega) (by omega) ?_
            rw [show (fwUp (fwUc (fwUc (fwUc (fwUc (fwUc h 8 0 (seF (h 8 0) (mSeL (mSe (mGt5 h) (h 4 5 1).toNat 2 (dp + 1)) dp fr (h 17 5) (stOf h) j).2.2.1 (mSeL (mSe (mGt5 h) (h 4 5 1).toNat 2 (dp + 1)) dp fr (h 17 5) (stOf h) j).2.1)) 17 5 ((fwFu (h 17 5) (fr + j) (h 17 5 (fr + j) + -1)))) 20 0 A_18) 27 0 (mSeL (mSe (mGt5 h) (h 4 5 1).toNat 2 (dp + 1)) dp fr (h 17 5) (stOf h) j).1) 28 0 (mSeL (mSe (mGt5 h) (h 4 5 1).toNat 2 (dp + 1)) dp fr (h 17 5) (stOf h) j).2.2.2) 27 0 ((dp : Int)).toNat ((fr : Int) + (j : Int))) = (fwUc (fwUc (fwUc (fwUc (fwUc (fwUc h 8 0 (seF (h 8 0) (mSeL (mSe (mGt5 h) (h 4 5 1).toNat 2 (dp + 1)) dp fr (h 17 5) (stOf h) j).2.2.1 (mSeL (mSe (mGt5 h) (h 4 5 1).toNat 2 (dp + 1)) dp fr (h 17 5) (stOf h) j).2.1)) 17 5 ((fwFu (h 17 5) (fr + j) (h 17 5 (fr + j) + -1)))) 20 0 A_18) 27 0 (mSeL (mSe (mGt5 h) (h 4 5 1).toNat 2 (dp + 1)) dp fr (h 17 5) (stOf h) j).1) 28 0 (mSeL (mSe (mGt5 h) (h 4 5 1).toNat 2 (dp + 1)) dp fr (h 17 5) (stOf h) j).2.2.2) 27 0 (fwFu (((mSeL (mSe (mGt5 h) (h 4 5 1).toNat 2 (dp + 1)) dp fr (h 17 5) (stOf h) j).1)) ((dp : Int)).toNat ((fr : Int) + (j : Int)))) from fwUp_fu _ _ _ _ _]
            rw [show (fwUc (fwUc (fwUc (fwUc (fwUc (fwUc h 8 0 (seF (h 8 0) (mSeL (mSe (mGt5 h) (h 4 5 1).toNat 2 (dp + 1)) dp fr (h 17 5) (stOf h) j).2.2.1 (mSeL (mSe (mGt5 h) (h 4 5 1).toNat 2 (dp + 1)) dp fr (h 17 5) (stOf h) j).2.1)) 17 5 ((fwFu (h 17 5) (fr + j) (h 17 5 (fr + j) + -1)))) 20 0 A_18) 27 0 (mSeL (mSe (mGt5 h) (h 4 5 1).toNat 2 (dp + 1)) dp fr (h 17 5) (stOf h) j).1) 28 0 (mSeL (mSe (mGt5 h) (h 4 5 1).toNat 2 (dp + 1)) dp fr (h 17 5) (stOf h) j).2.2.2) 27 0 (fwFu (((mSeL (mSe (mGt5 h) (h 4 5 1).toNat 2 (dp + 1)) dp fr (h 17 5) (stOf h) j).1)) ((dp : Int)).toNat ((fr : Int) + (j : Int)))) = (fwUc (fwUc (fwUc (fwUc (fwUc h 8 0 (seF (h 8 0) (mSeL (mSe (mGt5 h) (h 4 5 1).toNat 2 (dp + 1)) dp fr (h 17 5) (stOf h) j).2.2.1 (mSeL (mSe (mGt5 h) (h 4 5 1).toNat 2 (dp + 1)) dp fr (h 17 5) (stOf h) j).2.1)) 17 5 ((fwFu (h 17 5) (fr + j) (h 17 5 (fr + j) + -1)))) 20 0 A_18) 27 0 (fwFu (((mSeL (mSe (mGt5 h) (h 4 5 1).toNat 2 (dp + 1)) dp fr (h 17 5) (stOf h) j).1)) ((dp : Int)).toNat ((fr : Int) + (j : Int)))) 28 0 ((mSeL (mSe (mGt5 h) (h 4 5 1).toNat 2 (dp + 1)) dp fr (h 17 5) (stOf h) j).2.2.2)) from by funext a b; simp only [fwUc]; (repeat' split); all_goals first | rfl | (exfalso; omega)]
            rw [show (fwUc (fwUc (fwUc (fwUc (fwUc h 8 0 (seF (h 8 0) (mSeL (mSe (mGt5 h) (h 4 5 1).toNat 2 (dp + 1)) dp fr (h 17 5) (stOf h) j).2.2.1 (mSeL (mSe (mGt5 h) (h 4 5 1).toNat 2 (dp + 1)) dp fr (h 17 5) (stOf h) j).2.1)) 17 5 ((fwFu (h 17 5) (fr + j) (h 17 5 (fr + j) + -1)))) 20 0 A_18) 27 0 (fwFu (((mSeL (mSe (mGt5 h) (h 4 5 1).toNat 2 (dp + 1)) dp fr (h 17 5) (stOf h) j).1)) ((dp : Int)).toNat ((fr : Int) + (j : Int)))) 28 0 ((mSeL (mSe (mGt5 h) (h 4 5 1).toNat 2 (dp + 1)) dp fr (h 17 5) (stOf h) j).2.2.2)) = (fwUc (fwUc (fwUc (fwUc (fwUc h 8 0 (seF (h 8 0) (mSeL (mSe (mGt5 h) (h 4 5 1).toNat 2 (dp + 1)) dp fr (h 17 5) (stOf h) j).2.2.1 (mSeL (mSe (mGt5 h) (h 4 5 1).toNat 2 (dp + 1)) dp fr (h 17 5) (stOf h) j).2.1)) 17 5 (fwFu (h 17 5) (fr + j) (h 17 5 (fr + j) + -1))) 20 0 A_18) 27 0 (fwFu (mSeL (mSe (mGt5 h) (h 4 5 1).toNat 2 (dp + 1)) dp fr (h 17 5) (stOf h) j).1 dp ((fr + j : Nat) : Int))) 28 0 (mSeL (mSe (mGt5 h) (h 4 5 1).toNat 2 (dp + 1)) dp fr (h 17 5) (stOf h) j).2.2.2) from rfl]
            have hG7 : gOk (fwUc (fwUc (fwUc (fwUc (fwUc h 8 0 (seF (h 8 0) (mSeL (mSe (mGt5 h) (h 4 5 1).toNat 2 (dp + 1)) dp fr (h 17 5) (stOf h) j).2.2.1 (mSeL (mSe (mGt5 h) (h 4 5 1).toNat 2 (dp + 1)) dp fr (h 17 5) (stOf h) j).2.1)) 17 5 (fwFu (h 17 5) (fr + j) (h 17 5 (fr + j) + -1))) 20 0 A_18) 27 0 (fwFu (mSeL (mSe (mGt5 h) (h 4 5 1).toNat 2 (dp + 1)) dp fr (h 17 5) (stOf h) j).1 dp ((fr + j : Nat) : Int))) 28 0 (mSeL (mSe (mGt5 h) (h 4 5 1).toNat 2 (dp + 1)) dp fr (h 17 5) (stOf h) j).2.2.2) 5 := ⟨hG.1, hG.2.1, hG.2.2.1, hG.2.2.2.1, fwFu_rng g8 (by omega)⟩
            have hS7 : stOk (stOf (fwUc (fwUc (fwUc (fwUc (fwUc h 8 0 (seF (h 8 0) (mSeL (mSe (mGt5 h) (h 4 5 1).toNat 2 (dp + 1)) dp fr (h 17 5) (stOf h) j).2.2.1 (mSeL (mSe (mGt5 h) (h 4 5 1).toNat 2 (dp + 1)) dp fr (h 17 5) (stOf h) j).2.1)) 17 5 (fwFu (h 17 5) (fr + j) (h 17 5 (fr + j) + -1))) 20 0 A_18) 27 0 (fwFu (mSeL (mSe (mGt5 h) (h 4 5 1).toNat 2 (dp + 1)) dp fr (h 17 5) (stOf h) j).1 dp ((fr + j : Nat) : Int))) 28 0 (mSeL (mSe (mGt5 h) (h 4 5 1).toNat 2 (dp + 1)) dp fr (h 17 5) (stOf h) j).2.2.2)) := hSj
            refine w_aload_n dX7_search_60 rfl ?_
            refine w_iload_n dX7_search_61 rfl ?_
            refine w_iload_n dX7_search_62 rfl ?_
            refine w_iconst dX7_search_63 ?_
            refine w_iadd dX7_search_64 ?_
            refine w_iload dX7_search_65 rfl ?_
            refine w_callV (d := d + 7) (S := []) [aI ((dp : Int) + 3), aI ((dp : Int) + 1), aI ((fr : Int) + (j : Int))] dX7_search_67 ml_X7_94 ok_X7_search vi_X7_search rfl rfl (by decide) rfl (Nat.le_of_ble_eq_true rfl) ?_
            refine c_search2E (d := d) (dp + 1) (fr + j) ((dp : Int) + 3) ((dp : Int) + 1) ((fr : Int) + (j : Int)) (by omega) (by omega) (by omega) (by first | assumption | omega | decide) (by first | assumption | omega | decide) (by first | assumption | omega | decide) (by omega) (show ((fr + j : Nat) : Int) ≤ h 4 5 1 by omega) ?_
            intro A1
            show fwWP mX7_search (d + 8) 70 [some (aR 8 0), some (aI ((dp : Int) + 3)), some (aI (dp : Int)), some (aI (fr : Int)), some (aI ((fr : Int) + (j : Int)))] [] (fwUc (fwUc (fwUc (fwUc (fwUc (fwUc (fwUc (fwUc (fwUc (fwUc h 8 0 (seF (h 8 0) (mSeL (mSe (mGt5 h) (h 4 5 1).toNat 2 (dp + 1)) dp fr (h 17 5) (stOf h) j).2.2.1 (mSeL (mSe (mGt5 h) (h 4 5 1).toNat 2 (dp + 1)) dp fr (h 17 5) (stOf h) j).2.1)) 17 5 (fwFu (h 17 5) (fr + j) (h 17 5 (fr + j) + -1))) 20 0 A_18) 27 0 (fwFu (mSeL (mSe (mGt5 h) (h 4 5 1).toNat 2 (dp + 1)) dp fr (h 17 5) (stOf h) j).1 dp ((fr + j : Nat) : Int))) 28 0 (mSeL (mSe (mGt5 h) (h 4 5 1).toNat 2 (dp + 1)) dp fr (h 17 5) (stOf h) j).2.2.2) 8 0 (seF ((seF (h 8 0) (mSeL (mSe (mGt5 h) (h 4 5 1).toNat 2 (dp + 1)) dp fr (h 17 5) (stOf h) j).2.2.1 (mSeL (mSe (mGt5 h) (h 4 5 1).toNat 2 (dp + 1)) dp fr (h 17 5) (stOf h) j).2.1)) (mSe (mGt5 h) (h 4 5 1).toNat 2 (dp + 1) (fr + j) (fwFu (h 17 5) (fr + j) (h 17 5 (fr + j) + -1)) (fwFu (mSeL (mSe (mGt5 h) (h 4 5 1).toNat 2 (dp + 1)) dp fr (h 17 5) (stOf h) j).1 dp ((fr + j : Nat) : Int), (mSeL (mSe (mGt5 h) (h 4 5 1).toNat 2 (dp + 1)) dp fr (h 17 5) (stOf h) j).2)).2.2.1 (mSe (mGt5 h) (h 4 5 1).toNat 2 (dp + 1) (fr + j) (fwFu (h 17 5) (fr + j) (h 17 5 (fr + j) + -1)) (fwFu (mSeL (mSe (mGt5 h) (h 4 5 1).toNat 2 (dp + 1)) dp fr (h 17 5) (stOf h) j).1 dp ((fr + j : Nat) : Int), (mSeL (mSe (mGt5 h) (h 4 5 1).toNat 2 (dp + 1)) dp fr (h 17 5) (stOf h) j).2)).2.1)) 17 5 (fwFu (h 17 5) (fr + j) (h 17 5 (fr + j) + -1))) 20 0 A1) 27 0 (mSe (mGt5 h) (h 4 5 1).toNat 2 (dp + 1) (fr + j) (fwFu (h 17 5) (fr + j) (h 17 5 (fr + j) + -1)) (fwFu (mSeL (mSe (mGt5 h) (h 4 5 1).toNat 2 (dp + 1)) dp fr (h 17 5) (stOf h) j).1 dp ((fr + j : Nat) : Int), (mSeL (mSe (mGt5 h) (h 4 5 1).toNat 2 (dp + 1)) dp fr (h 17 5) (stOf h) j).2)).1) 28 0 (mSe (mGt5 h) (h 4 5 1).toNat 2 (dp + 1) (fr + j) (fwFu (h 17 5) (fr + j) (h 17 5 (fr + j) + -1)) (fwFu (mSeL (mSe (mGt5 h) (h 4 5 1).toNat 2 (dp + 1)) dp fr (h 17 5) (stOf h) j).1 dp ((fr + j : Nat) : Int), (mSeL (mSe (mGt5 h) (h 4 5 1).toNat 2 (dp + 1)) dp fr (h 17 5) (stOf h) j).2)).2.2.2) Q
            rw [show fwUc (fwUc (fwUc (fwUc (fwUc (fwUc (fwUc (fwUc (fwUc (fwUc h 8 0 (seF (h 8 0) (mSeL (mSe (mGt5 h) (h 4 5 1).toNat 2 (dp + 1)) dp fr (h 17 5) (stOf h) j).2.2.1 (mSeL (mSe (mGt5 h) (h 4 5 1).toNat 2 (dp + 1)) dp fr (h 17 5) (stOf h) j).2.1)) 17 5 (fwFu (h 17 5) (fr + j) (h 17 5 (fr + j) + -1))) 20 0 A_18) 27 0 (fwFu (mSeL (mSe (mGt5 h) (h 4 5 1).toNat 2 (dp + 1)) dp fr (h 17 5) (stOf h) j).1 dp ((fr + j : Nat) : Int))) 28 0 (mSeL (mSe (mGt5 h) (h 4 5 1).toNat 2 (dp + 1)) dp fr (h 17 5) (stOf h) j).2.2.2) 8 0 (seF ((seF (h 8 0) (mSeL (mSe (mGt5 h) (h 4 5 1).toNat 2 (dp + 1)) dp fr (h 17 5) (stOf h) j).2.2.1 (mSeL (mSe (mGt5 h) (h 4 5 1).toNat 2 (dp + 1)) dp fr (h 17 5) (stOf h) j).2.1)) (mSe (mGt5 h) (h 4 5 1).toNat 2 (dp + 1) (fr + j) (fwFu (h 17 5) (fr + j) (h 17 5 (fr + j) + -1)) (fwFu (mSeL (mSe (mGt5 h) (h 4 5 1).toNat 2 (dp + 1)) dp fr (h 17 5) (stOf h) j).1 dp ((fr + j : Nat) : Int), (mSeL (mSe (mGt5 h) (h 4 5 1).toNat 2 (dp + 1)) dp fr (h 17 5) (stOf h) j).2)).2.2.1 (mSe (mGt5 h) (h 4 5 1).toNat 2 (dp + 1) (fr + j) (fwFu (h 17 5) (fr + j) (h 17 5 (fr + j) + -1)) (fwFu (mSeL (mSe (mGt5 h) (h 4 5 1).toNat 2 (dp + 1)) dp fr (h 17 5) (stOf h) j).1 dp ((fr + j : Nat) : Int), (mSeL (mSe (mGt5 h) (h 4 5 1).toNat 2 (dp + 1)) dp fr (h 17 5) (stOf h) j).2)).2.1)) 17 5 (fwFu (h 17 5) (fr + j) (h 17 5 (fr + j) + -1))) 20 0 A1) 27 0 (mSe (mGt5 h) (h 4 5 1).toNat 2 (dp + 1) (fr + j) (fwFu (h 17 5) (fr + j) (h 17 5 (fr + j) + -1)) (fwFu (mSeL (mSe (mGt5 h) (h 4 5 1).toNat 2 (dp + 1)) dp fr (h 17 5) (stOf h) j).1 dp ((fr + j : Nat) : Int), (mSeL (mSe (mGt5 h) (h 4 5 1).toNat 2 (dp + 1)) dp fr (h 17 5) (stOf h) j).2)).1) 28 0 (mSe (mGt5 h) (h 4 5 1).toNat 2 (dp + 1) (fr + j) (fwFu (h 17 5) (fr + j) (h 17 5 (fr + j) + -1)) (fwFu (mSeL (mSe (mGt5 h) (h 4 5 1).toNat 2 (dp + 1)) dp fr (h 17 5) (stOf h) j).1 dp ((fr + j : Nat) : Int), (mSeL (mSe (mGt5 h) (h 4 5 1).toNat 2 (dp + 1)) dp fr (h 17 5) (stOf h) j).2)).2.2.2 = (fwUc (fwUc (fwUc (fwUc (fwUc h 8 0 (seF ((seF (h 8 0) (mSeL (mSe (mGt5 h) (h 4 5 1).toNat 2 (dp + 1)) dp fr (h 17 5) (stOf h) j).2.2.1 (mSeL (mSe (mGt5 h) (h 4 5 1).toNat 2 (dp + 1)) dp fr (h 17 5) (stOf h) j).2.1)) (mSe (mGt5 h) (h 4 5 1).toNat 2 (dp + 1) (fr + j) (fwFu (h 17 5) (fr + j) (h 17 5 (fr + j) + -1)) (fwFu (mSeL (mSe (mGt5 h) (h 4 5 1).toNat 2 (dp + 1)) dp fr (h 17 5) (stOf h) j).1 dp ((fr + j : Nat) : Int), (mSeL (mSe (mGt5 h) (h 4 5 1).toNat 2 (dp + 1)) dp fr (h 17 5) (stOf h) j).2)).2.2.1 (mSe (mGt5 h) (h 4 5 1).toNat 2 (dp + 1) (fr + j) (fwFu (h 17 5) (fr + j) (h 17 5 (fr + j) + -1)) (fwFu (mSeL (mSe (mGt5 h) (h 4 5 1).toNat 2 (dp + 1)) dp fr (h 17 5) (stOf h) j).1 dp ((fr + j : Nat) : Int), (mSeL (mSe (mGt5 h) (h 4 5 1).toNat 2 (dp + 1)) dp fr (h 17 5) (stOf h) j).2)).2.1)) 17 5 (fwFu (h 17 5) (fr + j) (h 17 5 (fr + j) + -1))) 20 0 A1) 27 0 ((mSe (mGt5 h) (h 4 5 1).toNat 2 (dp + 1) (fr + j) (fwFu (h 17 5) (fr + j) (h 17 5 (fr + j) + -1)) (fwFu (mSeL (mSe (mGt5 h) (h 4 5 1).toNat 2 (dp + 1)) dp fr (h 17 5) (stOf h) j).1 dp ((fr + j : Nat) : Int), (mSeL (mSe (mGt5 h) (h 4 5 1).toNat 2 (dp + 1)) dp fr (h 17 5) (stOf h) j).2)).1)) 28 0 ((mSe (mGt5 h) (h 4 5 1).toNat 2 (dp + 1) (fr + j) (fwFu (h 17 5) (fr + j) (h 17 5 (fr + j) + -1)) (fwFu (mSeL (mSe (mGt5 h) (h 4 5 1).toNat 2 (dp + 1)) dp fr (h 17 5) (stOf h) j).1 dp ((fr + j : Nat) : Int), (mSeL (mSe (mGt5 h) (h 4 5 1).toNat 2 (dp + 1)) dp fr (h 17 5) (stOf h) j).2)).2.2.2)) from by funext a b; simp only [fwUc]; (repeat' split); all_goals first | rfl | (exfalso; omega)]
            rw [seF_seF]
            have hG8 : gOk (fwUc (fwUc (fwUc (fwUc (fwUc h 8 0 (seF (h 8 0) (mSe (mGt5 h) (h 4 5 1).toNat 2 (dp + 1) (fr + j) (fwFu (h 17 5) (fr + j) (h 17 5 (fr + j) + -1)) (fwFu (mSeL (mSe (mGt5 h) (h 4 5 1).toNat 2 (dp + 1)) dp fr (h 17 5) (stOf h) j).1 dp ((fr + j : Nat) : Int), (mSeL (mSe (mGt5 h) (h 4 5 1).toNat 2 (dp + 1)) dp fr (h 17 5) (stOf h) j).2)).2.2.1 (mSe (mGt5 h) (h 4 5 1).toNat 2 (dp + 1) (fr + j) (fwFu (h 17 5) (fr + j) (h 17 5 (fr + j) + -1)) (fwFu (mSeL (mSe (mGt5 h) (h 4 5 1).toNat 2 (dp + 1)) dp fr (h 17 5) (stOf h) j).1 dp ((fr + j : Nat) : Int), (mSeL (mSe (mGt5 h) (h 4 5 1).toNat 2 (dp + 1)) dp fr (h 17 5) (stOf h) j).2)).2.1)) 17 5 ((fwFu (h 17 5) (fr + j) (h 17 5 (fr + j) + -1)))) 20 0 A1) 27 0 (mSe (mGt5 h) (h 4 5 1).toNat 2 (dp + 1) (fr + j) (fwFu (h 17 5) (fr + j) (h 17 5 (fr + j) + -1)) (fwFu (mSeL (mSe (mGt5 h) (h 4 5 1).toNat 2 (dp + 1)) dp fr (h 17 5) (stOf h) j).1 dp ((fr + j : Nat) : Int), (mSeL (mSe (mGt5 h) (h 4 5 1).toNat 2 (dp + 1)) dp fr (h 17 5) (stOf h) j).2)).1) 28 0 (mSe (mGt5 h) (h 4 5 1).toNat 2 (dp + 1) (fr + j) (fwFu (h 17 5) (fr + j) (h 17 5 (fr + j) + -1)) (fwFu (mSeL (mSe (mGt5 h) (h 4 5 1).toNat 2 (dp + 1)) dp fr (h 17 5) (stOf h) j).1 dp ((fr + j : Nat) : Int), (mSeL (mSe (mGt5 h) (h 4 5 1).toNat 2 (dp + 1)) dp fr (h 17 5) (stOf h) j).2)).2.2.2) 5 := ⟨hG.1, hG.2.1, hG.2.2.1, hG.2.2.2.1, fwFu_rng g8 (by omega)⟩
            refine w_aload_n dX7_search_70 rfl ?_
            refine w_getr 4 5 dX7_search_71 fl_X7_25 rfl (by decide) ?_
            refine w_iload dX7_search_74 rfl ?_
            refine w_iconst dX7_search_76 ?_
            refine w_callV (d := d + 7) (S := []) [aI ((fr : Int) + (j : Int)), aI 1] dX7_search_77 ml_X7_48 ok_X1_change vi_X1_change rfl rfl (by decide) rfl (Nat.le_of_ble_eq_true rfl) ?_
            refine c_X1_changeE (d := (d + 6)) 5 ((fr : Int) + (j : Int)) 1 (by decide) (by first | assumption | omega | decide) (by first | assumption | omega | decide) (show (fr : Int) + (j : Int) < h 4 5 1 by first | assumption | omega | decide) ?_
            show fwWP mX7_search (d + 8) 80 [some (aR 8 0), some (aI ((dp : Int) + 3)), some (aI (dp : Int)), some (aI (fr : Int)), some (aI ((fr : Int) + (j : Int)))] [] (fwUc (fwUc (fwUc (fwUc (fwUc (fwUc h 8 0 (seF (h 8 0) (mSe (mGt5 h) (h 4 5 1).toNat 2 (dp + 1) (fr + j) (fwFu (h 17 5) (fr + j) (h 17 5 (fr + j) + -1)) (fwFu (mSeL (mSe (mGt5 h) (h 4 5 1).toNat 2 (dp + 1)) dp fr (h 17 5) (stOf h) j).1 dp ((fr + j : Nat) : Int), (mSeL (mSe (mGt5 h) (h 4 5 1).toNat 2 (dp + 1)) dp fr (h 17 5) (stOf h) j).2)).2.2.1 (mSe (mGt5 h) (h 4 5 1).toNat 2 (dp + 1) (fr + j) (fwFu (h 17 5) (fr + j) (h 17 5 (fr + j) + -1)) (fwFu (mSeL (mSe (mGt5 h) (h 4 5 1).toNat 2 (dp + 1)) dp fr (h 17 5) (stOf h) j).1 dp ((fr + j : Nat) : Int), (mSeL (mSe (mGt5 h) (h 4 5 1).toNat 2 (dp + 1)) dp fr (h 17 5) (stOf h) j).2)).2.1)) 17 5 ((fwFu (h 17 5) (fr + j) (h 17 5 (fr + j) + -1)))) 20 0 A1) 27 0 (mSe (mGt5 h) (h 4 5 1).toNat 2 (dp + 1) (fr + j) (fwFu (h 17 5) (fr + j) (h 17 5 (fr + j) + -1)) (fwFu (mSeL (mSe (mGt5 h) (h 4 5 1).toNat 2 (dp + 1)) dp fr (h 17 5) (stOf h) j).1 dp ((fr + j : Nat) : Int), (mSeL (mSe (mGt5 h) (h 4 5 1).toNat 2 (dp + 1)) dp fr (h 17 5) (stOf h) j).2)).1) 28 0 (mSe (mGt5 h) (h 4 5 1).toNat 2 (dp + 1) (fr + j) (fwFu (h 17 5) (fr + j) (h 17 5 (fr + j) + -1)) (fwFu (mSeL (mSe (mGt5 h) (h 4 5 1).toNat 2 (dp + 1)) dp fr (h 17 5) (stOf h) j).1 dp ((fr + j : Nat) : Int), (mSeL (mSe (mGt5 h) (h 4 5 1).toNat 2 (dp + 1)) dp fr (h 17 5) (stOf h) j).2)).2.2.2) 17 5 (fwFu (((fwFu (h 17 5) (fr + j) (h 17 5 (fr + j) + -1)))) ((fr : Int) + (j : Int)).toNat (((fwFu (h 17 5) (fr + j) (h 17 5 (fr + j) + -1))) ((fr : Int) + (j : Int)).toNat + 1))) Q
            rw [show fwUc (fwUc (fwUc (fwUc (fwUc (fwUc h 8 0 (seF (h 8 0) (mSe (mGt5 h) (h 4 5 1).toNat 2 (dp + 1) (fr + j) (fwFu (h 17 5) (fr + j) (h 17 5 (fr + j) + -1)) (fwFu (mSeL (mSe (mGt5 h) (h 4 5 1).toNat 2 (dp + 1)) dp fr (h 17 5) (stOf h) j).1 dp ((fr + j : Nat) : Int), (mSeL (mSe (mGt5 h) (h 4 5 1).toNat 2 (dp + 1)) dp fr (h 17 5) (stOf h) j).2)).2.2.1 (mSe (mGt5 h) (h 4 5 1).toNat 2 (dp + 1) (fr + j) (fwFu (h 17 5) (fr + j) (h 17 5 (fr + j) + -1)) (fwFu (mSeL (mSe (mGt5 h) (h 4 5 1).toNat 2 (dp + 1)) dp fr (h 17 5) (stOf h) j).1 dp ((fr + j : Nat) : Int), (mSeL (mSe (mGt5 h) (h 4 5 1).toNat 2 (dp + 1)) dp fr (h 17 5) (stOf h) j).2)).2.1)) 17 5 ((fwFu (h 17 5) (fr + j) (h 17 5 (fr + j) + -1)))) 20 0 A1) 27 0 (mSe (mGt5 h) (h 4 5 1).toNat 2 (dp + 1) (fr + j) (fwFu (h 17 5) (fr + j) (h 17 5 (fr + j) + -1)) (fwFu (mSeL (mSe (mGt5 h) (h 4 5 1).toNat 2 (dp + 1)) dp fr (h 17 5) (stOf h) j).1 dp ((fr + j : Nat) : Int), (mSeL (mSe (mGt5 h) (h 4 5 1).toNat 2 (dp + 1)) dp fr (h 17 5) (stOf h) j).2)).1) 28 0 (mSe (mGt5 h) (h 4 5 1).toNat 2 (dp + 1) (fr + j) (fwFu (h 17 5) (fr + j) (h 17 5 (fr + j) + -1)) (fwFu (mSeL (mSe (mGt5 h) (h 4 5 1).toNat 2 (dp + 1)) dp fr (h 17 5) (stOf h) j).1 dp ((fr + j : Nat) : Int), (mSeL (mSe (mGt5 h) (h 4 5 1).toNat 2 (dp + 1)) dp fr (h 17 5) (stOf h) j).2)).2.2.2) 17 5 (fwFu (((fwFu (h 17 5) (fr + j) (h 17 5 (fr + j) + -1)))) ((fr : Int) + (j : Int)).toNat (((fwFu (h 17 5) (fr + j) (h 17 5 (fr + j) + -1))) ((fr : Int) + (j : Int)).toNat + 1)) = (fwUc (fwUc (fwUc (fwUc (fwUc h 8 0 (seF (h 8 0) (mSe (mGt5 h) (h 4 5 1).toNat 2 (dp + 1) (fr + j) (fwFu (h 17 5) (fr + j) (h 17 5 (fr + j) + -1)) (fwFu (mSeL (mSe (mGt5 h) (h 4 5 1).toNat 2 (dp + 1)) dp fr (h 17 5) (stOf h) j).1 dp ((fr + j : Nat) : Int), (mSeL (mSe (mGt5 h) (h 4 5 1).toNat 2 (dp + 1)) dp fr (h 17 5) (stOf h) j).2)).2.2.1 (mSe (mGt5 h) (h 4 5 1).toNat 2 (dp + 1) (fr + j) (fwFu (h 17 5) (fr + j) (h 17 5 (fr + j) + -1)) (fwFu (mSeL (mSe (mGt5 h) (h 4 5 1).toNat 2 (dp + 1)) dp fr (h 17 5) (stOf h) j).1 dp ((fr + j : Nat) : Int), (mSeL (mSe (mGt5 h) (h 4 5 1).toNat 2 (dp + 1)) dp fr (h 17 5) (stOf h) j).2)).2.1)) 17 5 (fwFu (((fwFu (h 17 5) (fr + j) (h 17 5 (fr + j) + -1)))) ((fr : Int) + (j : Int)).toNat (((fwFu (h 17 5) (fr + j) (h 17 5 (fr + j) + -1))) ((fr : Int) + (j : Int)).toNat + 1))) 20 0 A1) 27 0 ((mSe (mGt5 h) (h 4 5 1).toNat 2 (dp + 1) (fr + j) (fwFu (h 17 5) (fr + j) (h 17 5 (fr + j) + -1)) (fwFu (mSeL (mSe (mGt5 h) (h 4 5 1).toNat 2 (dp + 1)) dp fr (h 17 5) (stOf h) j).1 dp ((fr + j : Nat) : Int), (mSeL (mSe (mGt5 h) (h 4 5 1).toNat 2 (dp + 1)) dp fr (h 17 5) (stOf h) j).2)).1)) 28 0 ((mSe (mGt5 h) (h 4 5 1).toNat 2 (dp + 1) (fr + j) (fwFu (h 17 5) (fr + j) (h 17 5 (fr + j) + -1)) (fwFu (mSeL (mSe (mGt5 h) (h 4 5 1).toNat 2 (dp + 1)) dp fr (h 17 5) (stOf h) j).1 dp ((fr + j : Nat) : Int), (mSeL (mSe (mGt5 h) (h 4 5 1).toNat 2 (dp + 1)) dp fr (h 17 5) (stOf h) j).2)).2.2.2)) from by funext a b; simp only [fwUc]; (repeat' split); all_goals first | rfl | (exfalso; omega)]
            rw [show (fwUc (fwUc (fwUc (fwUc (fwUc h 8 0 (seF (h 8 0) (mSe (mGt5 h) (h 4 5 1).toNat 2 (dp + 1) (fr + j) (fwFu (h 17 5) (fr + j) (h 17 5 (fr + j) + -1)) (fwFu (mSeL (mSe (mGt5 h) (h 4 5 1).toNat 2 (dp + 1)) dp fr (h 17 5) (stOf h) j).1 dp ((fr + j : Nat) : Int), (mSeL (mSe (mGt5 h) (h 4 5 1).toNat 2 (dp + 1)) dp fr (h 17 5) (stOf h) j).2)).2.2.1 (mSe (mGt5 h) (h 4 5 1).toNat 2 (dp + 1) (fr + j) (fwFu (h 17 5) (fr + j) (h 17 5 (fr + j) + -1)) (fwFu (mSeL (mSe (mGt5 h) (h 4 5 1).toNat 2 (dp + 1)) dp fr (h 17 5) (stOf h) j).1 dp ((fr + j : Nat) : Int), (mSeL (mSe (mGt5 h) (h 4 5 1).toNat 2 (dp + 1)) dp fr (h 17 5) (stOf h) j).2)).2.1)) 17 5 (fwFu (((fwFu (h 17 5) (fr + j) (h 17 5 (fr + j) + -1)))) ((fr : Int) + (j : Int)).toNat (((fwFu (h 17 5) (fr + j) (h 17 5 (fr + j) + -1))) ((fr : Int) + (j : Int)).toNat + 1))) 20 0 A1) 27 0 ((mSe (mGt5 h) (h 4 5 1).toNat 2 (dp + 1) (fr + j) (fwFu (h 17 5) (fr + j) (h 17 5 (fr + j) + -1)) (fwFu (mSeL (mSe (mGt5 h) (h 4 5 1).toNat 2 (dp + 1)) dp fr (h 17 5) (stOf h) j).1 dp ((fr + j : Nat) : Int), (mSeL (mSe (mGt5 h) (h 4 5 1).toNat 2 (dp + 1)) dp fr (h 17 5) (stOf h) j).2)).1)) 28 0 ((mSe (mGt5 h) (h 4 5 1).toNat 2 (dp + 1) (fr + j) (fwFu (h 17 5) (fr + j) (h 17 5 (fr + j) + -1)) (fwFu (mSeL (mSe (mGt5 h) (h 4 5 1).toNat 2 (dp + 1)) dp fr (h 17 5) (stOf h) j).1 dp ((fr + j : Nat) : Int), (mSeL (mSe (mGt5 h) (h 4 5 1).toNat 2 (dp + 1)) dp fr (h 17 5) (stOf h) j).2)).2.2.2)) = (fwUc (fwUc (fwUc (fwUc (fwUc h 8 0 (seF (h 8 0) (mSe (mGt5 h) (h 4 5 1).toNat 2 (dp + 1) (fr + j) (fwFu (h 17 5) (fr + j) (h 17 5 (fr + j) + -1)) (fwFu (mSeL (mSe (mGt5 h) (h 4 5 1).toNat 2 (dp + 1)) dp fr (h 17 5) (stOf h) j).1 dp ((fr + j : Nat) : Int), (mSeL (mSe (mGt5 h) (h 4 5 1).toNat 2 (dp + 1)) dp fr (h 17 5) (stOf h) j).2)).2.2.1 (mSe (mGt5 h) (h 4 5 1).toNat 2 (dp + 1) (fr + j) (fwFu (h 17 5) (fr + j) (h 17 5 (fr + j) + -1)) (fwFu (mSeL (mSe (mGt5 h) (h 4 5 1).toNat 2 (dp + 1)) dp fr (h 17 5) (stOf h) j).1 dp ((fr + j : Nat) : Int), (mSeL (mSe (mGt5 h) (h 4 5 1).toNat 2 (dp + 1)) dp fr (h 17 5) (stOf h) j).2)).2.1)) 17 5 (h 17 5)) 20 0 A1) 27 0 (mSe (mGt5 h) (h 4 5 1).toNat 2 (dp + 1) (fr + j) (fwFu (h 17 5) (fr + j) (h 17 5 (fr + j) + -1)) (fwFu (mSeL (mSe (mGt5 h) (h 4 5 1).toNat 2 (dp + 1)) dp fr (h 17 5) (stOf h) j).1 dp ((fr + j : Nat) : Int), (mSeL (mSe (mGt5 h) (h 4 5 1).toNat 2 (dp + 1)) dp fr (h 17 5) (stOf h) j).2)).1) 28 0 (mSe (mGt5 h) (h 4 5 1).toNat 2 (dp + 1) (fr + j) (fwFu (h 17 5) (fr + j) (h 17 5 (fr + j) + -1)) (fwFu (mSeL (mSe (mGt5 h) (h 4 5 1).toNat 2 (dp + 1)) dp fr (h 17 5) (stOf h) j).1 dp ((fr + j : Nat) : Int), (mSeL (mSe (mGt5 h) (h 4 5 1).toNat 2 (dp + 1)) dp fr (h 17 5) (stOf h) j).2)).2.2.2) from by rw [show ((fr : Int) + (j : Int)).toNat = fr + j by omega, fwFu_dn]]
            refine w_iinc [some (aR 8 0), some (aI ((dp : Int) + 3)), some (aI (dp : Int)), some (aI (fr : Int)), some (aI (((fr : Int) + (j : Int)) + 1))] dX7_search_80 rfl rfl (by decide) ?_
            refine w_goto 18 dX7_search_83 (by decide) ?_
            refine ih18 (by omega) _ _ ?_ ?_
            · exact (by omega)
            · exact ⟨_, by rw [mSeL, if_pos (by omega)]⟩
      refine lp18 0 (Nat.zero_le _) _ _ ?_ ?_
      · exact (by omega)
      · exact ⟨h 20 0, (seH_self' h).symm⟩
    · (exfalso; omega)
theorem c_search3E {d : Nat} {h : fwH} {Q : Option fwV → fwH → Prop} (dp fr : Nat) (n x y : Int) (en : n = (dp : Int) + 3) (ex : x = (dp : Int)) (ey : y = (fr : Int)) (hP : pOk h 0) (hG : gOk h 5) (hS : stOk (stOf h)) (hd : dp + 3 ≤ 3) (hfr : (fr : Int) ≤ h 4 5 1) (k : ∀ A, Q none (seH h (h 17 5) (mSe (mGt5 h) (h 4 5 1).toNat 3 dp fr (h 17 5) (stOf h)) A)) : fwCt mX7_search (d + 8) [aR 8 0, aI n, aI x, aI y] h Q := by
  subst en ex ey
  exact c_search3 dp fr hP hG hS hd hfr k
theorem c_searchAny {d : Nat} {h : fwH} {Q : Option fwV → fwH → Prop} (n : Nat) (hP : pOk h 0) (hG : gOk h 5) (hS : stOk (stOf h)) (hd : n ≤ 3) (hfr : 0 ≤ h 4 5 1) (k : ∀ A, Q none (seH h (h 17 5) (mSe (mGt5 h) (h 4 5 1).toNat n 0 0 (h 17 5) (stOf h)) A)) : fwCt mX7_search (d + 8) [aR 8 0, aI (n : Int), aI 0, aI 0] h Q := by
  rcases (show n = 0 ∨ n = 1 ∨ n = 2 ∨ n = 3 by omega) with rfl | rfl | rfl | rfl
  · exact c_search0E (d := d + 3) 0 0 _ _ _ (by omega) (by omega) (by omega) hP hG hS (by omega) (by omega) k
  · exact c_search1E (d := d + 2) 0 0 _ _ _ (by omega) (by omega) (by omega) hP hG hS (by omega) (by omega) k
  · exact c_search2E (d := d + 1) 0 0 _ _ _ (by omega) (by omega) (by omega) hP hG hS (by omega) (by omega) k
  · exact c_search3E (d := d) 0 0 _ _ _ (by omega) (by omega) (by omega) hP hG hS (by omega) (by omega) k
/-- the state of the search when it has ended -/
def mShp (h : fwH) (n : Nat) : fwSt := mSe (mGt h) (h 4 0 1).toNat n 0 0 (h 17 0) (h 27 0, 0, h 8 0 5, h 28 0)
/-- the heap then -/
def shpH (h : fwH) (n : Nat) (A : Nat → Int) : fwH := fwUc (fwUc (fwUc (fwUc (fwUc (fwUc h 4 5 (h 4 0)) 8 0 (seF (h 8 0) (mShp h n).2.2.1 (mShp h n).2.1)) 17 5 (h 17 0)) 20 0 A) 27 0 (mShp h n).1) 28 0 (mShp h n).2.2.2
theorem mShp_ok {h : fwH} (hP : pOk h 0) (hG : gOk h 0) (hb : 0 ≤ h 8 0 5 ∧ h 8 0 5 ≤ 300000) (n : Nat) : stOk (mShp h n) := mSe_ok (by have := hG.1; omega) (mGt_rng hP hG.1.2) _ _ _ _ _ hG.2.2.2.2 ⟨Or.inl rfl, hb⟩
theorem shpE (h : fwH) (n : Nat) (A : Nat → Int) : seH (fwUc (fwUc (fwUc h 4 5 (h 4 0)) 8 0 (fwFu (h 8 0) 6 0)) 17 5 (h 17 0)) ((fwUc (fwUc (fwUc h 4 5 (h 4 0)) 8 0 (fwFu (h 8 0) 6 0)) 17 5 (h 17 0)) 17 5) (mSe (mGt5 (fwUc (fwUc (fwUc h 4 5 (h 4 0)) 8 0 (fwFu (h 8 0) 6 0)) 17 5 (h 17 0))) ((fwUc (fwUc (fwUc h 4 5 (h 4 0)) 8 0 (fwFu (h 8 0) 6 0)) 17 5 (h 17 0)) 4 5 1).toNat n 0 0 ((fwUc (fwUc (fwUc h 4 5 (h 4 0)) 8 0 (fwFu (h 8 0) 6 0)) 17 5 (h 17 0)) 17 5) (stOf (fwUc (fwUc (fwUc h 4 5 (h 4 0)) 8 0 (fwFu (h 8 0) 6 0)) 17 5 (h 17 0)))) A = shpH h n A := by
  show fwUc (fwUc (fwUc (fwUc (fwUc (fwUc (fwUc (fwUc h 4 5 (h 4 0)) 8 0 (fwFu (h 8 0) 6 0)) 17 5 (h 17 0)) 8 0 (seF (fwFu (h 8 0) 6 0) (mShp h n).2.2.1 (mShp h n).2.1)) 17 5 (h 17 0)) 20 0 A) 27 0 (mShp h n).1) 28 0 (mShp h n).2.2.2 = _
  unfold shpH
  rw [show seF (fwFu (h 8 0) 6 0) (mShp h n).2.2.1 (mShp h n).2.1 = seF (h 8 0) (mShp h n).2.2.1 (mShp h n).2.1 from by
    funext s
    unfold seF fwFu
    by_cases e6 : s = 6
    · simp [e6]
    · simp [e6]]
  funext a b
  simp only [fwUc]
  (repeat' split)
  all_goals first | rfl | (exfalso; omega)
set_option maxRecDepth 100000 in
set_option maxHeartbeats 4000000 in
theorem c_X7_shapeBy {d : Nat} {h : fwH} {Q : Option fwV → fwH → Prop} (n : Nat) (hP : pOk h 0) (hG : gOk h 0) (hn : 1 ≤ h 4 0 1) (hM : ∀ c : Nat, c < 10 → h 17 0 c ≤ 999) (hnn : n ≤ 3) (hbg : 0 ≤ h 8 0 5 ∧ h 8 0 5 ≤ 300000) (k : ∀ A, Q (some (aI ((mShp h n).2.2.1))) (shpH h n A)) : fwCt mX7_shapeBy (d + 9) [aR 8 0, aI (n : Int)] h Q := by
  refine fwCt_of [some (aR 8 0), some (aI (n : Int))] rfl rfl rfl ?_
  obtain ⟨⟨g1, g2⟩, ⟨g3, g4⟩, ⟨g5, g6⟩, g7, g8⟩ := id hG
  have hpz := hP.1
  refine w_aload_n dX7_shapeBy_0 rfl ?_
  refine w_getr 4 5 dX7_shapeBy_1 fl_X7_25 rfl (by decide) ?_
  refine w_aload_n dX7_shapeBy_4 rfl ?_
  refine w_getr 3 0 dX7_shapeBy_5 fl_X7_21 rfl (by decide) ?_
  refine w_getr 4 0 dX7_shapeBy_8 fl_X7_29 rfl (by decide) ?_
  refine w_callV (d := d + 8) (S := []) [aR 4 0] dX7_shapeBy_11 ml_X7_34 ok_X1_copyFrom vi_X1_copyFrom rfl rfl (by decide) rfl (Nat.le_of_ble_eq_true rfl) ?_
  refine c_X1_copyFrom (d := (d + 8)) 5 0 (by decide) (by decide) (by first | assumption | omega | decide) (by first | assumption | omega | decide) ?_
  show fwWP mX7_shapeBy (d + 9) 14 [some (aR 8 0), some (aI (n : Int))] [] (fwUc (fwUc h 17 5 (h 17 0)) 4 5 (h 4 0)) Q
  rw [show fwUc (fwUc h 17 5 (h 17 0)) 4 5 (h 4 0) = (fwUc (fwUc h 4 5 (h 4 0)) 17 5 (h 17 0)) from by funext a b; simp only [fwUc]; (repeat' split); all_goals first | rfl | (exfalso; omega)]
  refine w_aload_n dX7_shapeBy_14 rfl ?_
  refine w_iconst dX7_shapeBy_15 ?_
  refine w_putz dX7_shapeBy_16 fl_X7_90 fp_8_6 rfl (by first | omega | exact fwB_01 _) (by decide) ?_
  rw [show (fwUp (fwUc (fwUc h 4 5 (h 4 0)) 17 5 (h 17 0)) 8 0 6 0) = (fwUc (fwUc (fwUc h 4 5 (h 4 0)) 17 5 (h 17 0)) 8 0 (fwFu (h 8 0) 6 0)) from fwUp_fu _ _ _ _ _]
  rw [show (fwUc (fwUc (fwUc h 4 5 (h 4 0)) 17 5 (h 17 0)) 8 0 (fwFu (h 8 0) 6 0)) = (fwUc (fwUc (fwUc h 4 5 (h 4 0)) 8 0 (fwFu (h 8 0) 6 0)) 17 5 (h 17 0)) from by funext a b; simp only [fwUc]; (repeat' split); all_goals first | rfl | (exfalso; omega)]
  have hG5 : gOk (fwUc (fwUc (fwUc h 4 5 (h 4 0)) 8 0 (fwFu (h 8 0) 6 0)) 17 5 (h 17 0)) 5 := ⟨hG.1, hG.2.1, hG.2.2.1, hG.2.2.2.1, hG.2.2.2.2⟩
  have hS5 : stOk (stOf (fwUc (fwUc (fwUc h 4 5 (h 4 0)) 8 0 (fwFu (h 8 0) 6 0)) 17 5 (h 17 0))) := ⟨Or.inl rfl, hbg⟩
  refine w_aload_n dX7_shapeBy_19 rfl ?_
  refine w_iload_n dX7_shapeBy_20 rfl ?_
  refine w_iconst dX7_shapeBy_21 ?_
  refine w_iconst dX7_shapeBy_22 ?_
  refine w_callV (d := d + 8) (S := []) [aI (n : Int), aI 0, aI 0] dX7_shapeBy_23 ml_X7_94 ok_X7_search vi_X7_search rfl rfl (by decide) rfl (Nat.le_of_ble_eq_true rfl) ?_
  refine c_searchAny (d := d) n (by first | assumption | omega | decide) (by first | assumption | omega | decide) (by first | assumption | omega | decide) (by omega) g1 ?_
  intro A1
  show fwWP mX7_shapeBy (d + 9) 26 [some (aR 8 0), some (aI (n : Int))] [] (seH (fwUc (fwUc (fwUc h 4 5 (h 4 0)) 8 0 (fwFu (h 8 0) 6 0)) 17 5 (h 17 0)) ((fwUc (fwUc (fwUc h 4 5 (h 4 0)) 8 0 (fwFu (h 8 0) 6 0)) 17 5 (h 17 0)) 17 5) (mSe (mGt5 (fwUc (fwUc (fwUc h 4 5 (h 4 0)) 8 0 (fwFu (h 8 0) 6 0)) 17 5 (h 17 0))) ((fwUc (fwUc (fwUc h 4 5 (h 4 0)) 8 0 (fwFu (h 8 0) 6 0)) 17 5 (h 17 0)) 4 5 1).toNat n 0 0 ((fwUc (fwUc (fwUc h 4 5 (h 4 0)) 8 0 (fwFu (h 8 0) 6 0)) 17 5 (h 17 0)) 17 5) (stOf (fwUc (fwUc (fwUc h 4 5 (h 4 0)) 8 0 (fwFu (h 8 0) 6 0)) 17 5 (h 17 0)))) A1) Q
  rw [show seH (fwUc (fwUc (fwUc h 4 5 (h 4 0)) 8 0 (fwFu (h 8 0) 6 0)) 17 5 (h 17 0)) ((fwUc (fwUc (fwUc h 4 5 (h 4 0)) 8 0 (fwFu (h 8 0) 6 0)) 17 5 (h 17 0)) 17 5) (mSe (mGt5 (fwUc (fwUc (fwUc h 4 5 (h 4 0)) 8 0 (fwFu (h 8 0) 6 0)) 17 5 (h 17 0))) ((fwUc (fwUc (fwUc h 4 5 (h 4 0)) 8 0 (fwFu (h 8 0) 6 0)) 17 5 (h 17 0)) 4 5 1).toNat n 0 0 ((fwUc (fwUc (fwUc h 4 5 (h 4 0)) 8 0 (fwFu (h 8 0) 6 0)) 17 5 (h 17 0)) 17 5) (stOf (fwUc (fwUc (fwUc h 4 5 (h 4 0)) 8 0 (fwFu (h 8 0) 6 0)) 17 5 (h 17 0)))) A1 = shpH h n A1 from shpE h n A1]
  refine w_aload_n dX7_shapeBy_26 rfl ?_
  refine w_getiE (v := (mShp h n).2.2.1) dX7_shapeBy_27 fl_X7_98 rfl (by decide) rfl ?_
  exact w_iret dX7_shapeBy_30 rfl (k _)
def mSpo (h : fwH) : Nat → Int × Int
  | 0 => (-1, 0)
  | c + 1 => if mStay (h 4 0 1) (h 17 0) (h 4 0 3) (c : Int) ≠ -1 ∧ ((mSpo h c).1 = -1 ∨ (mSpo h c).2 < mGt h (mRs (h 17 0) (mStay (h 4 0 1) (h 17 0) (h 4 0 3) (c : Int)))) then ((c : Int), mGt h (mRs (h 17 0) (mStay (h 4 0 1) (h 17 0) (h 4 0 3) (c : Int)))) else mSpo h c
theorem mSpo_rng {h : fwH} (hP : pOk h 0) (hG : gOk h 0) : ∀ c : Nat, (c : Int) ≤ h 4 0 1 → (-1 ≤ (mSpo h c).1 ∧ (mSpo h c).1 < c) ∧ 0 ≤ (mSpo h c).2 ∧ (mSpo h c).2 ≤ 300000 := by
  intro c
  induction c with
  | zero => intro _; simp [mSpo]
  | succ c ih =>
    intro hc
    have h1 := ih (by omega)
    rw [mSpo]
    split
    · refine ⟨by dsimp only; omega, mGt_rng hP hG.1.2 _ (mRs_rng hG.1 (by omega) (by omega) hG.2.2.2.2)⟩
    · omega
set_option maxRecDepth 100000 in
set_option maxHeartbeats 4000000 in
theorem c_X7_spoilCell {d : Nat} {h : fwH} {Q : Option fwV → fwH → Prop}  (hP : pOk h 0) (hG : gOk h 0) (hn : 1 ≤ h 4 0 1) (hM : ∀ c : Nat, c < 10 → h 17 0 c ≤ 999) (k : ∀ A, Q (some (aI ((mSpo h (h 4 0 1).toNat).1))) (fwUc (fwUc (fwUc h 4 5 (h 4 0)) 17 5 (h 17 0)) 20 0 A)) : fwCt mX7_spoilCell (d + 4) [aR 8 0] h Q := by
  refine fwCt_of [some (aR 8 0), none, none, none, none, none] rfl rfl rfl ?_
  obtain ⟨⟨g1, g2⟩, ⟨g3, g4⟩, ⟨g5, g6⟩, g7, g8⟩ := id hG
  have hpz := hP.1
  refine w_aload_n dX7_spoilCell_0 rfl ?_
  refine w_getr 4 5 dX7_spoilCell_1 fl_X7_25 rfl (by decide) ?_
  refine w_aload_n dX7_spoilCell_4 rfl ?_
  refine w_getr 3 0 dX7_spoilCell_5 fl_X7_21 rfl (by decide) ?_
  refine w_getr 4 0 dX7_spoilCell_8 fl_X7_29 rfl (by decide) ?_
  refine w_callV (d := d + 3) (S := []) [aR 4 0] dX7_spoilCell_11 ml_X7_34 ok_X1_copyFrom vi_X1_copyFrom rfl rfl (by decide) rfl (Nat.le_of_ble_eq_true rfl) ?_
  refine c_X1_copyFrom (d := (d + 3)) 5 0 (by decide) (by decide) (by first | assumption | omega | decide) (by first | assumption | omega | decide) ?_
  show fwWP mX7_spoilCell (d + 4) 14 [some (aR 8 0), none, none, none, none, none] [] (fwUc (fwUc h 17 5 (h 17 0)) 4 5 (h 4 0)) Q
  rw [show fwUc (fwUc h 17 5 (h 17 0)) 4 5 (h 4 0) = (fwUc (fwUc h 4 5 (h 4 0)) 17 5 (h 17 0)) from by funext a b; simp only [fwUc]; (repeat' split); all_goals first | rfl | (exfalso; omega)]
  refine w_iconst dX7_spoilCell_14 ?_
  refine w_istore_n [some (aR 8 0), some (aI (-1)), none, none, none, none] dX7_spoilCell_15 rfl (by decide) ?_
  refine w_iconst dX7_spoilCell_16 ?_
  refine w_istore_n [some (aR 8 0), some (aI (-1)), some (aI 0), none, none, none] dX7_spoilCell_17 rfl (by decide) ?_
  refine w_iconst dX7_spoilCell_18 ?_
  refine w_istore_n [some (aR 8 0), some (aI (-1)), some (aI 0), some (aI 0), none, none] dX7_spoilCell_19 rfl (by decide) ?_
  have lp20 : ∀ c : Nat, c ≤ (h 4 0 1).toNat → ∀ (y20 ce mo : Int) (hh20 : fwH), y20 = (c : Int) → ce = (mSpo h c).1 → mo = (mSpo h c).2 → (∃ A : Nat → Int, hh20 = (fwUc (fwUc (fwUc h 4 5 (h 4 0)) 17 5 (h 17 0)) 20 0 A)) → fwWP mX7_spoilCell (d + 4) 20 [some (aR 8 0), some (aI ce), some (aI mo), some (aI y20), none, none] [] hh20 Q := by
    refine fw_up (fun c hc20 ih20 => ?_)
    intro y20 ce mo hh20 ey20 e_ce e_mo eh20
    subst ey20
    subst e_ce
    subst e_mo
    obtain ⟨A_20, eh20⟩ := eh20
    subst eh20
    have hsp := mSpo_rng hP hG c (by omega)
    show fwWP mX7_spoilCell (d + 4) 20 [some (aR 8 0), some (aI ((mSpo h c).1)), some (aI ((mSpo h c).2)), some (aI (c : Int)), none, none] [] (fwUc (fwUc (fwUc h 4 5 (h 4 0)) 17 5 (h 17 0)) 20 0 A_20) Q
    refine w_iload_n dX7_spoilCell_20 rfl ?_
    refine w_aload_n dX7_spoilCell_21 rfl ?_
    refine w_getr 4 5 dX7_spoilCell_22 fl_X7_25 rfl (by decide) ?_
    refine w_getiE (v := (h 4 0) 1) dX7_spoilCell_25 fl_X7_40 rfl (by decide) (by first | rfl | simp [fwUp, fwUc]) ?_
    refine w_icmp_ge 105 dX7_spoilCell_28 (by decide) (by omega) (by omega) (fun c28 => ?_) (fun c28 => ?_)
    · have ec20 : (h 4 0 1).toNat = c := by omega
      subst ec20
      refine w_iload_n dX7_spoilCell_105 rfl ?_
      exact w_iret dX7_spoilCell_106 rfl (k _)
    · have hG6 : gOk (fwUc (fwUc (fwUc h 4 5 (h 4 0)) 17 5 (h 17 0)) 20 0 A_20) 5 := ⟨hG.1, hG.2.1, hG.2.2.1, hG.2.2.2.1, hG.2.2.2.2⟩
      have hcc : 0 ≤ (c : Int) ∧ (c : Int) < h 4 0 1 := by omega
      refine w_aload_n dX7_spoilCell_31 rfl ?_
      refine w_getr 4 5 dX7_spoilCell_32 fl_X7_25 rfl (by decide) ?_
      refine w_iload_n dX7_spoilCell_35 rfl ?_
      refine w_callV (d := d + 3) (S := []) [aI (c : Int)] dX7_spoilCell_36 ml_X7_108 ok_X1_stayOf vi_X1_stayOf rfl rfl (by decide) rfl (Nat.le_of_ble_eq_true rfl) ?_
      refine c_X1_stayOf (d := d) 5 (c : Int) (by decide) (by first | assumption | omega | decide) (by first | assumption | omega | decide) ?_
      show fwWP mX7_spoilCell (d + 4) 39 [some (aR 8 0), some (aI ((mSpo h c).1)), some (aI ((mSpo h c).2)), some (aI (c : Int)), none, none] [aI (mStay ((h 4 0) 1) (h 17 0) ((h 4 0) 3) (c : Int))] (fwUc (fwUc (fwUc h 4 5 (h 4 0)) 17 5 (h 17 0)) 20 0 A_20) Q
      have hsr := mStay_rng (h 17 0) (n := h 4 0 1) (rs := h 4 0 3) (x := (c : Int)) ⟨g1, g2⟩ (by omega)
      refine w_istore [some (aR 8 0), some (aI ((mSpo h c).1)), some (aI ((mSpo h c).2)), some (aI (c : Int)), some (aI (mStay ((h 4 0) 1) (h 17 0) ((h 4 0) 3) (c : Int))), none] dX7_spoilCell_39 rfl (by decide) ?_
      refine w_iload dX7_spoilCell_41 rfl ?_
      refine w_iconst dX7_spoilCell_43 ?_
      refine w_icmp_eq 99 dX7_spoilCell_44 (by decide) (by omega) (by omega) (fun c44 => ?_) (fun c44 => ?_)
      · refine w_iinc [some (aR 8 0), some (aI ((mSpo h c).1)), some (aI ((mSpo h c).2)), some (aI ((c : Int) + 1)), some (aI (mStay ((h 4 0) 1) (h 17 0) ((h 4 0) 3) (c : Int))), none] dX7_spoilCell_99 rfl rfl (by decide) ?_
        refine w_goto 20 dX7_spoilCell_102 (by decide) ?_
        refine w_drop [4] [some (aR 8 0), some (aI ((mSpo h c).1)), some (aI ((mSpo h c).2)), some (aI ((c : Int) + 1)), none, none] rfl ?_
        refine ih20 (by omega) _ _ _ _ ?_ ?_ ?_ ?_
        · exact (by omega)
        · exact (by rw [mSpo]; first | rw [if_pos (by omega)] | rw [if_neg (by omega)])
        · exact (by rw [mSpo]; first | rw [if_pos (by omega)] | rw [if_neg (by omega)])
        · exact ⟨_, rfl⟩
      · refine w_aload_n dX7_spoilCell_47 rfl ?_
        refine w_getr 4 5 dX7_spoilCell_48 fl_X7_25 rfl (by decide) ?_
        refine w_iload dX7_spoilCell_51 rfl ?_
        refine w_iconst dX7_spoilCell_53 ?_
        refine w_callV (d := d + 3) (S := []) [aI (mStay ((h 4 0) 1) (h 17 0) ((h 4 0) 3) (c : Int)), aI 1] dX7_spoilCell_54 ml_X7_48 ok_X1_change vi_X1_change rfl rfl (by decide) rfl (Nat.le_of_ble_eq_true rfl) ?_
        refine c_X1_changeE (d := (d + 2)) 5 (mStay ((h 4 0) 1) (h 17 0) ((h 4 0) 3) (c : Int)) 1 (by decide) (by first | assumption | omega | decide) (by first | assumption | omega | decide) (show mStay ((h 4 0) 1) (h 17 0) ((h 4 0) 3) (c : Int) < (h 4 0) 1 by first | assumption | omega | decide) ?_
        show fwWP mX7_spoilCell (d + 4) 57 [some (aR 8 0), some (aI ((mSpo h c).1)), some (aI ((mSpo h c).2)), some (aI (c : Int)), some (aI (mStay ((h 4 0) 1) (h 17 0) ((h 4 0) 3) (c : Int))), none] [] (fwUc (fwUc (fwUc (fwUc h 4 5 (h 4 0)) 17 5 (h 17 0)) 20 0 A_20) 17 5 (fwFu ((h 17 0)) (mStay ((h 4 0) 1) (h 17 0) ((h 4 0) 3) (c : Int)).toNat ((h 17 0) (mStay ((h 4 0) 1) (h 17 0) ((h 4 0) 3) (c : Int)).toNat + 1))) Q
        rw [show fwUc (fwUc (fwUc (fwUc h 4 5 (h 4 0)) 17 5 (h 17 0)) 20 0 A_20) 17 5 (fwFu ((h 17 0)) (mStay ((h 4 0) 1) (h 17 0) ((h 4 0) 3) (c : Int)).toNat ((h 17 0) (mStay ((h 4 0) 1) (h 17 0) ((h 4 0) 3) (c : Int)).toNat + 1)) = (fwUc (fwUc (fwUc h 4 5 (h 4 0)) 17 5 (fwFu ((h 17 0)) (mStay ((h 4 0) 1) (h 17 0) ((h 4 0) 3) (c : Int)).toNat ((h 17 0) (mStay ((h 4 0) 1) (h 17 0) ((h 4 0) 3) (c : Int)).toNat + 1))) 20 0 A_20) from by funext a b; simp only [fwUc]; (repeat' split); all_goals first | rfl | (exfalso; omega)]
        have eRs : mRs (h 17 0) (mStay (h 4 0 1) (h 17 0) (h 4 0 3) (c : Int)) = fwFu (h 17 0) (mStay (h 4 0 1) (h 17 0) (h 4 0 3) (c : Int)).toNat (h 17 0 (mStay (h 4 0 1) (h 17 0) (h 4 0 3) (c : Int)).toNat + 1) := by rw [mRs, if_neg (by omega)]
        rw [show (fwUc (fwUc (fwUc h 4 5 (h 4 0)) 17 5 (fwFu ((h 17 0)) (mStay ((h 4 0) 1) (h 17 0) ((h 4 0) 3) (c : Int)).toNat ((h 17 0) (mStay ((h 4 0) 1) (h 17 0) ((h 4 0) 3) (c : Int)).toNat + 1))) 20 0 A_20) = (fwUc (fwUc (fwUc h 4 5 (h 4 0)) 17 5 (mRs (h 17 0) (mStay (h 4 0 1) (h 17 0) (h 4 0 3) (c : Int)))) 20 0 A_20) from by rw [eRs]]
        have hRr : ∀ q : Nat, q < 10 → 0 ≤ (mRs (h 17 0) (mStay (h 4 0 1) (h 17 0) (h 4 0 3) (c : Int))) q ∧ (mRs (h 17 0) (mStay (h 4 0 1) (h 17 0) (h 4 0 3) (c : Int))) q ≤ 1000 := mRs_rng ⟨g1, g2⟩ (by omega) (by omega) g8
        have hG7 : gOk (fwUc (fwUc (fwUc h 4 5 (h 4 0)) 17 5 (mRs (h 17 0) (mStay (h 4 0 1) (h 17 0) (h 4 0 3) (c : Int)))) 20 0 A_20) 5 := ⟨hG.1, hG.2.1, hG.2.2.1, hG.2.2.2.1, hRr⟩
        have hgr := mGt_rng hP g2 _ hRr
        refine w_aload_n dX7_spoilCell_57 rfl ?_
        refine w_getr 3 0 dX7_spoilCell_58 fl_X7_21 rfl (by decide) ?_
        refine w_getr 5 0 dX7_spoilCell_61 fl_X7_52 rfl (by decide) ?_
        refine w_aload_n dX7_spoilCell_64 rfl ?_
        refine w_getr 4 5 dX7_spoilCell_65 fl_X7_25 rfl (by decide) ?_
        refine w_callV (d := d + 3) (S := []) [aR 4 5] dX7_spoilCell_68 ml_X7_104 ok_X3_gainsOn vi_X3_gainsOn rfl rfl (by decide) rfl (Nat.le_of_ble_eq_true rfl) ?_
        refine c_X3_gainsOn (d := d) 0 5 (by decide) (by decide) (by first | assumption | omega | decide) (by first | assumption | omega | decide) ?_
        intro A3
        show fwWP mX7_spoilCell (d + 4) 71 [some (aR 8 0), some (aI ((mSpo h c).1)), some (aI ((mSpo h c).2)), some (aI (c : Int)), some (aI (mStay ((h 4 0) 1) (h 17 0) ((h 4 0) 3) (c : Int))), none] [aI (mSum (mGain ((h 4 0) 1) (mRs (h 17 0) (mStay (h 4 0 1) (h 17 0) (h 4 0 3) (c : Int))) ((h 4 0) 2) (h 18 0)) (h 5 0 3).toNat)] (fwUc (fwUc (fwUc (fwUc h 4 5 (h 4 0)) 17 5 (mRs (h 17 0) (mStay (h 4 0 1) (h 17 0) (h 4 0 3) (c : Int)))) 20 0 A_20) 20 0 A3) Q
        rw [show fwUc (fwUc (fwUc (fwUc h 4 5 (h 4 0)) 17 5 (mRs (h 17 0) (mStay (h 4 0 1) (h 17 0) (h 4 0 3) (c : Int)))) 20 0 A_20) 20 0 A3 = (fwUc (fwUc (fwUc h 4 5 (h 4 0)) 17 5 (mRs (h 17 0) (mStay (h 4 0 1) (h 17 0) (h 4 0 3) (c : Int)))) 20 0 A3) from by funext a b; simp only [fwUc]; (repeat' split); all_goals first | rfl | (exfalso; omega)]
        have hG8 : gOk (fwUc (fwUc (fwUc h 4 5 (h 4 0)) 17 5 (mRs (h 17 0) (mStay (h 4 0 1) (h 17 0) (h 4 0 3) (c : Int)))) 20 0 A3) 5 := ⟨hG.1, hG.2.1, hG.2.2.1, hG.2.2.2.1, hRr⟩
        change fwWP mX7_spoilCell (d + 4) 71 [some (aR 8 0), some (aI ((mSpo h c).1)), some (aI ((mSpo h c).2)), some (aI (c : Int)), some (aI (mStay ((h 4 0) 1) (h 17 0) ((h 4 0) 3) (c : Int))), none] [aI (mGt h (mRs (h 17 0) (mStay (h 4 0 1) (h 17 0) (h 4 0 3) (c : Int))))] (fwUc (fwUc (fwUc h 4 5 (h 4 0)) 17 5 (mRs (h 17 0) (mStay (h 4 0 1) (h 17 0) (h 4 0 3) (c : Int)))) 20 0 A3) Q
        refine w_istore [some (aR 8 0), some (aI ((mSpo h c).1)), some (aI ((mSpo h c).2)), some (aI (c : Int)), some (aI (mStay ((h 4 0) 1) (h 17 0) ((h 4 0) 3) (c : Int))), some (aI (mGt h (mRs (h 17 0) (mStay (h 4 0 1) (h 17 0) (h 4 0 3) (c : Int)))))] dX7_spoilCell_71 rfl (by decide) ?_
        refine w_aload_n dX7_spoilCell_73 rfl ?_
        refine w_getr 4 5 dX7_spoilCell_74 fl_X7_25 rfl (by decide) ?_
        refine w_iload dX7_spoilCell_77 rfl ?_
        refine w_iconst dX7_spoilCell_79 ?_
        refine w_callV (d := d + 3) (S := []) [aI (mStay ((h 4 0) 1) (h 17 0) ((h 4 0) 3) (c : Int)), aI (-1)] dX7_spoilCell_80 ml_X7_48 ok_X1_change vi_X1_change rfl rfl (by decide) rfl (Nat.le_of_ble_eq_true rfl) ?_
        refine c_X1_changeE (d := (d + 2)) 5 (mStay ((h 4 0) 1) (h 17 0) ((h 4 0) 3) (c : Int)) (-1) (by decide) (by first | assumption | omega | decide) (by first | assumption | omega | decide) (show mStay ((h 4 0) 1) (h 17 0) ((h 4 0) 3) (c : Int) < (h 4 0) 1 by first | assumption | omega | decide) ?_
        show fwWP mX7_spoilCell (d + 4) 83 [some (aR 8 0), some (aI ((mSpo h c).1)), some (aI ((mSpo h c).2)), some (aI (c : Int)), some (aI (mStay ((h 4 0) 1) (h 17 0) ((h 4 0) 3) (c : Int))), some (aI (mGt h (mRs (h 17 0) (mStay (h 4 0 1) (h 17 0) (h 4 0 3) (c : Int)))))] [] (fwUc (fwUc (fwUc (fwUc h 4 5 (h 4 0)) 17 5 (mRs (h 17 0) (mStay (h 4 0 1) (h 17 0) (h 4 0 3) (c : Int)))) 20 0 A3) 17 5 (fwFu ((mRs (h 17 0) (mStay (h 4 0 1) (h 17 0) (h 4 0 3) (c : Int)))) (mStay ((h 4 0) 1) (h 17 0) ((h 4 0) 3) (c : Int)).toNat ((mRs (h 17 0) (mStay (h 4 0 1) (h 17 0) (h 4 0 3) (c : Int))) (mStay ((h 4 0) 1) (h 17 0) ((h 4 0) 3) (c : Int)).toNat + (-1)))) Q
        rw [show fwUc (fwUc (fwUc (fwUc h 4 5 (h 4 0)) 17 5 (mRs (h 17 0) (mStay (h 4 0 1) (h 17 0) (h 4 0 3) (c : Int)))) 20 0 A3) 17 5 (fwFu ((mRs (h 17 0) (mStay (h 4 0 1) (h 17 0) (h 4 0 3) (c : Int)))) (mStay ((h 4 0) 1) (h 17 0) ((h 4 0) 3) (c : Int)).toNat ((mRs (h 17 0) (mStay (h 4 0 1) (h 17 0) (h 4 0 3) (c : Int))) (mStay ((h 4 0) 1) (h 17 0) ((h 4 0) 3) (c : Int)).toNat + (-1))) = (fwUc (fwUc (fwUc h 4 5 (h 4 0)) 17 5 (fwFu ((mRs (h 17 0) (mStay (h 4 0 1) (h 17 0) (h 4 0 3) (c : Int)))) (mStay ((h 4 0) 1) (h 17 0) ((h 4 0) 3) (c : Int)).toNat ((mRs (h 17 0) (mStay (h 4 0 1) (h 17 0) (h 4 0 3) (c : Int))) (mStay ((h 4 0) 1) (h 17 0) ((h 4 0) 3) (c : Int)).toNat + (-1)))) 20 0 A3) from by funext a b; simp only [fwUc]; (repeat' split); all_goals first | rfl | (exfalso; omega)]
        rw [show (fwUc (fwUc (fwUc h 4 5 (h 4 0)) 17 5 (fwFu ((mRs (h 17 0) (mStay (h 4 0 1) (h 17 0) (h 4 0 3) (c : Int)))) (mStay ((h 4 0) 1) (h 17 0) ((h 4 0) 3) (c : Int)).toNat ((mRs (h 17 0) (mStay (h 4 0 1) (h 17 0) (h 4 0 3) (c : Int))) (mStay ((h 4 0) 1) (h 17 0) ((h 4 0) 3) (c : Int)).toNat + (-1)))) 20 0 A3) = (fwUc (fwUc (fwUc h 4 5 (h 4 0)) 17 5 (h 17 0)) 20 0 A3) from by rw [eRs, fwFu_ub]]
        refine w_iload_n dX7_spoilCell_83 rfl ?_
        refine w_iconst dX7_spoilCell_84 ?_
        refine w_icmp_eq 94 dX7_spoilCell_85 (by decide) (by omega) (by omega) (fun c85 => ?_) (fun c85 => ?_)
        · refine w_iload_n dX7_spoilCell_94 rfl ?_
          refine w_istore_n [some (aR 8 0), some (aI (c : Int)), some (aI ((mSpo h c).2)), some (aI (c : Int)), some (aI (mStay ((h 4 0) 1) (h 17 0) ((h 4 0) 3) (c : Int))), some (aI (mGt h (mRs (h 17 0) (mStay (h 4 0 1) (h 17 0) (h 4 0 3) (c : Int)))))] dX7_spoilCell_95 rfl (by decide) ?_
          refine w_iload dX7_spoilCell_96 rfl ?_
          refine w_istore_n [some (aR 8 0), some (aI (c : Int)), some (aI (mGt h (mRs (h 17 0) (mStay (h 4 0 1) (h 17 0) (h 4 0 3) (c : Int))))), some (aI (c : Int)), some (aI (mStay ((h 4 0) 1) (h 17 0) ((h 4 0) 3) (c : Int))), some (aI (mGt h (mRs (h 17 0) (mStay (h 4 0 1) (h 17 0) (h 4 0 3) (c : Int)))))] dX7_spoilCell_98 rfl (by decide) ?_
          refine w_iinc [some (aR 8 0), some (aI (c : Int)), some (aI (mGt h (mRs (h 17 0) (mStay (h 4 0 1) (h 17 0) (h 4 0 3) (c : Int))))), some (aI ((c : Int) + 1)), some (aI (mStay ((h 4 0) 1) (h 17 0) ((h 4 0) 3) (c : Int))), some (aI (mGt h (mRs (h 17 0) (mStay (h 4 0 1) (h 17 0) (h 4 0 3) (c : Int)))))] dX7_spoilCell_99 rfl rfl (by decide) ?_
          refine w_goto 20 dX7_spoilCell_102 (by decide) ?_
          refine w_drop [4, 5] [some (aR 8 0), some (aI (c : Int)), some (aI (mGt h (mRs (h 17 0) (mStay (h 4 0 1) (h 17 0) (h 4 0 3) (c : Int))))), some (aI ((c : Int) + 1)), none, none] rfl ?_
          refine ih20 (by omega) _ _ _ _ ?_ ?_ ?_ ?_
          · exact (by omega)
          · exact (by rw [mSpo]; first | rw [if_pos (by omega)] | rw [if_neg (by omega)])
          · exact (by rw [mSpo]; first | rw [if_pos (by omega)] | rw [if_neg (by omega)])
          · exact ⟨_, rfl⟩
        · refine w_iload dX7_spoilCell_88 rfl ?_
          refine w_iload_n dX7_spoilCell_90 rfl ?_
          refine w_icmp_le 99 dX7_spoilCell_91 (by decide) (by omega) (by omega) (fun c91 => ?_) (fun c91 => ?_)
          · refine w_iinc [some (aR 8 0), some (aI ((mSpo h c).1)), some (aI ((mSpo h c).2)), some (aI ((c : Int) + 1)), some (aI (mStay ((h 4 0) 1) (h 17 0) ((h 4 0) 3) (c : Int))), some (aI (mGt h (mRs (h 17 0) (mStay (h 4 0 1) (h 17 0) (h 4 0 3) (c : Int)))))] dX7_spoilCell_99 rfl rfl (by decide) ?_
            refine w_goto 20 dX7_spoilCell_102 (by decide) ?_
            refine w_drop [4, 5] [some (aR 8 0), some (aI ((mSpo h c).1)), some (aI ((mSpo h c).2)), some (aI ((c : Int) + 1)), none, none] rfl ?_
            refine ih20 (by omega) _ _ _ _ ?_ ?_ ?_ ?_
            · exact (by omega)
            · exact (by rw [mSpo]; first | rw [if_pos (by omega)] | rw [if_neg (by omega)])
            · exact (by rw [mSpo]; first | rw [if_pos (by omega)] | rw [if_neg (by omega)])
            · exact ⟨_, rfl⟩
          · refine w_iload_n dX7_spoilCell_94 rfl ?_
            refine w_istore_n [some (aR 8 0), some (aI (c : Int)), some (aI ((mSpo h c).2)), some (aI (c : Int)), some (aI (mStay ((h 4 0) 1) (h 17 0) ((h 4 0) 3) (c : Int))), some (aI (mGt h (mRs (h 17 0) (mStay (h 4 0 1) (h 17 0) (h 4 0 3) (c : Int)))))] dX7_spoilCell_95 rfl (by decide) ?_
            refine w_iload dX7_spoilCell_96 rfl ?_
            refine w_istore_n [some (aR 8 0), some (aI (c : Int)), some (aI (mGt h (mRs (h 17 0) (mStay (h 4 0 1) (h 17 0) (h 4 0 3) (c : Int))))), some (aI (c : Int)), some (aI (mStay ((h 4 0) 1) (h 17 0) ((h 4 0) 3) (c : Int))), some (aI (mGt h (mRs (h 17 0) (mStay (h 4 0 1) (h 17 0) (h 4 0 3) (c : Int)))))] dX7_spoilCell_98 rfl (by decide) ?_
            refine w_iinc [some (aR 8 0), some (aI (c : Int)), some (aI (mGt h (mRs (h 17 0) (mStay (h 4 0 1) (h 17 0) (h 4 0 3) (c : Int))))), some (aI ((c : Int) + 1)), some (aI (mStay ((h 4 0) 1) (h 17 0) ((h 4 0) 3) (c : Int))), some (aI (mGt h (mRs (h 17 0) (mStay (h 4 0 1) (h 17 0) (h 4 0 3) (c : Int)))))] dX7_spoilCell_99 rfl rfl (by decide) ?_
            refine w_goto 20 dX7_spoilCell_102 (by decide) ?_
            refine w_drop [4, 5] [some (aR 8 0), some (aI (c : Int)), some (aI (mGt h (mRs (h 17 0) (mStay (h 4 0 1) (h 17 0) (h 4 0 3) (c : Int))))), some (aI ((c : Int) + 1)), none, none] rfl ?_
            refine ih20 (by omega) _ _ _ _ ?_ ?_ ?_ ?_
            · exact (by omega)
            · exact (by rw [mSpo]; first | rw [if_pos (by omega)] | rw [if_neg (by omega)])
            · exact (by rw [mSpo]; first | rw [if_pos (by omega)] | rw [if_neg (by omega)])
            · exact ⟨_, rfl⟩
  refine lp20 0 (Nat.zero_le _) _ _ _ _ ?_ ?_ ?_ ?_
  · exact (by omega)
  · exact rfl
  · exact rfl
  · exact ⟨h 20 0, (fwUc_self (fwUc (fwUc h 4 5 (h 4 0)) 17 5 (h 17 0)) 20 0).symm⟩
end
section
/-! FootLower$Shadows -/
def mSiP (N : Nat → Int) (n : Int) (j : Nat) : Bool := decide ((0 ≤ N (3 * j) ∧ N (3 * j) < n) ∧ (N (3 * j + 1) ≠ 0 ∧ -9 ≤ N (3 * j + 1) ∧ N (3 * j + 1) ≤ 9) ∧ 0 ≤ N (3 * j + 2) ∧ N (3 * j + 2) ≤ 1)
abbrev mSi (N : Nat → Int) (sz n : Int) : Prop := sz % 3 = 0 ∧ mAll (mSiP N n) (sz / 3).toNat = true
set_option maxRecDepth 100000 in
set_option maxHeartbeats 4000000 in
theorem c_X6_isSighting {d : Nat} {h : fwH} {Q : Option fwV → fwH → Prop} (s : Nat) (hG : gOk h 0) (hs : sOk h) (hsl : s < 4) (hz : 0 ≤ h 35 0 s) (k : Q (some (aI (fwB (mSi (h 33 s) (h 35 0 s) (h 4 0 1))))) h) : fwCt mX6_isSighting (d + 2) [aR 10 0, aI (s : Int)] h Q := by
  refine fwCt_of [some (aR 10 0), some (aI (s : Int)), none, none, none, none, none, none, none, none, none, none] rfl rfl rfl ?_
  have hgz := hG.1
  have hss := hs s hsl
  refine w_aload_n dX6_isSighting_0 rfl ?_
  refine w_getr 11 0 dX6_isSighting_1 fl_X6_25 rfl (by decide) ?_
  refine w_iload_n dX6_isSighting_4 rfl ?_
  refine w_callV (d := d + 1) (S := []) [aI (s : Int)] dX6_isSighting_5 ml_X6_51 ok_X8_sizeOf vi_X8_sizeOf rfl rfl (by decide) rfl (Nat.le_of_ble_eq_true rfl) ?_
  refine c_X8_sizeOf (d := (d + 1)) (s : Int) (by first | assumption | omega | decide) ?_
  show fwWP mX6_isSighting (d + 2) 8 [some (aR 10 0), some (aI (s : Int)), none, none, none, none, none, none, none, none, none, none] [aI (mSz (h 35 0) (s : Int))] h Q
  have hz1 := mSz_rng hs (s : Int)
  rw [mSz_in (h 35 0) hsl]
  refine w_istore_n [some (aR 10 0), some (aI (s : Int)), some (aI (h 35 0 s)), none, none, none, none, none, none, none, none, none] dX6_isSighting_8 rfl (by decide) ?_
  refine w_iload_n dX6_isSighting_9 rfl ?_
  refine w_iconst dX6_isSighting_10 ?_
  refine w_irem dX6_isSighting_11 (by omega) (by omega) ?_
  have hrm := fwRem_nn (x := h 35 0 s) (y := 3) (by omega) (by omega)
  rw [hrm]
  refine w_if_eq 17 dX6_isSighting_12 (by decide) (by omega) (fun c12 => ?_) (fun c12 => ?_)
  · refine w_iconst dX6_isSighting_17 ?_
    refine w_istore_n [some (aR 10 0), some (aI (s : Int)), some (aI (h 35 0 s)), some (aI 0), none, none, none, none, none, none, none, none] dX6_isSighting_18 rfl (by decide) ?_
    have lp19 : ∀ c : Nat, c ≤ (h 35 0 s / 3).toNat → ∀ (y19  : Int), y19 = 3 * (c : Int) → (mAll (mSiP (h 33 s) (h 4 0 1)) c = true) → fwWP mX6_isSighting (d + 2) 19 [some (aR 10 0), some (aI (s : Int)), some (aI (h 35 0 s)), some (aI y19), none, none, none, none, none, none, none, none] [] h Q := by
      refine fw_up (fun c hc19 ih19 => ?_)
      intro y19  ey19 iv19_0
      subst ey19
      show fwWP mX6_isSighting (d + 2) 19 [some (aR 10 0), some (aI (s : Int)), some (aI (h 35 0 s)), some (aI (3 * (c : Int))), none, none, none, none, none, none, none, none] [] h Q
      refine w_iload_n dX6_isSighting_19 rfl ?_
      refine w_iload_n dX6_isSighting_20 rfl ?_
      refine w_icmp_ge 156 dX6_isSighting_21 (by decide) (by omega) (by omega) (fun c21 => ?_) (fun c21 => ?_)
      · have ec19 : (h 35 0 s / 3).toNat = c := by omega
        subst ec19
        refine w_iconst dX6_isSighting_156 ?_
        exact w_zretE (P := mSi (h 33 s) (h 35 0 s) (h 4 0 1)) dX6_isSighting_157 rfl (by rw [fwB_t ⟨by omega, iv19_0⟩]) k
      · have hlt : c < (h 35 0 s / 3).toNat := by omega
        refine w_aload_n dX6_isSighting_24 rfl ?_
        refine w_getr 11 0 dX6_isSighting_25 fl_X6_25 rfl (by decide) ?_
        refine w_iload_n dX6_isSighting_28 rfl ?_
        refine w_iload_n dX6_isSighting_29 rfl ?_
        refine w_callV (d := d + 1) (S := []) [aI (s : Int), aI (3 * (c : Int))] dX6_isSighting_30 ml_X6_82 ok_X8_numberAt vi_X8_numberAt rfl rfl (by decide) rfl (Nat.le_of_ble_eq_true rfl) ?_
        refine c_X8_numberN (d := d) s (3 * c) (s : Int) (3 * (c : Int)) (by omega) (by omega) (by first | assumption | omega | decide) (by first | assumption | omega | decide) ?_
        show fwWP mX6_isSighting (d + 2) 33 [some (aR 10 0), some (aI (s : Int)), some (aI (h 35 0 s)), some (aI (3 * (c : Int))), none, none, none, none, none, none, none, none] [aJ (h 33 s (3 * c))] h Q
        have hl4 := (hs s (by omega)).2.2 (3 * c) (by omega)
        refine w_lstore [some (aR 10 0), some (aI (s : Int)), some (aI (h 35 0 s)), some (aI (3 * (c : Int))), some (aJ (h 33 s (3 * c))), none, none, none, none, none, none, none] dX6_isSighting_33 rfl (by decide) ?_
        refine w_aload_n dX6_isSighting_35 rfl ?_
        refine w_getr 11 0 dX6_isSighting_36 fl_X6_25 rfl (by decide) ?_
        refine w_iload_n dX6_isSighting_39 rfl ?_
        refine w_iload_n dX6_isSighting_40 rfl ?_
        refine w_iconst dX6_isSighting_41 ?_
        refine w_iadd dX6_isSighting_42 ?_
        refine w_callV (d := d + 1) (S := []) [aI (s : Int), aI ((3 * (c : Int)) + 1)] dX6_isSighting_43 ml_X6_82 ok_X8_numberAt vi_X8_numberAt rfl rfl (by decide) rfl (Nat.le_of_ble_eq_true rfl) ?_
        refine c_X8_numberN (d := d) s ((3 * c) + 1) (s : Int) ((3 * (c : Int)) + 1) (by omega) (by omega) (by first | assumption | omega | decide) (by first | assumption | omega | decide) ?_
        show fwWP mX6_isSighting (d + 2) 46 [some (aR 10 0), some (aI (s : Int)), some (aI (h 35 0 s)), some (aI (3 * (c : Int))), some (aJ (h 33 s (3 * c))), none, none, none, none, none, none, none] [aJ (h 33 s ((3 * c) + 1))] h Q
        have hl5 := (hs s (by omega)).2.2 ((3 * c) + 1) (by omega)
        refine w_lstore [some (aR 10 0), some (aI (s : Int)), some (aI (h 35 0 s)), some (aI (3 * (c : Int))), some (aJ (h 33 s (3 * c))), none, some (aJ (h 33 s ((3 * c) + 1))), none, none, none, none, none] dX6_isSighting_46 rfl (by decide) ?_
        refine w_aload_n dX6_isSighting_48 rfl ?_
        refine w_getr 11 0 dX6_isSighting_49 fl_X6_25 rfl (by decide) ?_
        refine w_iload_n dX6_isSighting_52 rfl ?_
        refine w_iload_n dX6_isSighting_53 rfl ?_
        refine w_iconst dX6_isSighting_54 ?_
        refine w_iadd dX6_isSighting_55 ?_
        refine w_callV (d := d + 1) (S := []) [aI (s : Int), aI ((3 * (c : Int)) + 2)] dX6_isSighting_56 ml_X6_82 ok_X8_numberAt vi_X8_numberAt rfl rfl (by decide) rfl (Nat.le_of_ble_eq_true rfl) ?_
        refine c_X8_numberN (d := d) s ((3 * c) + 2) (s : Int) ((3 * (c : Int)) + 2) (by omega) (by omega) (by first | assumption | omega | decide) (by first | assumption | omega | decide) ?_
        show fwWP mX6_isSighting (d + 2) 59 [some (aR 10 0), some (aI (s : Int)), some (aI (h 35 0 s)), some (aI (3 * (c : Int))), some (aJ (h 33 s (3 * c))), none, some (aJ (h 33 s ((3 * c) + 1))), none, none, none, none, none] [aJ (h 33 s ((3 * c) + 2))] h Q
        have hl6 := (hs s (by omega)).2.2 ((3 * c) + 2) (by omega)
        refine w_lstore [some (aR 10 0), some (aI (s : Int)), some (aI (h 35 0 s)), some (aI (3 * (c : Int))), some (aJ (h 33 s (3 * c))), none, some (aJ (h 33 s ((3 * c) + 1))), none, some (aJ (h 33 s ((3 * c) + 2))), none, none, none] dX6_isSighting_59 rfl (by decide) ?_
        have J90 : ∀ v : Int, v = fwB (0 ≤ h 33 s (3 * c) ∧ h 33 s (3 * c) < h 4 0 1) → fwWP mX6_isSighting (d + 2) 90 [some (aR 10 0), some (aI (s : Int)), some (aI (h 35 0 s)), some (aI (3 * (c : Int))), some (aJ (h 33 s (3 * c))), none, some (aJ (h 33 s ((3 * c) + 1))), none, some (aJ (h 33 s ((3 * c) + 2))), none, none, none] [aI v] h Q := by
          intro v ev
          subst ev
          refine w_istore [some (aR 10 0), some (aI (s : Int)), some (aI (h 35 0 s)), some (aI (3 * (c : Int))), some (aJ (h 33 s (3 * c))), none, some (aJ (h 33 s ((3 * c) + 1))), none, some (aJ (h 33 s ((3 * c) + 2))), none, some (aI (fwB (0 ≤ h 33 s (3 * c) ∧ h 33 s (3 * c) < h 4 0 1))), none] dX6_isSighting_90 rfl (by decide) ?_
          have J122 : ∀ v : Int, v = fwB (h 33 s (3 * c + 1) ≠ 0 ∧ -9 ≤ h 33 s (3 * c + 1) ∧ h 33 s (3 * c + 1) ≤ 9) → fwWP mX6_isSighting (d + 2) 122 [some (aR 10 0), some (aI (s : Int)), some (aI (h 35 0 s)), some (aI (3 * (c : Int))), some (aJ (h 33 s (3 * c))), none, some (aJ (h 33 s ((3 * c) + 1))), none, some (aJ (h 33 s ((3 * c) + 2))), none, some (aI (fwB (0 ≤ h 33 s (3 * c) ∧ h 33 s (3 * c) < h 4 0 1))), none] [aI v] h Q := by
            intro v ev
            subst ev
            refine w_istore [some (aR 10 0), some (aI (s : Int)), some (aI (h 35 0 s)), some (aI (3 * (c : Int))), some (aJ (h 33 s (3 * c))), none, some (aJ (h 33 s ((3 * c) + 1))), none, some (aJ (h 33 s ((3 * c) + 2))), none, some (aI (fwB (0 ≤ h 33 s (3 * c) ∧ h 33 s (3 * c) < h 4 0 1))), some (aI (fwB (h 33 s (3 * c + 1) ≠ 0 ∧ -9 ≤ h 33 s (3 * c + 1) ∧ h 33 s (3 * c + 1) ≤ 9)))] dX6_isSighting_122 rfl (by decide) ?_
            refine w_iload dX6_isSighting_124 rfl ?_
            refine w_ifB_eq 148 dX6_isSighting_126 (by decide) (fun c126 => ?_) (fun c126 => ?_)
            · refine w_iconst dX6_isSighting_148 ?_
              exact w_zretE (P := mSi (h 33 s) (h 35 0 s) (h 4 0 1)) dX6_isSighting_149 rfl (by rw [fwB_f (fun q => by have := (mAll_iff _ _).mp q.2 c hlt; unfold mSiP at this; simp only [decide_eq_true_eq] at this; omega)]) k
            · refine w_iload dX6_isSighting_129 rfl ?_
              refine w_ifB_eq 148 dX6_isSighting_131 (by decide) (fun c131 => ?_) (fun c131 => ?_)
              · refine w_iconst dX6_isSighting_148 ?_
                exact w_zretE (P := mSi (h 33 s) (h 35 0 s) (h 4 0 1)) dX6_isSighting_149 rfl (by rw [fwB_f (fun q => by have := (mAll_iff _ _).mp q.2 c hlt; unfold mSiP at this; simp only [decide_eq_true_eq] at this; omega)]) k
              · refine w_lload dX6_isSighting_134 rfl ?_
                refine w_lconst (z := 0) dX6_isSighting_136 rfl ?_
                refine w_lc_lt 148 dX6_isSighting_137 dX6_isSighting_138 (by decide) (by omega) (by omega) (fun c138 => ?_) (fun c138 => ?_)
                · refine w_iconst dX6_isSighting_148 ?_
                  exact w_zretE (P := mSi (h 33 s) (h 35 0 s) (h 4 0 1)) dX6_isSighting_149 rfl (by rw [fwB_f (fun q => by have := (mAll_iff _ _).mp q.2 c hlt; unfold mSiP at this; simp only [decide_eq_true_eq] at this; omega)]) k
                · refine w_lload dX6_isSighting_141 rfl ?_
                  refine w_lconst (z := 1) dX6_isSighting_143 rfl ?_
                  refine w_lc_le 150 dX6_isSighting_144 dX6_isSighting_145 (by decide) (by omega) (by omega) (fun c145 => ?_) (fun c145 => ?_)
                  · refine w_iinc [some (aR 10 0), some (aI (s : Int)), some (aI (h 35 0 s)), some (aI ((3 * (c : Int)) + 3)), some (aJ (h 33 s (3 * c))), none, some (aJ (h 33 s ((3 * c) + 1))), none, some (aJ (h 33 s ((3 * c) + 2))), none, some (aI (fwB (0 ≤ h 33 s (3 * c) ∧ h 33 s (3 * c) < h 4 0 1))), some (aI (fwB (h 33 s (3 * c + 1) ≠ 0 ∧ -9 ≤ h 33 s (3 * c + 1) ∧ h 33 s (3 * c + 1) ≤ 9)))] dX6_isSighting_150 rfl rfl (by decide) ?_
                    refine w_goto 19 dX6_isSighting_153 (by decide) ?_
                    refine w_drop [4, 6, 8, 10, 11] [some (aR 10 0), some (aI (s : Int)), some (aI (h 35 0 s)), some (aI ((3 * (c : Int)) + 3)), none, none, none, none, none, none, none, none] rfl ?_
                    refine ih19 (by omega) _ ?_ ?_
                    · exact (by omega)
                    · exact (by rw [mAll, iv19_0, Bool.true_and]; unfold mSiP; simp only [decide_eq_true_eq]; omega)
                  · refine w_iconst dX6_isSighting_148 ?_
                    exact w_zretE (P := mSi (h 33 s) (h 35 0 s) (h 4 0 1)) dX6_isSighting_149 rfl (by rw [fwB_f (fun q => by have := (mAll_iff _ _).mp q.2 c hlt; unfold mSiP at this; simp only [decide_eq_true_eq] at this; omega)]) k
          refine w_lload dX6_isSighting_92 rfl ?_
          refine w_lconst (z := 0) dX6_isSighting_94 rfl ?_
          refine w_lc_eq 121 dX6_isSighting_95 dX6_isSighting_96 (by decide) (by omega) (by omega) (fun c96 => ?_) (fun c96 => ?_)
          · refine w_iconst dX6_isSighting_121 ?_
            exact J122 _ (by first | omega | (rw [fwB_t (by omega)]) | (rw [fwB_f (by omega)]))
          · refine w_lload dX6_isSighting_99 rfl ?_
            refine w_ldc2 (n := -9) dX6_isSighting_101 cs_X6_89 ?_
            refine w_lc_lt 121 dX6_isSighting_104 dX6_isSighting_105 (by decide) (by omega) (by omega) (fun c105 => ?_) (fun c105 => ?_)
            · refine w_iconst dX6_isSighting_121 ?_
              exact J122 _ (by first | omega | (rw [fwB_t (by omega)]) | (rw [fwB_f (by omega)]))
            · refine w_lload dX6_isSighting_108 rfl ?_
              refine w_ldc2 (n := 9) dX6_isSighting_110 cs_X6_91 ?_
              refine w_lc_gt 121 dX6_isSighting_113 dX6_isSighting_114 (by decide) (by omega) (by omega) (fun c114 => ?_) (fun c114 => ?_)
              · refine w_iconst dX6_isSighting_121 ?_
                exact J122 _ (by first | omega | (rw [fwB_t (by omega)]) | (rw [fwB_f (by omega)]))
              · refine w_iconst dX6_isSighting_117 ?_
                refine w_goto 122 dX6_isSighting_118 (by decide) ?_
                exact J122 _ (by first | omega | (rw [fwB_t (by omega)]) | (rw [fwB_f (by omega)]))
        refine w_lload dX6_isSighting_61 rfl ?_
        refine w_lconst (z := 0) dX6_isSighting_63 rfl ?_
        refine w_lc_lt 89 dX6_isSighting_64 dX6_isSighting_65 (by decide) (by omega) (by omega) (fun c65 => ?_) (fun c65 => ?_)
        · refine w_iconst dX6_isSighting_89 ?_
          exact J90 _ (by first | omega | (rw [fwB_t (by omega)]) | (rw [fwB_f (by omega)]))
        · refine w_lload dX6_isSighting_68 rfl ?_
          refine w_aload_n dX6_isSighting_70 rfl ?_
          refine w_getr 3 0 dX6_isSighting_71 fl_X6_21 rfl (by decide) ?_
          refine w_getr 4 0 dX6_isSighting_74 fl_X6_62 rfl (by decide) ?_
          refine w_geti dX6_isSighting_77 fl_X6_86 rfl (by decide) ?_
          refine w_i2l dX6_isSighting_80 (by omega) ?_
          refine w_lc_ge 89 dX6_isSighting_81 dX6_isSighting_82 (by decide) (by omega) (by omega) (fun c82 => ?_) (fun c82 => ?_)
          · refine w_iconst dX6_isSighting_89 ?_
            exact J90 _ (by first | omega | (rw [fwB_t (by omega)]) | (rw [fwB_f (by omega)]))
          · refine w_iconst dX6_isSighting_85 ?_
            refine w_goto 90 dX6_isSighting_86 (by decide) ?_
            exact J90 _ (by first | omega | (rw [fwB_t (by omega)]) | (rw [fwB_f (by omega)]))
    refine lp19 0 (Nat.zero_le _) _ ?_ ?_
    · exact (by omega)
    · exact rfl
  · refine w_iconst dX6_isSighting_15 ?_
    exact w_zretE (P := mSi (h 33 s) (h 35 0 s) (h 4 0 1)) dX6_isSighting_16 rfl (by rw [fwB_f (fun q => by have := q.1; omega)]) k
def mMis (p : Nat → Bool) : Nat → Int × Int
  | 0 => (0, -1)
  | r + 1 => if p r = true then ((mMis p r).1 + 1, (r : Int)) else mMis p r
theorem mMis_rng (p : Nat → Bool) : ∀ r : Nat, (0 ≤ (mMis p r).1 ∧ (mMis p r).1 ≤ r) ∧ -1 ≤ (mMis p r).2 ∧ (mMis p r).2 < r := by
  intro r
  induction r with
  | zero => simp [mMis]
  | succ r ih =>
    rw [mMis]
    split
    · dsimp only; omega
    · omega
/-- a row of three does not hold, with n CELLS of heights H -/
def mMiP (n : Int) (H N : Nat → Int) (r : Nat) : Bool := decide (¬ (mShadeB n H (N (3 * r)) (N (3 * r + 1)) = true ↔ N (3 * r + 2) = 1))
theorem fwMis2 (h : fwH) (k : Nat) (f g : Nat → Int) (a b a' b' : Int) : fwUp (fwUp (fwUc (fwUc h 29 0 (fwFu f k a)) 30 0 (fwFu g k b)) 29 0 k a') 30 0 k b' = fwUc (fwUc h 29 0 (fwFu f k a')) 30 0 (fwFu g k b') := by
  have e : ∀ (f : Nat → Int) (a b : Int), fwFu (fwFu f k a) k b = fwFu f k b := by
    intro f a b
    funext s
    unfold fwFu
    split <;> rfl
  rw [fwUp_fu (fwUc (fwUc h 29 0 (fwFu f k a)) 30 0 (fwFu g k b)) 29 0 k a', fwUp_fu]
  show fwUc (fwUc (fwUc (fwUc h 29 0 (fwFu f k a)) 30 0 (fwFu g k b)) 29 0 (fwFu (fwFu f k a) k a')) 30 0 (fwFu (fwFu g k b) k b') = _
  rw [e, e]
  funext a b
  simp only [fwUc]
  (repeat' split)
  all_goals first | rfl | (exfalso; omega)
theorem fwMis1 (h : fwH) (k : Nat) (a b : Int) : fwUp (fwUp h 29 0 k a) 30 0 k b = fwUc (fwUc h 29 0 (fwFu (h 29 0) k a)) 30 0 (fwFu (h 30 0) k b) := by
  rw [fwUp_fu h 29 0 k a, fwUp_fu]
  rfl
theorem fwFu_fu (g : Nat → Int) (j : Nat) (a b : Int) : fwFu (fwFu g j a) j b = fwFu g j b := by
  funext s
  unfold fwFu
  split <;> rfl
theorem fwB_iff {P Q : Prop} [Decidable P] [Decidable Q] : fwB P = fwB Q ↔ (P ↔ Q) := by
  unfold fwB
  by_cases hp : P <;> by_cases hq : Q <;> simp [hp, hq]
set_option maxRecDepth 100000 in
set_option maxHeartbeats 4000000 in
theorem c_X6_countMisses {d : Nat} {h : fwH} {Q : Option fwV → fwH → Prop} (s m : Nat) (hG : gOk h 5) (hs : sOk h) (hsl : s < 4) (hm : m < 21) (hr : 0 ≤ h 10 0 6 ∧ h 10 0 6 ≤ 20) (hS : mAll (mSiP (h 33 s) (h 4 5 1)) (h 10 0 6).toNat = true) (k : Q none (fwUc (fwUc h 29 0 (fwFu (h 29 0) m (mMis (mMiP (h 4 5 1) (h 17 5) (h 33 s)) (h 10 0 6).toNat).1)) 30 0 (fwFu (h 30 0) m (mMis (mMiP (h 4 5 1) (h 17 5) (h 33 s)) (h 10 0 6).toNat).2))) : fwCt mX6_countMisses (d + 2) [aR 10 0, aI (s : Int), aI (m : Int)] h Q := by
  refine fwCt_of [some (aR 10 0), some (aI (s : Int)), some (aI (m : Int)), none, none, none, none] rfl rfl rfl ?_
  have hgz := hG.1
  refine w_iload_n dX6_countMisses_0 rfl ?_
  refine w_if_lt 13 dX6_countMisses_1 (by decide) (by omega) (fun c1 => ?_) (fun c1 => ?_)
  · (exfalso; omega)
  · refine w_iload_n dX6_countMisses_4 rfl ?_
    refine w_aload_n dX6_countMisses_5 rfl ?_
    refine w_getr 29 0 dX6_countMisses_6 fl_X6_9 rfl (by decide) ?_
    refine w_alen dX6_countMisses_9 rfl (by decide) (by decide) ?_
    refine w_icmp_lt 14 dX6_countMisses_10 (by decide) (by omega) (by omega) (fun c10 => ?_) (fun c10 => ?_)
    · refine w_aload_n dX6_countMisses_14 rfl ?_
      refine w_getr 29 0 dX6_countMisses_15 fl_X6_9 rfl (by decide) ?_
      refine w_iload_n dX6_countMisses_18 rfl ?_
      refine w_iconst dX6_countMisses_19 ?_
      refine w_iast dX6_countMisses_20 rfl (by decide) (by omega) (by omega) ?_
      refine w_aload_n dX6_countMisses_21 rfl ?_
      refine w_getr 30 0 dX6_countMisses_22 fl_X6_15 rfl (by decide) ?_
      refine w_iload_n dX6_countMisses_25 rfl ?_
      refine w_iconst dX6_countMisses_26 ?_
      refine w_iast dX6_countMisses_27 rfl (by decide) (by omega) (by omega) ?_
      refine w_iconst dX6_countMisses_28 ?_
      refine w_istore_n [some (aR 10 0), some (aI (s : Int)), some (aI (m : Int)), some (aI 0), none, none, none] dX6_countMisses_29 rfl (by decide) ?_
      have lp30 : ∀ c : Nat, c ≤ (h 10 0 6).toNat → ∀ (y30  : Int) (hh30 : fwH), y30 = (c : Int) → hh30 = (fwUc (fwUc h 29 0 (fwFu (h 29 0) m (mMis (mMiP (h 4 5 1) (h 17 5) (h 33 s)) c).1)) 30 0 (fwFu (h 30 0) m (mMis (mMiP (h 4 5 1) (h 17 5) (h 33 s)) c).2)) → fwWP mX6_countMisses (d + 2) 30 [some (aR 10 0), some (aI (s : Int)), some (aI (m : Int)), some (aI y30), none, none, none] [] hh30 Q := by
        refine fw_up (fun c hc30 ih30 => ?_)
        intro y30  hh30 ey30 eh30
        subst ey30
        subst eh30
        show fwWP mX6_countMisses (d + 2) 30 [some (aR 10 0), some (aI (s : Int)), some (aI (m : Int)), some (aI (c : Int)), none, none, none] [] (fwUc (fwUc h 29 0 (fwFu (h 29 0) m (mMis (mMiP (h 4 5 1) (h 17 5) (h 33 s)) c).1)) 30 0 (fwFu (h 30 0) m (mMis (mMiP (h 4 5 1) (h 17 5) (h 33 s)) c).2)) Q
        refine w_iload_n dX6_countMisses_30 rfl ?_
        refine w_aload_n dX6_countMisses_31 rfl ?_
        refine w_getiE (v := h 10 0 6) dX6_countMisses_32 fl_X6_55 rfl (by decide) (by first | rfl | simp [fwUp, fwUc]) ?_
        refine w_icmp_ge 132 dX6_countMisses_35 (by decide) (by omega) (by omega) (fun c35 => ?_) (fun c35 => ?_)
        · have ec30 : (h 10 0 6).toNat = c := by omega
          subst ec30
          exact w_vret dX6_countMisses_132 rfl (k)
        · have hsi := (mAll_iff _ _).mp hS c (by omega)
          unfold mSiP at hsi
          simp only [decide_eq_true_eq] at hsi
          have hmr := mMis_rng (mMiP (h 4 5 1) (h 17 5) (h 33 s)) c
          refine w_aload_n dX6_countMisses_38 rfl ?_
          refine w_getr 11 0 dX6_countMisses_39 fl_X6_25 rfl (by decide) ?_
          refine w_iload_n dX6_countMisses_42 rfl ?_
          refine w_iconst dX6_countMisses_43 ?_
          refine w_iload_n dX6_countMisses_44 rfl ?_
          refine w_imul dX6_countMisses_45 ?_
          refine w_callV (d := d + 1) (S := []) [aI (s : Int), aI (3 * (c : Int))] dX6_countMisses_46 ml_X6_82 ok_X8_numberAt vi_X8_numberAt rfl rfl (by decide) rfl (Nat.le_of_ble_eq_true rfl) ?_
          refine c_X8_numberN (d := d) s (3 * c) (s : Int) (3 * (c : Int)) (by omega) (by omega) (by first | assumption | omega | decide) (by first | assumption | omega | decide) ?_
          show fwWP mX6_countMisses (d + 2) 49 [some (aR 10 0), some (aI (s : Int)), some (aI (m : Int)), some (aI (c : Int)), none, none, none] [aJ (h 33 s (3 * c))] (fwUc (fwUc h 29 0 (fwFu (h 29 0) m (mMis (mMiP (h 4 5 1) (h 17 5) (h 33 s)) c).1)) 30 0 (fwFu (h 30 0) m (mMis (mMiP (h 4 5 1) (h 17 5) (h 33 s)) c).2)) Q
          have hl4 := (hs s (by omega)).2.2 (3 * c) (by omega)
          refine w_l2i dX6_countMisses_49 ?_
          refine w_istore [some (aR 10 0), some (aI (s : Int)), some (aI (m : Int)), some (aI (c : Int)), some (aI (h 33 s (3 * c))), none, none] dX6_countMisses_50 rfl (by decide) ?_
          refine w_aload_n dX6_countMisses_52 rfl ?_
          refine w_getr 11 0 dX6_countMisses_53 fl_X6_25 rfl (by decide) ?_
          refine w_iload_n dX6_countMisses_56 rfl ?_
          refine w_iconst dX6_countMisses_57 ?_
          refine w_iload_n dX6_countMisses_58 rfl ?_
          refine w_imul dX6_countMisses_59 ?_
          refine w_iconst dX6_countMisses_60 ?_
          refine w_iadd dX6_countMisses_61 ?_
          refine w_callV (d := d + 1) (S := []) [aI (s : Int), aI ((3 * (c : Int)) + 1)] dX6_countMisses_62 ml_X6_82 ok_X8_numberAt vi_X8_numberAt rfl rfl (by decide) rfl (Nat.le_of_ble_eq_true rfl) ?_
          refine c_X8_numberN (d := d) s ((3 * c) + 1) (s : Int) ((3 * (c : Int)) + 1) (by omega) (by omega) (by first | assumption | omega | decide) (by first | assumption | omega | decide) ?_
          show fwWP mX6_countMisses (d + 2) 65 [some (aR 10 0), some (aI (s : Int)), some (aI (m : Int)), some (aI (c : Int)), some (aI (h 33 s (3 * c))), none, none] [aJ (h 33 s ((3 * c) + 1))] (fwUc (fwUc h 29 0 (fwFu (h 29 0) m (mMis (mMiP (h 4 5 1) (h 17 5) (h 33 s)) c).1)) 30 0 (fwFu (h 30 0) m (mMis (mMiP (h 4 5 1) (h 17 5) (h 33 s)) c).2)) Q
          have hl5 := (hs s (by omega)).2.2 ((3 * c) + 1) (by omega)
          refine w_l2i dX6_countMisses_65 ?_
          refine w_istore [some (aR 10 0), some (aI (s : Int)), some (aI (m : Int)), some (aI (c : Int)), some (aI (h 33 s (3 * c))), some (aI (h 33 s ((3 * c) + 1))), none] dX6_countMisses_66 rfl (by decide) ?_
          have J91 : ∀ v : Int, v = fwB (h 33 s (3 * c + 2) = 1) → fwWP mX6_countMisses (d + 2) 91 [some (aR 10 0), some (aI (s : Int)), some (aI (m : Int)), some (aI (c : Int)), some (aI (h 33 s (3 * c))), some (aI (h 33 s ((3 * c) + 1))), none] [aI v] (fwUc (fwUc h 29 0 (fwFu (h 29 0) m (mMis (mMiP (h 4 5 1) (h 17 5) (h 33 s)) c).1)) 30 0 (fwFu (h 30 0) m (mMis (mMiP (h 4 5 1) (h 17 5) (h 33 s)) c).2)) Q := by
            intro v ev
            subst ev
            refine w_istore [some (aR 10 0), some (aI (s : Int)), some (aI (m : Int)), some (aI (c : Int)), some (aI (h 33 s (3 * c))), some (aI (h 33 s ((3 * c) + 1))), some (aI (fwB (h 33 s (3 * c + 2) = 1)))] dX6_countMisses_91 rfl (by decide) ?_
            have hG6 : gOk (fwUc (fwUc h 29 0 (fwFu (h 29 0) m (mMis (mMiP (h 4 5 1) (h 17 5) (h 33 s)) c).1)) 30 0 (fwFu (h 30 0) m (mMis (mMiP (h 4 5 1) (h 17 5) (h 33 s)) c).2)) 5 := ⟨hG.1, hG.2.1, hG.2.2.1, hG.2.2.2.1, hG.2.2.2.2⟩
            refine w_aload_n dX6_countMisses_93 rfl ?_
            refine w_getr 4 5 dX6_countMisses_94 fl_X6_29 rfl (by decide) ?_
            refine w_iload dX6_countMisses_97 rfl ?_
            refine w_iload dX6_countMisses_99 rfl ?_
            refine w_callV (d := d + 1) (S := []) [aI (h 33 s (3 * c)), aI (h 33 s ((3 * c) + 1))] dX6_countMisses_101 ml_X6_93 ok_X1_isShaded vi_X1_isShaded rfl rfl (by decide) rfl (Nat.le_of_ble_eq_true rfl) ?_
            refine c_X1_isShaded (d := d) 5 (h 33 s (3 * c)) (h 33 s ((3 * c) + 1)) (by decide) (by first | assumption | omega | decide) (by first | assumption | omega | decide) (by first | assumption | omega | decide) ?_
            show fwWP mX6_countMisses (d + 2) 104 [some (aR 10 0), some (aI (s : Int)), some (aI (m : Int)), some (aI (c : Int)), some (aI (h 33 s (3 * c))), some (aI (h 33 s ((3 * c) + 1))), some (aI (fwB (h 33 s (3 * c + 2) = 1)))] [aI (fwB (mShadeB (h 4 5 1) (h 17 5) (h 33 s (3 * c)) (h 33 s ((3 * c) + 1)) = true))] (fwUc (fwUc h 29 0 (fwFu (h 29 0) m (mMis (mMiP (h 4 5 1) (h 17 5) (h 33 s)) c).1)) 30 0 (fwFu (h 30 0) m (mMis (mMiP (h 4 5 1) (h 17 5) (h 33 s)) c).2)) Q
            have hf1 := fwB_rng (mShadeB (h 4 5 1) (h 17 5) (h 33 s (3 * c)) (h 33 s (3 * c + 1)) = true)
            have hf2 := fwB_rng (h 33 s (3 * c + 2) = 1)
            refine w_iload dX6_countMisses_104 rfl ?_
            refine w_icmp_eq 126 dX6_countMisses_106 (by decide) (by omega) (by omega) (fun c106 => ?_) (fun c106 => ?_)
            · refine w_iinc [some (aR 10 0), some (aI (s : Int)), some (aI (m : Int)), some (aI ((c : Int) + 1)), some (aI (h 33 s (3 * c))), some (aI (h 33 s ((3 * c) + 1))), some (aI (fwB (h 33 s (3 * c + 2) = 1)))] dX6_countMisses_126 rfl rfl (by decide) ?_
              refine w_goto 30 dX6_countMisses_129 (by decide) ?_
              refine w_drop [4, 5, 6] [some (aR 10 0), some (aI (s : Int)), some (aI (m : Int)), some (aI ((c : Int) + 1)), none, none, none] rfl ?_
              refine ih30 (by omega) _ _ ?_ ?_
              · exact (by omega)
              · exact (by rw [mMis, if_neg (show ¬ (mMiP (h 4 5 1) (h 17 5) (h 33 s)) c = true from fun q => (of_decide_eq_true q) (fwB_iff.mp c106))])
            · refine w_aload_n dX6_countMisses_109 rfl ?_
              refine w_getr 29 0 dX6_countMisses_110 fl_X6_9 rfl (by decide) ?_
              refine w_iload_n dX6_countMisses_113 rfl ?_
              refine w_dup2 dX6_countMisses_114 rfl rfl ?_
              refine w_ialdE (v := (mMis (mMiP (h 4 5 1) (h 17 5) (h 33 s)) c).1) dX6_countMisses_115 rfl (by decide) (by omega) (by omega) (by rw [Int.toNat_natCast]; exact if_pos rfl) ?_
              refine w_iconst dX6_countMisses_116 ?_
              refine w_iadd dX6_countMisses_117 ?_
              refine w_iast dX6_countMisses_118 rfl (by decide) (by omega) (by omega) ?_
              refine w_aload_n dX6_countMisses_119 rfl ?_
              refine w_getr 30 0 dX6_countMisses_120 fl_X6_15 rfl (by decide) ?_
              refine w_iload_n dX6_countMisses_123 rfl ?_
              refine w_iload_n dX6_countMisses_124 rfl ?_
              refine w_iast dX6_countMisses_125 rfl (by decide) (by omega) (by omega) ?_
              refine w_iinc [some (aR 10 0), some (aI (s : Int)), some (aI (m : Int)), some (aI ((c : Int) + 1)), some (aI (h 33 s (3 * c))), some (aI (h 33 s ((3 * c) + 1))), some (aI (fwB (h 33 s (3 * c + 2) = 1)))] dX6_countMisses_126 rfl rfl (by decide) ?_
              refine w_goto 30 dX6_countMisses_129 (by decide) ?_
              refine w_drop [4, 5, 6] [some (aR 10 0), some (aI (s : Int)), some (aI (m : Int)), some (aI ((c : Int) + 1)), none, none, none] rfl ?_
              refine ih30 (by omega) _ _ ?_ ?_
              · exact (by omega)
              · exact (by rw [Int.toNat_natCast, fwMis2, mMis, if_pos (show (mMiP (h 4 5 1) (h 17 5) (h 33 s)) c = true from decide_eq_true (fun q => c106 (fwB_iff.mpr q)))])
          refine w_aload_n dX6_countMisses_68 rfl ?_
          refine w_getr 11 0 dX6_countMisses_69 fl_X6_25 rfl (by decide) ?_
          refine w_iload_n dX6_countMisses_72 rfl ?_
          refine w_iconst dX6_countMisses_73 ?_
          refine w_iload_n dX6_countMisses_74 rfl ?_
          refine w_imul dX6_countMisses_75 ?_
          refine w_iconst dX6_countMisses_76 ?_
          refine w_iadd dX6_countMisses_77 ?_
          refine w_callV (d := d + 1) (S := []) [aI (s : Int), aI ((3 * (c : Int)) + 2)] dX6_countMisses_78 ml_X6_82 ok_X8_numberAt vi_X8_numberAt rfl rfl (by decide) rfl (Nat.le_of_ble_eq_true rfl) ?_
          refine c_X8_numberN (d := d) s ((3 * c) + 2) (s : Int) ((3 * (c : Int)) + 2) (by omega) (by omega) (by first | assumption | omega | decide) (by first | assumption | omega | decide) ?_
          show fwWP mX6_countMisses (d + 2) 81 [some (aR 10 0), some (aI (s : Int)), some (aI (m : Int)), some (aI (c : Int)), some (aI (h 33 s (3 * c))), some (aI (h 33 s ((3 * c) + 1))), none] [aJ (h 33 s ((3 * c) + 2))] (fwUc (fwUc h 29 0 (fwFu (h 29 0) m (mMis (mMiP (h 4 5 1) (h 17 5) (h 33 s)) c).1)) 30 0 (fwFu (h 30 0) m (mMis (mMiP (h 4 5 1) (h 17 5) (h 33 s)) c).2)) Q
          have hl7 := (hs s (by omega)).2.2 ((3 * c) + 2) (by omega)
          refine w_lconst (z := 1) dX6_countMisses_81 rfl ?_
          refine w_lc_ne 90 dX6_countMisses_82 dX6_countMisses_83 (by decide) (by omega) (by omega) (fun c83 => ?_) (fun c83 => ?_)
          · refine w_iconst dX6_countMisses_90 ?_
            exact J91 _ (by first | omega | (rw [fwB_t (by omega)]) | (rw [fwB_f (by omega)]))
          · refine w_iconst dX6_countMisses_86 ?_
            refine w_goto 91 dX6_countMisses_87 (by decide) ?_
            exact J91 _ (by first | omega | (rw [fwB_t (by omega)]) | (rw [fwB_f (by omega)]))
      refine lp30 0 (Nat.zero_le _) _ _ ?_ ?_
      · exact (by omega)
      · exact (by rw [Int.toNat_natCast]; exact fwMis1 h m 0 (-1))
    · (exfalso; omega)
/-- the heights with so many FEET more on TOP -/
def mOH (h : fwH) (k : Nat) : Nat → Int := fwFu (h 17 0) (mTop (h 17 0) (h 4 0 4) (h 4 0 1).toNat).toNat (h 17 0 (mTop (h 17 0) (h 4 0 4) (h 4 0 1).toNat).toNat + k)
theorem mOH_0 (h : fwH) : mOH h 0 = h 17 0 := by
  funext s
  unfold mOH fwFu
  split
  · rename_i e; subst e; simp
  · rfl
theorem mOH_up (h : fwH) (k : Nat) : fwFu (mOH h k) (mTop (h 17 0) (h 4 0 4) (h 4 0 1).toNat).toNat (mOH h k (mTop (h 17 0) (h 4 0 4) (h 4 0 1).toNat).toNat + 1) = mOH h (k + 1) := by
  unfold mOH
  rw [fwFu_fu]
  refine congrArg (fwFu (h 17 0) _) ?_
  unfold fwFu
  rw [if_pos rfl]
  omega
theorem mOH_rng {h : fwH} (hM : ∀ c : Nat, c < 10 → 0 ≤ h 17 0 c ∧ h 17 0 c ≤ 900) {k : Nat} (hk : k ≤ 50) (hn : h 4 0 1 ≤ 10) : ∀ c : Nat, c < 10 → 0 ≤ mOH h k c ∧ mOH h k c ≤ 1000 := by
  intro c hc
  have h1 := hM c hc
  unfold mOH fwFu
  split
  · rename_i e
    rw [← e]
    omega
  · omega
def mMs (h : fwH) (s k : Nat) : Int × Int := mMis (mMiP (h 4 0 1) (mOH h k) (h 33 s)) (h 35 0 s / 3).toNat
/-- the FEET more by which all rows of three hold -/
def mPos (h : fwH) (s : Nat) : Nat → Int := mBits (fun k => decide ((mMs h s k).1 = 0))
def ldH (h : fwH) (s c : Nat) : fwH := fwUc (fwUc (fwUc (fwUc (fwUc h 4 5 (h 4 0)) 10 0 (fwFu (fwFu (h 10 0) 6 (h 35 0 s / 3)) 7 (mPos h s c))) 17 5 (mOH h c)) 29 0 (fun k => (mMs h s k).1)) 30 0 (fun k => (mMs h s k).2)
theorem ldE0 (h : fwH) (s : Nat) : (fwUc (fwUc (fwUc h 4 5 (h 4 0)) 10 0 (fwFu (fwFu (h 10 0) 6 (h 35 0 s / 3)) 7 0)) 17 5 (h 17 0)) = (fwUc (fwUc (fwUc (fwUc (fwUc h 4 5 (h 4 0)) 10 0 (fwFu (fwFu (h 10 0) 6 (h 35 0 s / 3)) 7 (mPos h s 0))) 17 5 (h 17 0)) 29 0 (h 29 0)) 30 0 (h 30 0)) := by
  rw [show fwUc (fwUc (fwUc (fwUc h 4 5 (h 4 0)) 10 0 (fwFu (fwFu (h 10 0) 6 (h 35 0 s / 3)) 7 (mPos h s 0))) 17 5 (h 17 0)) 29 0 (h 29 0) = (fwUc (fwUc (fwUc h 4 5 (h 4 0)) 10 0 (fwFu (fwFu (h 10 0) 6 (h 35 0 s / 3)) 7 (mPos h s 0))) 17 5 (h 17 0)) from fwUc_self (fwUc (fwUc (fwUc h 4 5 (h 4 0)) 10 0 (fwFu (fwFu (h 10 0) 6 (h 35 0 s / 3)) 7 (mPos h s 0))) 17 5 (h 17 0)) 29 0]
  exact (fwUc_self (fwUc (fwUc (fwUc h 4 5 (h 4 0)) 10 0 (fwFu (fwFu (h 10 0) 6 (h 35 0 s / 3)) 7 (mPos h s 0))) 17 5 (h 17 0)) 30 0).symm
set_option maxRecDepth 100000 in
set_option maxHeartbeats 4000000 in
theorem c_X6_load {d : Nat} {h : fwH} {Q : Option fwV → fwH → Prop} (s : Nat) (hP : pOk h 0) (hG : gOk h 0) (hn : 1 ≤ h 4 0 1) (hM : ∀ c : Nat, c < 10 → h 17 0 c ≤ 999) (hs : sOk h) (hM9 : ∀ c : Nat, c < 10 → 0 ≤ h 17 0 c ∧ h 17 0 c ≤ 900) (hl : 0 ≤ h 3 0 6 ∧ h 3 0 6 ≤ 1000) (hto : 0 < h 3 0 6) (hsl : s < 4) (hz : 0 ≤ h 35 0 s) (hSi : mSi (h 33 s) (h 35 0 s) (h 4 0 1)) (k : Q (some (aI 0)) (ldH h s 21)) : fwCt mX6_load (d + 4) [aR 10 0, aI (s : Int)] h Q := by
  refine fwCt_of [some (aR 10 0), some (aI (s : Int)), none, none] rfl rfl rfl ?_
  obtain ⟨⟨g1, g2⟩, ⟨g3, g4⟩, ⟨g5, g6⟩, g7, g8⟩ := id hG
  have hss := hs s hsl
  refine w_aload_n dX6_load_0 rfl ?_
  refine w_getr 11 0 dX6_load_1 fl_X6_25 rfl (by decide) ?_
  refine w_iload_n dX6_load_4 rfl ?_
  refine w_callV (d := d + 3) (S := []) [aI (s : Int)] dX6_load_5 ml_X6_33 ok_X8_has vi_X8_has rfl rfl (by decide) rfl (Nat.le_of_ble_eq_true rfl) ?_
  refine c_X8_has (d := (d + 3)) (s : Int) (by first | assumption | omega | decide) ?_
  show fwWP mX6_load (d + 4) 8 [some (aR 10 0), some (aI (s : Int)), none, none] [aI (fwB (0 ≤ (s : Int) ∧ (s : Int) < 4))] h Q
  refine w_ifB_eq 21 dX6_load_8 (by decide) (fun c8 => ?_) (fun c8 => ?_)
  · (exfalso; omega)
  · refine w_aload_n dX6_load_11 rfl ?_
    refine w_getr 3 0 dX6_load_12 fl_X6_21 rfl (by decide) ?_
    refine w_callV (d := d + 3) (S := []) [] dX6_load_15 ml_X6_39 ok_X2_isTold vi_X2_isTold rfl rfl (by decide) rfl (Nat.le_of_ble_eq_true rfl) ?_
    refine c_X2_isTold (d := (d + 3)) (show 0 ≤ h 3 0 6 ∧ h 3 0 6 ≤ 1000 by first | assumption | omega | decide) ?_
    show fwWP mX6_load (d + 4) 18 [some (aR 10 0), some (aI (s : Int)), none, none] [aI (fwB (0 < h 3 0 6))] h Q
    refine w_ifB_ne 24 dX6_load_18 (by decide) (fun c18 => ?_) (fun c18 => ?_)
    · refine w_aload_n dX6_load_24 rfl ?_
      refine w_getr 11 0 dX6_load_25 fl_X6_25 rfl (by decide) ?_
      refine w_iload_n dX6_load_28 rfl ?_
      refine w_callV (d := d + 3) (S := []) [aI (s : Int)] dX6_load_29 ml_X6_45 ok_X8_isLaid vi_X8_isLaid rfl rfl (by decide) rfl (Nat.le_of_ble_eq_true rfl) ?_
      refine c_X8_isLaid (d := (d + 2)) (s : Int) (by first | assumption | omega | decide) (by first | assumption | omega | decide) ?_
      show fwWP mX6_load (d + 4) 32 [some (aR 10 0), some (aI (s : Int)), none, none] [aI (fwB (mSz (h 35 0) (s : Int) ≠ -1))] h Q
      rw [mSz_in (h 35 0) hsl]
      refine w_ifB_ne 38 dX6_load_32 (by decide) (fun c32 => ?_) (fun c32 => ?_)
      · refine w_aload_n dX6_load_38 rfl ?_
        refine w_iload_n dX6_load_39 rfl ?_
        refine w_callV (d := d + 3) (S := []) [aI (s : Int)] dX6_load_40 ml_X6_48 ok_X6_isSighting vi_X6_isSighting rfl rfl (by decide) rfl (Nat.le_of_ble_eq_true rfl) ?_
        refine c_X6_isSighting (d := (d + 1)) s (by first | assumption | omega | decide) (by first | assumption | omega | decide) (by first | assumption | omega | decide) (by first | assumption | omega | decide) ?_
        show fwWP mX6_load (d + 4) 43 [some (aR 10 0), some (aI (s : Int)), none, none] [aI (fwB (mSi (h 33 s) (h 35 0 s) (h 4 0 1)))] h Q
        refine w_ifB_ne 49 dX6_load_43 (by decide) (fun c43 => ?_) (fun c43 => ?_)
        · refine w_aload_n dX6_load_49 rfl ?_
          refine w_aload_n dX6_load_50 rfl ?_
          refine w_getr 11 0 dX6_load_51 fl_X6_25 rfl (by decide) ?_
          refine w_iload_n dX6_load_54 rfl ?_
          refine w_callV (d := d + 3) (S := [aR 10 0]) [aI (s : Int)] dX6_load_55 ml_X6_51 ok_X8_sizeOf vi_X8_sizeOf rfl rfl (by decide) rfl (Nat.le_of_ble_eq_true rfl) ?_
          refine c_X8_sizeOf (d := (d + 3)) (s : Int) (by first | assumption | omega | decide) ?_
          show fwWP mX6_load (d + 4) 58 [some (aR 10 0), some (aI (s : Int)), none, none] [aI (mSz (h 35 0) (s : Int)), aR 10 0] h Q
          have hz5 := mSz_rng hs (s : Int)
          rw [mSz_in (h 35 0) hsl]
          refine w_iconst dX6_load_58 ?_
          refine w_idiv dX6_load_59 (by omega) (by omega) ?_
          rw [fwDiv_nn (x := h 35 0 s) (y := 3) (by omega) (by omega)]
          refine w_puti dX6_load_60 fl_X6_55 fp_10_6 rfl (by decide) ?_
          rw [show (fwUp h 10 0 6 (h 35 0 s / 3)) = (fwUc h 10 0 (fwFu (h 10 0) 6 (h 35 0 s / 3))) from fwUp_fu _ _ _ _ _]
          refine w_aload_n dX6_load_63 rfl ?_
          refine w_iconst dX6_load_64 ?_
          refine w_puti dX6_load_65 fl_X6_59 fp_10_7 rfl (by decide) ?_
          rw [show (fwUp (fwUc h 10 0 (fwFu (h 10 0) 6 (h 35 0 s / 3))) 10 0 7 0) = (fwUc (fwUc h 10 0 (fwFu (h 10 0) 6 (h 35 0 s / 3))) 10 0 (fwFu ((fwFu (h 10 0) 6 (h 35 0 s / 3))) 7 0)) from fwUp_fu _ _ _ _ _]
          rw [show (fwUc (fwUc h 10 0 (fwFu (h 10 0) 6 (h 35 0 s / 3))) 10 0 (fwFu ((fwFu (h 10 0) 6 (h 35 0 s / 3))) 7 0)) = (fwUc h 10 0 (fwFu ((fwFu (h 10 0) 6 (h 35 0 s / 3))) 7 0)) from by funext a b; simp only [fwUc]; (repeat' split); all_goals first | rfl | (exfalso; omega)]
          refine w_aload_n dX6_load_68 rfl ?_
          refine w_getr 4 5 dX6_load_69 fl_X6_29 rfl (by decide) ?_
          refine w_aload_n dX6_load_72 rfl ?_
          refine w_getr 3 0 dX6_load_73 fl_X6_21 rfl (by decide) ?_
          refine w_getr 4 0 dX6_load_76 fl_X6_62 rfl (by decide) ?_
          refine w_callV (d := d + 3) (S := []) [aR 4 0] dX6_load_79 ml_X6_65 ok_X1_copyFrom vi_X1_copyFrom rfl rfl (by decide) rfl (Nat.le_of_ble_eq_true rfl) ?_
          refine c_X1_copyFrom (d := (d + 3)) 5 0 (by decide) (by decide) (by first | assumption | omega | decide) (by first | assumption | omega | decide) ?_
          show fwWP mX6_load (d + 4) 82 [some (aR 10 0), some (aI (s : Int)), none, none] [] (fwUc (fwUc (fwUc h 10 0 (fwFu ((fwFu (h 10 0) 6 (h 35 0 s / 3))) 7 0)) 17 5 (h 17 0)) 4 5 (h 4 0)) Q
          rw [show fwUc (fwUc (fwUc h 10 0 (fwFu ((fwFu (h 10 0) 6 (h 35 0 s / 3))) 7 0)) 17 5 (h 17 0)) 4 5 (h 4 0) = (fwUc (fwUc (fwUc h 4 5 (h 4 0)) 10 0 (fwFu ((fwFu (h 10 0) 6 (h 35 0 s / 3))) 7 0)) 17 5 (h 17 0)) from by funext a b; simp only [fwUc]; (repeat' split); all_goals first | rfl | (exfalso; omega)]
          have hG5 : gOk (fwUc (fwUc (fwUc h 4 5 (h 4 0)) 10 0 (fwFu ((fwFu (h 10 0) 6 (h 35 0 s / 3))) 7 0)) 17 5 (h 17 0)) 5 := ⟨hG.1, hG.2.1, hG.2.2.1, hG.2.2.2.1, hG.2.2.2.2⟩
          have ht := mTop_rng (h 17 0) (h 4 0 4) (h 4 0 1).toNat
          refine w_aload_n dX6_load_82 rfl ?_
          refine w_getr 4 5 dX6_load_83 fl_X6_29 rfl (by decide) ?_
          refine w_callV (d := d + 3) (S := []) [] dX6_load_86 ml_X6_71 ok_X1_topCell vi_X1_topCell rfl rfl (by decide) rfl (Nat.le_of_ble_eq_true rfl) ?_
          refine c_X1_topCell (d := (d + 2)) 5 (by decide) (by first | assumption | omega | decide) ?_
          show fwWP mX6_load (d + 4) 89 [some (aR 10 0), some (aI (s : Int)), none, none] [aI (mTop (h 17 0) ((h 4 0) 4) ((h 4 0) 1).toNat)] (fwUc (fwUc (fwUc h 4 5 (h 4 0)) 10 0 (fwFu ((fwFu (h 10 0) 6 (h 35 0 s / 3))) 7 0)) 17 5 (h 17 0)) Q
          refine w_istore_n [some (aR 10 0), some (aI (s : Int)), some (aI (mTop (h 17 0) ((h 4 0) 4) ((h 4 0) 1).toNat)), none] dX6_load_89 rfl (by decide) ?_
          refine w_iconst dX6_load_90 ?_
          refine w_istore_n [some (aR 10 0), some (aI (s : Int)), some (aI (mTop (h 17 0) ((h 4 0) 4) ((h 4 0) 1).toNat)), some (aI 0)] dX6_load_91 rfl (by decide) ?_
          have lp92 : ∀ c : Nat, c ≤ 21 → ∀ (y92  : Int) (hh92 : fwH), y92 = (c : Int) → hh92 = (fwUc (fwUc (fwUc (fwUc (fwUc h 4 5 (h 4 0)) 10 0 (fwFu (fwFu (h 10 0) 6 (h 35 0 s / 3)) 7 (mPos h s c))) 17 5 (mOH h c)) 29 0 (fwFl (fun k => (mMs h s k).1) (h 29 0) c)) 30 0 (fwFl (fun k => (mMs h s k).2) (h 30 0) c)) → fwWP mX6_load (d + 4) 92 [some (aR 10 0), some (aI (s : Int)), some (aI (mTop (h 17 0) ((h 4 0) 4) ((h 4 0) 1).toNat)), some (aI y92)] [] hh92 Q := by
            refine fw_up (fun c hc92 ih92 => ?_)
            intro y92  hh92 ey92 eh92
            subst ey92
            subst eh92
            show fwWP mX6_load (d + 4) 92 [some (aR 10 0), some (aI (s : Int)), some (aI (mTop (h 17 0) ((h 4 0) 4) ((h 4 0) 1).toNat)), some (aI (c : Int))] [] (fwUc (fwUc (fwUc (fwUc (fwUc h 4 5 (h 4 0)) 10 0 (fwFu (fwFu (h 10 0) 6 (h 35 0 s / 3)) 7 (mPos h s c))) 17 5 (mOH h c)) 29 0 (fwFl (fun k => (mMs h s k).1) (h 29 0) c)) 30 0 (fwFl (fun k => (mMs h s k).2) (h 30 0) c)) Q
            refine w_iload_n dX6_load_92 rfl ?_
            refine w_bipush dX6_load_93 rfl ?_
            refine w_icmp_gt 140 dX6_load_95 (by decide) (by omega) (by omega) (fun c95 => ?_) (fun c95 => ?_)
            · have ec92 : 21 = c := by omega
              subst ec92
              refine w_iconst dX6_load_140 ?_
              refine w_heq (ldH h s 21) ?_ ?_
              · exact fwE.tr (fwE.uc (fwFl_all (by decide)) 30 0 _) (fwFl_all (by decide))
              · exact w_iret dX6_load_141 rfl k
            · have hor := mOH_rng hM9 (k := c) (by omega) g2
              have hG6 : gOk (fwUc (fwUc (fwUc (fwUc (fwUc h 4 5 (h 4 0)) 10 0 (fwFu (fwFu (h 10 0) 6 (h 35 0 s / 3)) 7 (mPos h s c))) 17 5 (mOH h c)) 29 0 (fwFl (fun k => (mMs h s k).1) (h 29 0) c)) 30 0 (fwFl (fun k => (mMs h s k).2) (h 30 0) c)) 5 := ⟨hG.1, hG.2.1, hG.2.2.1, hG.2.2.2.1, hor⟩
              refine w_aload_n dX6_load_98 rfl ?_
              refine w_iload_n dX6_load_99 rfl ?_
              refine w_iload_n dX6_load_100 rfl ?_
              refine w_callV (d := d + 3) (S := []) [aI (s : Int), aI (c : Int)] dX6_load_101 ml_X6_75 ok_X6_countMisses vi_X6_countMisses rfl rfl (by decide) rfl (Nat.le_of_ble_eq_true rfl) ?_
              refine c_X6_countMisses (d := (d + 1)) s c (by first | assumption | omega | decide) (by first | assumption | omega | decide) (by first | assumption | omega | decide) (by omega) (show 0 ≤ h 35 0 s / 3 ∧ h 35 0 s / 3 ≤ 20 by omega) hSi.2 ?_
              show fwWP mX6_load (d + 4) 104 [some (aR 10 0), some (aI (s : Int)), some (aI (mTop (h 17 0) ((h 4 0) 4) ((h 4 0) 1).toNat)), some (aI (c : Int))] [] (fwUc (fwUc (fwUc (fwUc (fwUc (fwUc (fwUc h 4 5 (h 4 0)) 10 0 (fwFu (fwFu (h 10 0) 6 (h 35 0 s / 3)) 7 (mPos h s c))) 17 5 (mOH h c)) 29 0 (fwFl (fun k => (mMs h s k).1) (h 29 0) c)) 30 0 (fwFl (fun k => (mMs h s k).2) (h 30 0) c)) 29 0 (fwFu (fwFl (fun k => (mMs h s k).1) (h 29 0) c) c (mMs h s c).1)) 30 0 (fwFu (fwFl (fun k => (mMs h s k).2) (h 30 0) c) c (mMs h s c).2)) Q
              rw [show fwUc (fwUc (fwUc (fwUc (fwUc (fwUc (fwUc h 4 5 (h 4 0)) 10 0 (fwFu (fwFu (h 10 0) 6 (h 35 0 s / 3)) 7 (mPos h s c))) 17 5 (mOH h c)) 29 0 (fwFl (fun k => (mMs h s k).1) (h 29 0) c)) 30 0 (fwFl (fun k => (mMs h s k).2) (h 30 0) c)) 29 0 (fwFu (fwFl (fun k => (mMs h s k).1) (h 29 0) c) c (mMs h s c).1)) 30 0 (fwFu (fwFl (fun k => (mMs h s k).2) (h 30 0) c) c (mMs h s c).2) = (fwUc (fwUc (fwUc (fwUc (fwUc h 4 5 (h 4 0)) 10 0 (fwFu (fwFu (h 10 0) 6 (h 35 0 s / 3)) 7 (mPos h s c))) 17 5 (mOH h c)) 29 0 (fwFu (fwFl (fun k => (mMs h s k).1) (h 29 0) c) c (mMs h s c).1)) 30 0 (fwFu (fwFl (fun k => (mMs h s k).2) (h 30 0) c) c (mMs h s c).2)) from by funext a b; simp only [fwUc]; (repeat' split); all_goals first | rfl | (exfalso; omega)]
              rw [fwFl_succ (fun k => (mMs h s k).1) (h 29 0) c, fwFl_succ (fun k => (mMs h s k).2) (h 30 0) c]
              have hmr := mMis_rng (mMiP (h 4 0 1) (mOH h c) (h 33 s)) (h 35 0 s / 3).toNat
              have hmr2 : 0 ≤ (mMs h s c).1 ∧ (mMs h s c).1 ≤ 20 := by have e : (mMs h s c).1 = (mMis (mMiP (h 4 0 1) (mOH h c) (h 33 s)) (h 35 0 s / 3).toNat).1 := rfl; omega
              refine w_aload_n dX6_load_104 rfl ?_
              refine w_getr 29 0 dX6_load_105 fl_X6_9 rfl (by decide) ?_
              refine w_iload_n dX6_load_108 rfl ?_
              refine w_ialdE (v := (mMs h s c).1) dX6_load_109 rfl (by decide) (by omega) (by omega) (by rw [Int.toNat_natCast]; exact fwFl_lt (g := fun k => (mMs h s k).1) (f := h 29 0) (c := c + 1) (s := c) (by omega)) ?_
              refine w_if_ne 125 dX6_load_110 (by decide) (by omega) (fun c110 => ?_) (fun c110 => ?_)
              · rw [show mPos h s c = mPos h s (c + 1) from by unfold mPos; rw [mBits, if_neg (fun q => c110 (of_decide_eq_true q))]]
                have hG7 : gOk (fwUc (fwUc (fwUc (fwUc (fwUc h 4 5 (h 4 0)) 10 0 (fwFu (fwFu (h 10 0) 6 (h 35 0 s / 3)) 7 (mPos h s (c + 1)))) 17 5 (mOH h c)) 29 0 (fwFl (fun k => (mMs h s k).1) (h 29 0) (c + 1))) 30 0 (fwFl (fun k => (mMs h s k).2) (h 30 0) (c + 1))) 5 := ⟨hG.1, hG.2.1, hG.2.2.1, hG.2.2.2.1, hor⟩
                refine w_aload_n dX6_load_125 rfl ?_
                refine w_getr 4 5 dX6_load_126 fl_X6_29 rfl (by decide) ?_
                refine w_iload_n dX6_load_129 rfl ?_
                refine w_iconst dX6_load_130 ?_
                refine w_callV (d := d + 3) (S := []) [aI (mTop (h 17 0) ((h 4 0) 4) ((h 4 0) 1).toNat), aI 1] dX6_load_131 ml_X6_79 ok_X1_change vi_X1_change rfl rfl (by decide) rfl (Nat.le_of_ble_eq_true rfl) ?_
                refine c_X1_changeE (d := (d + 2)) 5 (mTop (h 17 0) ((h 4 0) 4) ((h 4 0) 1).toNat) 1 (by decide) (by first | assumption | omega | decide) (by first | assumption | omega | decide) (show mTop (h 17 0) ((h 4 0) 4) ((h 4 0) 1).toNat < (h 4 0) 1 by first | assumption | omega | decide) ?_
                show fwWP mX6_load (d + 4) 134 [some (aR 10 0), some (aI (s : Int)), some (aI (mTop (h 17 0) ((h 4 0) 4) ((h 4 0) 1).toNat)), some (aI (c : Int))] [] (fwUc (fwUc (fwUc (fwUc (fwUc (fwUc h 4 5 (h 4 0)) 10 0 (fwFu (fwFu (h 10 0) 6 (h 35 0 s / 3)) 7 (mPos h s (c + 1)))) 17 5 (mOH h c)) 29 0 (fwFl (fun k => (mMs h s k).1) (h 29 0) (c + 1))) 30 0 (fwFl (fun k => (mMs h s k).2) (h 30 0) (c + 1))) 17 5 (fwFu ((mOH h c)) (mTop (h 17 0) ((h 4 0) 4) ((h 4 0) 1).toNat).toNat ((mOH h c) (mTop (h 17 0) ((h 4 0) 4) ((h 4 0) 1).toNat).toNat + 1))) Q
                rw [show fwUc (fwUc (fwUc (fwUc (fwUc (fwUc h 4 5 (h 4 0)) 10 0 (fwFu (fwFu (h 10 0) 6 (h 35 0 s / 3)) 7 (mPos h s (c + 1)))) 17 5 (mOH h c)) 29 0 (fwFl (fun k => (mMs h s k).1) (h 29 0) (c + 1))) 30 0 (fwFl (fun k => (mMs h s k).2) (h 30 0) (c + 1))) 17 5 (fwFu ((mOH h c)) (mTop (h 17 0) ((h 4 0) 4) ((h 4 0) 1).toNat).toNat ((mOH h c) (mTop (h 17 0) ((h 4 0) 4) ((h 4 0) 1).toNat).toNat + 1)) = (fwUc (fwUc (fwUc (fwUc (fwUc h 4 5 (h 4 0)) 10 0 (fwFu (fwFu (h 10 0) 6 (h 35 0 s / 3)) 7 (mPos h s (c + 1)))) 17 5 (fwFu ((mOH h c)) (mTop (h 17 0) ((h 4 0) 4) ((h 4 0) 1).toNat).toNat ((mOH h c) (mTop (h 17 0) ((h 4 0) 4) ((h 4 0) 1).toNat).toNat + 1))) 29 0 (fwFl (fun k => (mMs h s k).1) (h 29 0) (c + 1))) 30 0 (fwFl (fun k => (mMs h s k).2) (h 30 0) (c + 1))) from by funext a b; simp only [fwUc]; (repeat' split); all_goals first | rfl | (exfalso; omega)]
                rw [mOH_up]
                refine w_iinc [some (aR 10 0), some (aI (s : Int)), some (aI (mTop (h 17 0) ((h 4 0) 4) ((h 4 0) 1).toNat)), some (aI ((c : Int) + 1))] dX6_load_134 rfl rfl (by decide) ?_
                refine w_goto 92 dX6_load_137 (by decide) ?_
                refine ih92 (by omega) _ _ ?_ ?_
                · exact (by omega)
                · exact rfl
              · refine w_aload_n dX6_load_113 rfl ?_
                refine w_dup dX6_load_114 rfl ?_
                refine w_getiE (v := mPos h s c) dX6_load_115 fl_X6_59 rfl (by decide) rfl ?_
                refine w_iconst dX6_load_118 ?_
                refine w_iload_n dX6_load_119 rfl ?_
                refine w_ishl dX6_load_120 ?_
                refine w_ior dX6_load_121 ?_
                refine w_puti dX6_load_122 fl_X6_59 fp_10_7 rfl (by decide) ?_
                rw [show (fwUp (fwUc (fwUc (fwUc (fwUc (fwUc h 4 5 (h 4 0)) 10 0 (fwFu (fwFu (h 10 0) 6 (h 35 0 s / 3)) 7 (mPos h s c))) 17 5 (mOH h c)) 29 0 (fwFl (fun k => (mMs h s k).1) (h 29 0) (c + 1))) 30 0 (fwFl (fun k => (mMs h s k).2) (h 30 0) (c + 1))) 10 0 7 (fwOr (mPos h s c) (fwShl 1 (c : Int)))) = (fwUc (fwUc (fwUc (fwUc (fwUc (fwUc h 4 5 (h 4 0)) 10 0 (fwFu (fwFu (h 10 0) 6 (h 35 0 s / 3)) 7 (mPos h s c))) 17 5 (mOH h c)) 29 0 (fwFl (fun k => (mMs h s k).1) (h 29 0) (c + 1))) 30 0 (fwFl (fun k => (mMs h s k).2) (h 30 0) (c + 1))) 10 0 (fwFu ((fwFu (fwFu (h 10 0) 6 (h 35 0 s / 3)) 7 (mPos h s c))) 7 (fwOr (mPos h s c) (fwShl 1 (c : Int))))) from fwUp_fu _ _ _ _ _]
                rw [show (fwUc (fwUc (fwUc (fwUc (fwUc (fwUc h 4 5 (h 4 0)) 10 0 (fwFu (fwFu (h 10 0) 6 (h 35 0 s / 3)) 7 (mPos h s c))) 17 5 (mOH h c)) 29 0 (fwFl (fun k => (mMs h s k).1) (h 29 0) (c + 1))) 30 0 (fwFl (fun k => (mMs h s k).2) (h 30 0) (c + 1))) 10 0 (fwFu ((fwFu (fwFu (h 10 0) 6 (h 35 0 s / 3)) 7 (mPos h s c))) 7 (fwOr (mPos h s c) (fwShl 1 (c : Int))))) = (fwUc (fwUc (fwUc (fwUc (fwUc h 4 5 (h 4 0)) 10 0 (fwFu ((fwFu (fwFu (h 10 0) 6 (h 35 0 s / 3)) 7 (mPos h s c))) 7 (fwOr (mPos h s c) (fwShl 1 (c : Int))))) 17 5 (mOH h c)) 29 0 (fwFl (fun k => (mMs h s k).1) (h 29 0) (c + 1))) 30 0 (fwFl (fun k => (mMs h s k).2) (h 30 0) (c + 1))) from by funext a b; simp only [fwUc]; (repeat' split); all_goals first | rfl | (exfalso; omega)]
                rw [fwFu_fu]
                rw [show fwOr (mPos h s c) (fwShl 1 (c : Int)) = mPos h s (c + 1) from by unfold mPos; rw [mBits, if_pos (decide_eq_true c110)]]
                have hG7 : gOk (fwUc (fwUc (fwUc (fwUc (fwUc h 4 5 (h 4 0)) 10 0 (fwFu (fwFu (h 10 0) 6 (h 35 0 s / 3)) 7 (mPos h s (c + 1)))) 17 5 (mOH h c)) 29 0 (fwFl (fun k => (mMs h s k).1) (h 29 0) (c + 1))) 30 0 (fwFl (fun k => (mMs h s k).2) (h 30 0) (c + 1))) 5 := ⟨hG.1, hG.2.1, hG.2.2.1, hG.2.2.2.1, hor⟩
                refine w_aload_n dX6_load_125 rfl ?_
                refine w_getr 4 5 dX6_load_126 fl_X6_29 rfl (by decide) ?_
                refine w_iload_n dX6_load_129 rfl ?_
                refine w_iconst dX6_load_130 ?_
                refine w_callV (d := d + 3) (S := []) [aI (mTop (h 17 0) ((h 4 0) 4) ((h 4 0) 1).toNat), aI 1] dX6_load_131 ml_X6_79 ok_X1_change vi_X1_change rfl rfl (by decide) rfl (Nat.le_of_ble_eq_true rfl) ?_
                refine c_X1_changeE (d := (d + 2)) 5 (mTop (h 17 0) ((h 4 0) 4) ((h 4 0) 1).toNat) 1 (by decide) (by first | assumption | omega | decide) (by first | assumption | omega | decide) (show mTop (h 17 0) ((h 4 0) 4) ((h 4 0) 1).toNat < (h 4 0) 1 by first | assumption | omega | decide) ?_
                show fwWP mX6_load (d + 4) 134 [some (aR 10 0), some (aI (s : Int)), some (aI (mTop (h 17 0) ((h 4 0) 4) ((h 4 0) 1).toNat)), some (aI (c : Int))] [] (fwUc (fwUc (fwUc (fwUc (fwUc (fwUc h 4 5 (h 4 0)) 10 0 (fwFu (fwFu (h 10 0) 6 (h 35 0 s / 3)) 7 (mPos h s (c + 1)))) 17 5 (mOH h c)) 29 0 (fwFl (fun k => (mMs h s k).1) (h 29 0) (c + 1))) 30 0 (fwFl (fun k => (mMs h s k).2) (h 30 0) (c + 1))) 17 5 (fwFu ((mOH h c)) (mTop (h 17 0) ((h 4 0) 4) ((h 4 0) 1).toNat).toNat ((mOH h c) (mTop (h 17 0) ((h 4 0) 4) ((h 4 0) 1).toNat).toNat + 1))) Q
                rw [show fwUc (fwUc (fwUc (fwUc (fwUc (fwUc h 4 5 (h 4 0)) 10 0 (fwFu (fwFu (h 10 0) 6 (h 35 0 s / 3)) 7 (mPos h s (c + 1)))) 17 5 (mOH h c)) 29 0 (fwFl (fun k => (mMs h s k).1) (h 29 0) (c + 1))) 30 0 (fwFl (fun k => (mMs h s k).2) (h 30 0) (c + 1))) 17 5 (fwFu ((mOH h c)) (mTop (h 17 0) ((h 4 0) 4) ((h 4 0) 1).toNat).toNat ((mOH h c) (mTop (h 17 0) ((h 4 0) 4) ((h 4 0) 1).toNat).toNat + 1)) = (fwUc (fwUc (fwUc (fwUc (fwUc h 4 5 (h 4 0)) 10 0 (fwFu (fwFu (h 10 0) 6 (h 35 0 s / 3)) 7 (mPos h s (c + 1)))) 17 5 (fwFu ((mOH h c)) (mTop (h 17 0) ((h 4 0) 4) ((h 4 0) 1).toNat).toNat ((mOH h c) (mTop (h 17 0) ((h 4 0) 4) ((h 4 0) 1).toNat).toNat + 1))) 29 0 (fwFl (fun k => (mMs h s k).1) (h 29 0) (c + 1))) 30 0 (fwFl (fun k => (mMs h s k).2) (h 30 0) (c + 1))) from by funext a b; simp only [fwUc]; (repeat' split); all_goals first | rfl | (exfalso; omega)]
                rw [mOH_up]
                refine w_iinc [some (aR 10 0), some (aI (s : Int)), some (aI (mTop (h 17 0) ((h 4 0) 4) ((h 4 0) 1).toNat)), some (aI ((c : Int) + 1))] dX6_load_134 rfl rfl (by decide) ?_
                refine w_goto 92 dX6_load_137 (by decide) ?_
                refine ih92 (by omega) _ _ ?_ ?_
                · exact (by omega)
                · exact rfl
          refine lp92 0 (Nat.zero_le _) _ _ ?_ ?_
          · exact (by omega)
          · exact (by rw [fwFl_0, fwFl_0, mOH_0]; exact ldE0 h s)
        · (exact absurd hSi c43)
      · (exfalso; omega)
    · (exfalso; omega)
def mLdR (h : fwH) (x : Int) : Int := if (0 ≤ x ∧ x < 4) ∧ 0 < h 3 0 6 ∧ h 35 0 x.toNat = -1 then -6 else -2
theorem c_sightX {d : Nat} {h : fwH} {Q : Option fwV → fwH → Prop} (x : Int) (hx : 0 ≤ x ∧ x < 4) (hG : gOk h 0) (hs : sOk h) (hz : 0 ≤ h 35 0 x.toNat) (k : Q (some (aI (fwB (mSi (h 33 x.toNat) (h 35 0 x.toNat) (h 4 0 1))))) h) : fwCt mX6_isSighting (d + 2) [aR 10 0, aI x] h Q := by
  obtain ⟨n, rfl⟩ : ∃ n : Nat, x = n := ⟨x.toNat, by omega⟩
  exact c_X6_isSighting n hG hs (by omega) hz k
set_option maxRecDepth 100000 in
set_option maxHeartbeats 4000000 in
theorem c_X6_loadNo {d : Nat} {h : fwH} {Q : Option fwV → fwH → Prop} (x : Int) (hG : gOk h 0) (hs : sOk h)  (hl : 0 ≤ h 3 0 6 ∧ h 3 0 6 ≤ 1000) (hx : -2147483648 ≤ x ∧ x < 2147483648) (hno : ¬ ((0 ≤ x ∧ x < 4) ∧ 0 < h 3 0 6 ∧ h 35 0 x.toNat ≠ -1 ∧ mSi (h 33 x.toNat) (h 35 0 x.toNat) (h 4 0 1))) (k : Q (some (aI (mLdR h x))) h) : fwCt mX6_load (d + 4) [aR 10 0, aI x] h Q := by
  refine fwCt_of [some (aR 10 0), some (aI x), none, none] rfl rfl rfl ?_
  refine w_aload_n dX6_load_0 rfl ?_
  refine w_getr 11 0 dX6_load_1 fl_X6_25 rfl (by decide) ?_
  refine w_iload_n dX6_load_4 rfl ?_
  refine w_callV (d := d + 3) (S := []) [aI x] dX6_load_5 ml_X6_33 ok_X8_has vi_X8_has rfl rfl (by decide) rfl (Nat.le_of_ble_eq_true rfl) ?_
  refine c_X8_has (d := (d + 3)) x (by first | assumption | omega | decide) ?_
  show fwWP mX6_load (d + 4) 8 [some (aR 10 0), some (aI x), none, none] [aI (fwB (0 ≤ x ∧ x < 4))] h Q
  refine w_ifB_eq 21 dX6_load_8 (by decide) (fun c8 => ?_) (fun c8 => ?_)
  · refine w_bipush dX6_load_21 rfl ?_
    exact w_iretE dX6_load_23 rfl (by rw [mLdR]; first | rw [if_pos (by omega)] | rw [if_neg (by omega)]) k
  · refine w_aload_n dX6_load_11 rfl ?_
    refine w_getr 3 0 dX6_load_12 fl_X6_21 rfl (by decide) ?_
    refine w_callV (d := d + 3) (S := []) [] dX6_load_15 ml_X6_39 ok_X2_isTold vi_X2_isTold rfl rfl (by decide) rfl (Nat.le_of_ble_eq_true rfl) ?_
    refine c_X2_isTold (d := (d + 3)) (show 0 ≤ h 3 0 6 ∧ h 3 0 6 ≤ 1000 by first | assumption | omega | decide) ?_
    show fwWP mX6_load (d + 4) 18 [some (aR 10 0), some (aI x), none, none] [aI (fwB (0 < h 3 0 6))] h Q
    refine w_ifB_ne 24 dX6_load_18 (by decide) (fun c18 => ?_) (fun c18 => ?_)
    · refine w_aload_n dX6_load_24 rfl ?_
      refine w_getr 11 0 dX6_load_25 fl_X6_25 rfl (by decide) ?_
      refine w_iload_n dX6_load_28 rfl ?_
      refine w_callV (d := d + 3) (S := []) [aI x] dX6_load_29 ml_X6_45 ok_X8_isLaid vi_X8_isLaid rfl rfl (by decide) rfl (Nat.le_of_ble_eq_true rfl) ?_
      refine c_X8_isLaid (d := (d + 2)) x (by first | assumption | omega | decide) (by first | assumption | omega | decide) ?_
      show fwWP mX6_load (d + 4) 32 [some (aR 10 0), some (aI x), none, none] [aI (fwB (mSz (h 35 0) x ≠ -1))] h Q
      have ez : mSz (h 35 0) x = h 35 0 x.toNat := by unfold mSz; rw [if_pos (by omega)]
      have hzr := (hs x.toNat (by omega)).1
      rw [ez]
      refine w_ifB_ne 38 dX6_load_32 (by decide) (fun c32 => ?_) (fun c32 => ?_)
      · refine w_aload_n dX6_load_38 rfl ?_
        refine w_iload_n dX6_load_39 rfl ?_
        refine w_callV (d := d + 3) (S := []) [aI x] dX6_load_40 ml_X6_48 ok_X6_isSighting vi_X6_isSighting rfl rfl (by decide) rfl (Nat.le_of_ble_eq_true rfl) ?_
        refine c_sightX (d := (d + 1)) x (by omega) (by first | assumption | omega | decide) (by first | assumption | omega | decide) (by omega) ?_
        show fwWP mX6_load (d + 4) 43 [some (aR 10 0), some (aI x), none, none] [aI (fwB (mSi (h 33 x.toNat) (h 35 0 x.toNat) (h 4 0 1)))] h Q
        refine w_ifB_ne 49 dX6_load_43 (by decide) (fun c43 => ?_) (fun c43 => ?_)
        · (exact absurd ⟨by omega, by omega, c32, c43⟩ hno)
        · refine w_bipush dX6_load_46 rfl ?_
          exact w_iretE dX6_load_48 rfl (by rw [mLdR]; first | rw [if_pos (by omega)] | rw [if_neg (by omega)]) k
      · refine w_bipush dX6_load_35 rfl ?_
        exact w_iretE dX6_load_37 rfl (by rw [mLdR]; first | rw [if_pos (by omega)] | rw [if_neg (by omega)]) k
    · refine w_bipush dX6_load_21 rfl ?_
      exact w_iretE dX6_load_23 rfl (by rw [mLdR]; first | rw [if_pos (by omega)] | rw [if_neg (by omega)]) k
def mAdd (f : Nat → Int) (a m : Nat) : Nat → Int := fun s => if a < s ∧ s ≤ a + m then f s + 1 else f s
theorem mAdd_0 (f : Nat → Int) (a : Nat) : mAdd f a 0 = f := by
  funext s
  unfold mAdd
  rw [if_neg (by omega)]
theorem mAdd_up (f : Nat → Int) (a m : Nat) : fwFu (mAdd f a m) (a + 1 + m) (mAdd f a m (a + 1 + m) + 1) = mAdd f a (m + 1) := by
  funext s
  unfold fwFu
  by_cases e : s = a + 1 + m
  · subst e
    rw [if_pos rfl]
    unfold mAdd
    rw [if_neg (by omega), if_pos (by omega)]
  · rw [if_neg e]
    unfold mAdd
    by_cases q : a < s ∧ s ≤ a + m
    · rw [if_pos q, if_pos (by omega)]
    · rw [if_neg q, if_neg (by omega)]
set_option maxRecDepth 100000 in
set_option maxHeartbeats 4000000 in
theorem c_X6_addShaded {d : Nat} {h : fwH} {Q : Option fwV → fwH → Prop} (m a : Nat) (hm : a + m < 19) (k : Q none (fwUc h 31 0 (mAdd (h 31 0) a m))) : fwCt mX6_addShaded (d + 0) [aR 10 0, aI (m : Int), aI (a : Int)] h Q := by
  refine fwCt_of [some (aR 10 0), some (aI (m : Int)), some (aI (a : Int)), none] rfl rfl rfl ?_
  refine w_iload_n dX6_addShaded_0 rfl ?_
  refine w_iconst dX6_addShaded_1 ?_
  refine w_iadd dX6_addShaded_2 ?_
  refine w_istore_n [some (aR 10 0), some (aI (m : Int)), some (aI (a : Int)), some (aI ((a : Int) + 1))] dX6_addShaded_3 rfl (by decide) ?_
  have lp4 : ∀ c : Nat, c ≤ m → ∀ (y4  : Int) (hh4 : fwH), y4 = (a : Int) + 1 + (c : Int) → hh4 = (fwUc h 31 0 (mAdd (h 31 0) a c)) → fwWP mX6_addShaded (d + 0) 4 [some (aR 10 0), some (aI (m : Int)), some (aI (a : Int)), some (aI y4)] [] hh4 Q := by
    refine fw_up (fun c hc4 ih4 => ?_)
    intro y4  hh4 ey4 eh4
    subst ey4
    subst eh4
    show fwWP mX6_addShaded (d + 0) 4 [some (aR 10 0), some (aI (m : Int)), some (aI (a : Int)), some (aI ((a : Int) + 1 + (c : Int)))] [] (fwUc h 31 0 (mAdd (h 31 0) a c)) Q
    refine w_iload_n dX6_addShaded_4 rfl ?_
    refine w_iload_n dX6_addShaded_5 rfl ?_
    refine w_iload_n dX6_addShaded_6 rfl ?_
    refine w_iadd dX6_addShaded_7 ?_
    refine w_icmp_gt 40 dX6_addShaded_8 (by decide) (by omega) (by omega) (fun c8 => ?_) (fun c8 => ?_)
    · have ec4 : m = c := by omega
      subst ec4
      exact w_vret dX6_addShaded_40 rfl (k)
    · refine w_iload_n dX6_addShaded_11 rfl ?_
      refine w_if_lt 34 dX6_addShaded_12 (by decide) (by omega) (fun c12 => ?_) (fun c12 => ?_)
      · (exfalso; omega)
      · refine w_iload_n dX6_addShaded_15 rfl ?_
        refine w_aload_n dX6_addShaded_16 rfl ?_
        refine w_getr 31 0 dX6_addShaded_17 fl_X6_18 rfl (by decide) ?_
        refine w_alen dX6_addShaded_20 rfl (by decide) (by decide) ?_
        refine w_icmp_ge 34 dX6_addShaded_21 (by decide) (by omega) (by omega) (fun c21 => ?_) (fun c21 => ?_)
        · (exfalso; omega)
        · refine w_aload_n dX6_addShaded_24 rfl ?_
          refine w_getr 31 0 dX6_addShaded_25 fl_X6_18 rfl (by decide) ?_
          refine w_iload_n dX6_addShaded_28 rfl ?_
          refine w_dup2 dX6_addShaded_29 rfl rfl ?_
          refine w_ialdE (v := mAdd (h 31 0) a c (a + 1 + c)) dX6_addShaded_30 rfl (by decide) (by omega) (by omega) (by rw [show ((a : Int) + 1 + (c : Int)).toNat = a + 1 + c by omega, fwUc_at]) ?_
          refine w_iconst dX6_addShaded_31 ?_
          refine w_iadd dX6_addShaded_32 ?_
          refine w_iast dX6_addShaded_33 rfl (by decide) (by omega) (by omega) ?_
          refine w_iinc [some (aR 10 0), some (aI (m : Int)), some (aI (a : Int)), some (aI (((a : Int) + 1 + (c : Int)) + 1))] dX6_addShaded_34 rfl rfl (by decide) ?_
          refine w_goto 4 dX6_addShaded_37 (by decide) ?_
          refine ih4 (by omega) _ _ ?_ ?_
          · exact (by omega)
          · exact (by rw [fwUp_uc, show ((a : Int) + 1 + (c : Int)).toNat = a + 1 + c by omega, mAdd_up])
  refine lp4 0 (Nat.zero_le _) _ _ ?_ ?_
  · exact (by omega)
  · exact (by rw [mAdd_0, fwUc_self])
theorem c_addShX {d : Nat} {h : fwH} {Q : Option fwV → fwH → Prop} (x : Int) (a : Nat) (hx : 0 ≤ x ∧ x ≤ 9) (ha : a ≤ 9) (k : Q none (fwUc h 31 0 (mAdd (h 31 0) a x.toNat))) : fwCt mX6_addShaded d [aR 10 0, aI x, aI (a : Int)] h Q := by
  obtain ⟨n, rfl⟩ : ∃ n : Nat, x = n := ⟨x.toNat, by omega⟩
  exact c_X6_addShaded n a (by omega) k
/-- by how many of the first k (of the set x) the CELL c is in SHADE, for each HOUR's number -/
def mDk (h : fwH) (p : Int) (x : Nat) : Nat → (Nat → Int)
  | 0 => fun _ => 0
  | k + 1 => if fwAnd (fwShr p k) 1 = 1 then mAdd (mAdd (mDk h p x k) 0 (mSh (h 4 0 1) (mOH h k) (x : Int) (-1)).toNat) 9 (mSh (h 4 0 1) (mOH h k) (x : Int) 1).toNat else mDk h p x k
theorem mDk_rng (h : fwH) (p : Int) (x : Nat) (s : Nat) : ∀ k : Nat, 0 ≤ mDk h p x k s ∧ mDk h p x k s ≤ 2 * k := by
  intro k
  induction k with
  | zero => simp [mDk]
  | succ k ih =>
    rw [mDk]
    split
    · unfold mAdd
      split <;> split <;> omega
    · omega
set_option maxRecDepth 100000 in
set_option maxHeartbeats 4000000 in
theorem c_X6_countShaded {d : Nat} {h : fwH} {Q : Option fwV → fwH → Prop} (x : Nat) (hP : pOk h 0) (hG : gOk h 0) (hn : 1 ≤ h 4 0 1) (hM : ∀ c : Nat, c < 10 → h 17 0 c ≤ 999) (hM9 : ∀ c : Nat, c < 10 → 0 ≤ h 17 0 c ∧ h 17 0 c ≤ 900) (hx : (x : Int) < h 4 0 1) (k : Q none (fwUc (fwUc (fwUc h 4 5 (h 4 0)) 17 5 (mOH h 21)) 31 0 (mDk h (h 10 0 7) x 21))) : fwCt mX6_countShaded (d + 2) [aR 10 0, aI (x : Int)] h Q := by
  refine fwCt_of [some (aR 10 0), some (aI (x : Int)), none, none] rfl rfl rfl ?_
  obtain ⟨⟨g1, g2⟩, ⟨g3, g4⟩, ⟨g5, g6⟩, g7, g8⟩ := id hG
  refine w_iconst dX6_countShaded_0 ?_
  refine w_istore_n [some (aR 10 0), some (aI (x : Int)), some (aI 0), none] dX6_countShaded_1 rfl (by decide) ?_
  have lp2 : ∀ c : Nat, c ≤ 19 → ∀ (y2  : Int) (hh2 : fwH), y2 = (c : Int) → hh2 = (fwUc h 31 0 (fwFl (fun _ => 0) (h 31 0) c)) → fwWP mX6_countShaded (d + 2) 2 [some (aR 10 0), some (aI (x : Int)), some (aI y2), none] [] hh2 Q := by
    refine fw_up (fun c hc2 ih2 => ?_)
    intro y2  hh2 ey2 eh2
    subst ey2
    subst eh2
    show fwWP mX6_countShaded (d + 2) 2 [some (aR 10 0), some (aI (x : Int)), some (aI (c : Int)), none] [] (fwUc h 31 0 (fwFl (fun _ => 0) (h 31 0) c)) Q
    refine w_iload_n dX6_countShaded_2 rfl ?_
    refine w_aload_n dX6_countShaded_3 rfl ?_
    refine w_getr 31 0 dX6_countShaded_4 fl_X6_18 rfl (by decide) ?_
    refine w_alen dX6_countShaded_7 rfl (by decide) (by decide) ?_
    refine w_icmp_ge 24 dX6_countShaded_8 (by decide) (by omega) (by omega) (fun c8 => ?_) (fun c8 => ?_)
    · have ec2 : 19 = c := by omega
      subst ec2
      refine w_heq (fwUc h 31 0 (fun _ => 0)) (fwFl_all (by decide)) ?_
      refine w_aload_n dX6_countShaded_24 rfl ?_
      refine w_getr 4 5 dX6_countShaded_25 fl_X6_29 rfl (by decide) ?_
      refine w_aload_n dX6_countShaded_28 rfl ?_
      refine w_getr 3 0 dX6_countShaded_29 fl_X6_21 rfl (by decide) ?_
      refine w_getr 4 0 dX6_countShaded_32 fl_X6_62 rfl (by decide) ?_
      refine w_callV (d := d + 1) (S := []) [aR 4 0] dX6_countShaded_35 ml_X6_65 ok_X1_copyFrom vi_X1_copyFrom rfl rfl (by decide) rfl (Nat.le_of_ble_eq_true rfl) ?_
      refine c_X1_copyFrom (d := (d + 1)) 5 0 (by decide) (by decide) (by first | assumption | omega | decide) (by first | assumption | omega | decide) ?_
      show fwWP mX6_countShaded (d + 2) 38 [some (aR 10 0), some (aI (x : Int)), some (aI ((19 : Nat) : Int)), none] [] (fwUc (fwUc (fwUc h 31 0 (fun _ => 0)) 17 5 (h 17 0)) 4 5 (h 4 0)) Q
      rw [show fwUc (fwUc (fwUc h 31 0 (fun _ => 0)) 17 5 (h 17 0)) 4 5 (h 4 0) = (fwUc (fwUc (fwUc h 4 5 (h 4 0)) 17 5 (h 17 0)) 31 0 (fun _ => 0)) from by funext a b; simp only [fwUc]; (repeat' split); all_goals first | rfl | (exfalso; omega)]
      have hG5 : gOk (fwUc (fwUc (fwUc h 4 5 (h 4 0)) 17 5 (h 17 0)) 31 0 (fun _ => 0)) 5 := ⟨hG.1, hG.2.1, hG.2.2.1, hG.2.2.2.1, hG.2.2.2.2⟩
      have ht := mTop_rng (h 17 0) (h 4 0 4) (h 4 0 1).toNat
      refine w_aload_n dX6_countShaded_38 rfl ?_
      refine w_getr 4 5 dX6_countShaded_39 fl_X6_29 rfl (by decide) ?_
      refine w_callV (d := d + 1) (S := []) [] dX6_countShaded_42 ml_X6_71 ok_X1_topCell vi_X1_topCell rfl rfl (by decide) rfl (Nat.le_of_ble_eq_true rfl) ?_
      refine c_X1_topCell (d := d) 5 (by decide) (by first | assumption | omega | decide) ?_
      show fwWP mX6_countShaded (d + 2) 45 [some (aR 10 0), some (aI (x : Int)), some (aI ((19 : Nat) : Int)), none] [aI (mTop (h 17 0) ((h 4 0) 4) ((h 4 0) 1).toNat)] (fwUc (fwUc (fwUc h 4 5 (h 4 0)) 17 5 (h 17 0)) 31 0 (fun _ => 0)) Q
      refine w_istore_n [some (aR 10 0), some (aI (x : Int)), some (aI (mTop (h 17 0) ((h 4 0) 4) ((h 4 0) 1).toNat)), none] dX6_countShaded_45 rfl (by decide) ?_
      refine w_iconst dX6_countShaded_46 ?_
      refine w_istore_n [some (aR 10 0), some (aI (x : Int)), some (aI (mTop (h 17 0) ((h 4 0) 4) ((h 4 0) 1).toNat)), some (aI 0)] dX6_countShaded_47 rfl (by decide) ?_
      have lp48 : ∀ q : Nat, q ≤ 21 → ∀ (y48  : Int) (hh48 : fwH), y48 = (q : Int) → hh48 = (fwUc (fwUc (fwUc h 4 5 (h 4 0)) 17 5 (mOH h q)) 31 0 (mDk h (h 10 0 7) x q)) → fwWP mX6_countShaded (d + 2) 48 [some (aR 10 0), some (aI (x : Int)), some (aI (mTop (h 17 0) ((h 4 0) 4) ((h 4 0) 1).toNat)), some (aI y48)] [] hh48 Q := by
        refine fw_up (fun q hc48 ih48 => ?_)
        intro y48  hh48 ey48 eh48
        subst ey48
        subst eh48
        show fwWP mX6_countShaded (d + 2) 48 [some (aR 10 0), some (aI (x : Int)), some (aI (mTop (h 17 0) ((h 4 0) 4) ((h 4 0) 1).toNat)), some (aI (q : Int))] [] (fwUc (fwUc (fwUc h 4 5 (h 4 0)) 17 5 (mOH h q)) 31 0 (mDk h (h 10 0 7) x q)) Q
        refine w_iload_n dX6_countShaded_48 rfl ?_
        refine w_bipush dX6_countShaded_49 rfl ?_
        refine w_icmp_gt 110 dX6_countShaded_51 (by decide) (by omega) (by omega) (fun c51 => ?_) (fun c51 => ?_)
        · have ec48 : 21 = q := by omega
          subst ec48
          exact w_vret dX6_countShaded_110 rfl (k)
        · have hor := mOH_rng hM9 (k := q) (by omega) g2
          have hG6 : gOk (fwUc (fwUc (fwUc h 4 5 (h 4 0)) 17 5 (mOH h q)) 31 0 (mDk h (h 10 0 7) x q)) 5 := ⟨hG.1, hG.2.1, hG.2.2.1, hG.2.2.2.1, hor⟩
          refine w_aload_n dX6_countShaded_54 rfl ?_
          refine w_getiE (v := h 10 0 7) dX6_countShaded_55 fl_X6_59 rfl (by decide) rfl ?_
          refine w_iload_n dX6_countShaded_58 rfl ?_
          refine w_ishr dX6_countShaded_59 ?_
          refine w_iconst dX6_countShaded_60 ?_
          refine w_iand dX6_countShaded_61 ?_
          have hb := fwAnd_rng1 (fwShr (h 10 0 7) (q : Int))
          refine w_iconst dX6_countShaded_62 ?_
          refine w_icmp_ne 95 dX6_countShaded_63 (by decide) (by omega) (by omega) (fun c63 => ?_) (fun c63 => ?_)
          · rw [show (fwUc (fwUc (fwUc h 4 5 (h 4 0)) 17 5 (mOH h q)) 31 0 (mDk h (h 10 0 7) x q)) = (fwUc (fwUc (fwUc h 4 5 (h 4 0)) 17 5 (mOH h q)) 31 0 (mDk h (h 10 0 7) x (q + 1))) from by rw [mDk]; first | rw [if_pos (by omega)] | rw [if_neg (by omega)]]
            have hG8 : gOk (fwUc (fwUc (fwUc h 4 5 (h 4 0)) 17 5 (mOH h q)) 31 0 (mDk h (h 10 0 7) x (q + 1))) 5 := ⟨hG.1, hG.2.1, hG.2.2.1, hG.2.2.2.1, hor⟩
            refine w_aload_n dX6_countShaded_95 rfl ?_
            refine w_getr 4 5 dX6_countShaded_96 fl_X6_29 rfl (by decide) ?_
            refine w_iload_n dX6_countShaded_99 rfl ?_
            refine w_iconst dX6_countShaded_100 ?_
            refine w_callV (d := d + 1) (S := []) [aI (mTop (h 17 0) ((h 4 0) 4) ((h 4 0) 1).toNat), aI 1] dX6_countShaded_101 ml_X6_79 ok_X1_change vi_X1_change rfl rfl (by decide) rfl (Nat.le_of_ble_eq_true rfl) ?_
            refine c_X1_changeE (d := d) 5 (mTop (h 17 0) ((h 4 0) 4) ((h 4 0) 1).toNat) 1 (by decide) (by first | assumption | omega | decide) (by first | assumption | omega | decide) (show mTop (h 17 0) ((h 4 0) 4) ((h 4 0) 1).toNat < (h 4 0) 1 by first | assumption | omega | decide) ?_
            show fwWP mX6_countShaded (d + 2) 104 [some (aR 10 0), some (aI (x : Int)), some (aI (mTop (h 17 0) ((h 4 0) 4) ((h 4 0) 1).toNat)), some (aI (q : Int))] [] (fwUc (fwUc (fwUc (fwUc h 4 5 (h 4 0)) 17 5 (mOH h q)) 31 0 (mDk h (h 10 0 7) x (q + 1))) 17 5 (fwFu ((mOH h q)) (mTop (h 17 0) ((h 4 0) 4) ((h 4 0) 1).toNat).toNat ((mOH h q) (mTop (h 17 0) ((h 4 0) 4) ((h 4 0) 1).toNat).toNat + 1))) Q
            rw [show fwUc (fwUc (fwUc (fwUc h 4 5 (h 4 0)) 17 5 (mOH h q)) 31 0 (mDk h (h 10 0 7) x (q + 1))) 17 5 (fwFu ((mOH h q)) (mTop (h 17 0) ((h 4 0) 4) ((h 4 0) 1).toNat).toNat ((mOH h q) (mTop (h 17 0) ((h 4 0) 4) ((h 4 0) 1).toNat).toNat + 1)) = (fwUc (fwUc (fwUc h 4 5 (h 4 0)) 17 5 (fwFu ((mOH h q)) (mTop (h 17 0) ((h 4 0) 4) ((h 4 0) 1).toNat).toNat ((mOH h q) (mTop (h 17 0) ((h 4 0) 4) ((h 4 0) 1).toNat).toNat + 1))) 31 0 (mDk h (h 10 0 7) x (q + 1))) from by funext a b; simp only [fwUc]; (repeat' split); all_goals first | rfl | (exfalso; omega)]
            rw [mOH_up]
            refine w_iinc [some (aR 10 0), some (aI (x : Int)), some (aI (mTop (h 17 0) ((h 4 0) 4) ((h 4 0) 1).toNat)), some (aI ((q : Int) + 1))] dX6_countShaded_104 rfl rfl (by decide) ?_
            refine w_goto 48 dX6_countShaded_107 (by decide) ?_
            refine ih48 (by omega) _ _ ?_ ?_
            · exact (by omega)
            · exact rfl
          · refine w_aload_n dX6_countShaded_66 rfl ?_
            refine w_aload_n dX6_countShaded_67 rfl ?_
            refine w_getr 4 5 dX6_countShaded_68 fl_X6_29 rfl (by decide) ?_
            refine w_iload_n dX6_countShaded_71 rfl ?_
            refine w_iconst dX6_countShaded_72 ?_
            refine w_callV (d := d + 1) (S := [aR 10 0]) [aI (x : Int), aI (-1)] dX6_countShaded_73 ml_X6_115 ok_X1_shadedHours vi_X1_shadedHours rfl rfl (by decide) rfl (Nat.le_of_ble_eq_true rfl) ?_
            refine c_X1_shadedHours (d := (d + 1)) 5 (x : Int) (-1) (by decide) (by first | assumption | omega | decide) (by first | assumption | omega | decide) (by first | assumption | omega | decide) ?_
            show fwWP mX6_countShaded (d + 2) 76 [some (aR 10 0), some (aI (x : Int)), some (aI (mTop (h 17 0) ((h 4 0) 4) ((h 4 0) 1).toNat)), some (aI (q : Int))] [aI (mSh ((h 4 0) 1) (mOH h q) (x : Int) (-1)), aR 10 0] (fwUc (fwUc (fwUc h 4 5 (h 4 0)) 17 5 (mOH h q)) 31 0 (mDk h (h 10 0 7) x q)) Q
            have hs4 := mSh_rng (n := ((h 4 0) 1)) (H := (mOH h q)) (x := (x : Int)) (st := (-1)) (by omega) (by assumption)
            refine w_iconst dX6_countShaded_76 ?_
            refine w_callV (d := d + 1) (S := []) [aI (mSh ((h 4 0) 1) (mOH h q) (x : Int) (-1)), aI 0] dX6_countShaded_77 ml_X6_118 ok_X6_addShaded vi_X6_addShaded rfl rfl (by decide) rfl (Nat.le_of_ble_eq_true rfl) ?_
            refine c_addShX (d := (d + 1)) (mSh ((h 4 0) 1) (mOH h q) (x : Int) (-1)) 0 (by first | assumption | omega | decide) (by first | assumption | omega | decide) ?_
            show fwWP mX6_countShaded (d + 2) 80 [some (aR 10 0), some (aI (x : Int)), some (aI (mTop (h 17 0) ((h 4 0) 4) ((h 4 0) 1).toNat)), some (aI (q : Int))] [] (fwUc (fwUc (fwUc (fwUc h 4 5 (h 4 0)) 17 5 (mOH h q)) 31 0 (mDk h (h 10 0 7) x q)) 31 0 (mAdd ((mDk h (h 10 0 7) x q)) 0 (mSh ((h 4 0) 1) (mOH h q) (x : Int) (-1)).toNat)) Q
            rw [show fwUc (fwUc (fwUc (fwUc h 4 5 (h 4 0)) 17 5 (mOH h q)) 31 0 (mDk h (h 10 0 7) x q)) 31 0 (mAdd ((mDk h (h 10 0 7) x q)) 0 (mSh ((h 4 0) 1) (mOH h q) (x : Int) (-1)).toNat) = (fwUc (fwUc (fwUc h 4 5 (h 4 0)) 17 5 (mOH h q)) 31 0 (mAdd ((mDk h (h 10 0 7) x q)) 0 (mSh ((h 4 0) 1) (mOH h q) (x : Int) (-1)).toNat)) from by funext a b; simp only [fwUc]; (repeat' split); all_goals first | rfl | (exfalso; omega)]
            have hG7 : gOk (fwUc (fwUc (fwUc h 4 5 (h 4 0)) 17 5 (mOH h q)) 31 0 (mAdd ((mDk h (h 10 0 7) x q)) 0 (mSh ((h 4 0) 1) (mOH h q) (x : Int) (-1)).toNat)) 5 := ⟨hG.1, hG.2.1, hG.2.2.1, hG.2.2.2.1, hor⟩
            refine w_aload_n dX6_countShaded_80 rfl ?_
            refine w_aload_n dX6_countShaded_81 rfl ?_
            refine w_getr 4 5 dX6_countShaded_82 fl_X6_29 rfl (by decide) ?_
            refine w_iload_n dX6_countShaded_85 rfl ?_
            refine w_iconst dX6_countShaded_86 ?_
            refine w_callV (d := d + 1) (S := [aR 10 0]) [aI (x : Int), aI 1] dX6_countShaded_87 ml_X6_115 ok_X1_shadedHours vi_X1_shadedHours rfl rfl (by decide) rfl (Nat.le_of_ble_eq_true rfl) ?_
            refine c_X1_shadedHours (d := (d + 1)) 5 (x : Int) 1 (by decide) (by first | assumption | omega | decide) (by first | assumption | omega | decide) (by first | assumption | omega | decide) ?_
            show fwWP mX6_countShaded (d + 2) 90 [some (aR 10 0), some (aI (x : Int)), some (aI (mTop (h 17 0) ((h 4 0) 4) ((h 4 0) 1).toNat)), some (aI (q : Int))] [aI (mSh ((h 4 0) 1) (mOH h q) (x : Int) 1), aR 10 0] (fwUc (fwUc (fwUc h 4 5 (h 4 0)) 17 5 (mOH h q)) 31 0 (mAdd ((mDk h (h 10 0 7) x q)) 0 (mSh ((h 4 0) 1) (mOH h q) (x : Int) (-1)).toNat)) Q
            have hs5 := mSh_rng (n := ((h 4 0) 1)) (H := (mOH h q)) (x := (x : Int)) (st := 1) (by omega) (by assumption)
            refine w_bipush dX6_countShaded_90 rfl ?_
            refine w_callV (d := d + 1) (S := []) [aI (mSh ((h 4 0) 1) (mOH h q) (x : Int) 1), aI 9] dX6_countShaded_92 ml_X6_118 ok_X6_addShaded vi_X6_addShaded rfl rfl (by decide) rfl (Nat.le_of_ble_eq_true rfl) ?_
            refine c_addShX (d := (d + 1)) (mSh ((h 4 0) 1) (mOH h q) (x : Int) 1) 9 (by first | assumption | omega | decide) (by first | assumption | omega | decide) ?_
            show fwWP mX6_countShaded (d + 2) 95 [some (aR 10 0), some (aI (x : Int)), some (aI (mTop (h 17 0) ((h 4 0) 4) ((h 4 0) 1).toNat)), some (aI (q : Int))] [] (fwUc (fwUc (fwUc (fwUc h 4 5 (h 4 0)) 17 5 (mOH h q)) 31 0 (mAdd ((mDk h (h 10 0 7) x q)) 0 (mSh ((h 4 0) 1) (mOH h q) (x : Int) (-1)).toNat)) 31 0 (mAdd ((mAdd ((mDk h (h 10 0 7) x q)) 0 (mSh ((h 4 0) 1) (mOH h q) (x : Int) (-1)).toNat)) 9 (mSh ((h 4 0) 1) (mOH h q) (x : Int) 1).toNat)) Q
            rw [show fwUc (fwUc (fwUc (fwUc h 4 5 (h 4 0)) 17 5 (mOH h q)) 31 0 (mAdd ((mDk h (h 10 0 7) x q)) 0 (mSh ((h 4 0) 1) (mOH h q) (x : Int) (-1)).toNat)) 31 0 (mAdd ((mAdd ((mDk h (h 10 0 7) x q)) 0 (mSh ((h 4 0) 1) (mOH h q) (x : Int) (-1)).toNat)) 9 (mSh ((h 4 0) 1) (mOH h q) (x : Int) 1).toNat) = (fwUc (fwUc (fwUc h 4 5 (h 4 0)) 17 5 (mOH h q)) 31 0 (mAdd ((mAdd ((mDk h (h 10 0 7) x q)) 0 (mSh ((h 4 0) 1) (mOH h q) (x : Int) (-1)).toNat)) 9 (mSh ((h 4 0) 1) (mOH h q) (x : Int) 1).toNat)) from by funext a b; simp only [fwUc]; (repeat' split); all_goals first | rfl | (exfalso; omega)]
            rw [show (fwUc (fwUc (fwUc h 4 5 (h 4 0)) 17 5 (mOH h q)) 31 0 (mAdd ((mAdd ((mDk h (h 10 0 7) x q)) 0 (mSh ((h 4 0) 1) (mOH h q) (x : Int) (-1)).toNat)) 9 (mSh ((h 4 0) 1) (mOH h q) (x : Int) 1).toNat)) = (fwUc (fwUc (fwUc h 4 5 (h 4 0)) 17 5 (mOH h q)) 31 0 (mDk h (h 10 0 7) x (q + 1))) from by rw [mDk]; first | rw [if_pos (by omega)] | rw [if_neg (by omega)]]
            have hG8 : gOk (fwUc (fwUc (fwUc h 4 5 (h 4 0)) 17 5 (mOH h q)) 31 0 (mDk h (h 10 0 7) x (q + 1))) 5 := ⟨hG.1, hG.2.1, hG.2.2.1, hG.2.2.2.1, hor⟩
            refine w_aload_n dX6_countShaded_95 rfl ?_
            refine w_getr 4 5 dX6_countShaded_96 fl_X6_29 rfl (by decide) ?_
            refine w_iload_n dX6_countShaded_99 rfl ?_
            refine w_iconst dX6_countShaded_100 ?_
            refine w_callV (d := d + 1) (S := []) [aI (mTop (h 17 0) ((h 4 0) 4) ((h 4 0) 1).toNat), aI 1] dX6_countShaded_101 ml_X6_79 ok_X1_change vi_X1_change rfl rfl (by decide) rfl (Nat.le_of_ble_eq_true rfl) ?_
            refine c_X1_changeE (d := d) 5 (mTop (h 17 0) ((h 4 0) 4) ((h 4 0) 1).toNat) 1 (by decide) (by first | assumption | omega | decide) (by first | assumption | omega | decide) (show mTop (h 17 0) ((h 4 0) 4) ((h 4 0) 1).toNat < (h 4 0) 1 by first | assumption | omega | decide) ?_
            show fwWP mX6_countShaded (d + 2) 104 [some (aR 10 0), some (aI (x : Int)), some (aI (mTop (h 17 0) ((h 4 0) 4) ((h 4 0) 1).toNat)), some (aI (q : Int))] [] (fwUc (fwUc (fwUc (fwUc h 4 5 (h 4 0)) 17 5 (mOH h q)) 31 0 (mDk h (h 10 0 7) x (q + 1))) 17 5 (fwFu ((mOH h q)) (mTop (h 17 0) ((h 4 0) 4) ((h 4 0) 1).toNat).toNat ((mOH h q) (mTop (h 17 0) ((h 4 0) 4) ((h 4 0) 1).toNat).toNat + 1))) Q
            rw [show fwUc (fwUc (fwUc (fwUc h 4 5 (h 4 0)) 17 5 (mOH h q)) 31 0 (mDk h (h 10 0 7) x (q + 1))) 17 5 (fwFu ((mOH h q)) (mTop (h 17 0) ((h 4 0) 4) ((h 4 0) 1).toNat).toNat ((mOH h q) (mTop (h 17 0) ((h 4 0) 4) ((h 4 0) 1).toNat).toNat + 1)) = (fwUc (fwUc (fwUc h 4 5 (h 4 0)) 17 5 (fwFu ((mOH h q)) (mTop (h 17 0) ((h 4 0) 4) ((h 4 0) 1).toNat).toNat ((mOH h q) (mTop (h 17 0) ((h 4 0) 4) ((h 4 0) 1).toNat).toNat + 1))) 31 0 (mDk h (h 10 0 7) x (q + 1))) from by funext a b; simp only [fwUc]; (repeat' split); all_goals first | rfl | (exfalso; omega)]
            rw [mOH_up]
            refine w_iinc [some (aR 10 0), some (aI (x : Int)), some (aI (mTop (h 17 0) ((h 4 0) 4) ((h 4 0) 1).toNat)), some (aI ((q : Int) + 1))] dX6_countShaded_104 rfl rfl (by decide) ?_
            refine w_goto 48 dX6_countShaded_107 (by decide) ?_
            refine ih48 (by omega) _ _ ?_ ?_
            · exact (by omega)
            · exact rfl
      refine lp48 0 (Nat.zero_le _) _ _ ?_ ?_
      · exact (by omega)
      · exact (by rw [mOH_0]; rfl)
    · refine w_aload_n dX6_countShaded_11 rfl ?_
      refine w_getr 31 0 dX6_countShaded_12 fl_X6_18 rfl (by decide) ?_
      refine w_iload_n dX6_countShaded_15 rfl ?_
      refine w_iconst dX6_countShaded_16 ?_
      refine w_iast dX6_countShaded_17 rfl (by decide) (by omega) (by omega) ?_
      refine w_iinc [some (aR 10 0), some (aI (x : Int)), some (aI ((c : Int) + 1)), none] dX6_countShaded_18 rfl rfl (by decide) ?_
      refine w_goto 2 dX6_countShaded_21 (by decide) ?_
      refine ih2 (by omega) _ _ ?_ ?_
      · exact (by omega)
      · exact (by rw [fwUp_uc, Int.toNat_natCast]; exact congrArg _ (fwFl_succ (fun _ => 0) (h 31 0) c))
  refine lp2 0 (Nat.zero_le _) _ _ ?_ ?_
  · exact (by omega)
  · exact (by rw [fwFl_0, fwUc_self])
def mAsk (D : Nat → Int) (a : Int) : Nat → Int × Int
  | 0 => (0, a)
  | j + 1 => if max (D (j + 1)) (a - D (j + 1)) < (mAsk D a j).2 then ((j : Int) + 1, max (D (j + 1)) (a - D (j + 1))) else mAsk D a j
theorem mAsk_rng {D : Nat → Int} {a : Int} (hD : ∀ s, 0 ≤ D s ∧ D s ≤ 42) (ha : 0 ≤ a ∧ a < 64) : ∀ j, 0 ≤ (mAsk D a j).2 ∧ (mAsk D a j).2 < 64 := by
  intro j
  induction j with
  | zero => exact ha
  | succ j ih =>
    have h1 := hD (j + 1)
    rw [mAsk]
    split
    · dsimp only; omega
    · exact ih
def mAskF (h : fwH) (p : Int) (x j : Nat) : Int × Int := mAsk (mDk h p x 21) (fwPop p) j
/-- the heap when the HOUR to measure was looked for -/
def askH (h : fwH) (x j : Nat) : fwH := fwUc (fwUc (fwUc (fwUc h 4 5 (h 4 0)) 10 0 (fwFu (h 10 0) 8 (mAskF h (h 10 0 7) x j).2)) 17 5 (mOH h 21)) 31 0 (mDk h (h 10 0 7) x 21)
set_option maxRecDepth 100000 in
set_option maxHeartbeats 4000000 in
theorem c_X6_hourToMeasure {d : Nat} {h : fwH} {Q : Option fwV → fwH → Prop} (x : Nat) (hP : pOk h 0) (hG : gOk h 0) (hn : 1 ≤ h 4 0 1) (hM : ∀ c : Nat, c < 10 → h 17 0 c ≤ 999) (hM9 : ∀ c : Nat, c < 10 → 0 ≤ h 17 0 c ∧ h 17 0 c ≤ 900) (hx : (x : Int) < h 4 0 1) (k : Q (some (aI (mAskF h (h 10 0 7) x 18).1)) (askH h x 18)) : fwCt mX6_hourToMeasure (d + 3) [aR 10 0, aI (x : Int)] h Q := by
  refine fwCt_of [some (aR 10 0), some (aI (x : Int)), none, none, none, none] rfl rfl rfl ?_
  obtain ⟨⟨g1, g2⟩, ⟨g3, g4⟩, ⟨g5, g6⟩, g7, g8⟩ := id hG
  refine w_aload_n dX6_hourToMeasure_0 rfl ?_
  refine w_iload_n dX6_hourToMeasure_1 rfl ?_
  refine w_callV (d := d + 2) (S := []) [aI (x : Int)] dX6_hourToMeasure_2 ml_X6_97 ok_X6_countShaded vi_X6_countShaded rfl rfl (by decide) rfl (Nat.le_of_ble_eq_true rfl) ?_
  refine c_X6_countShaded (d := d) x (by first | assumption | omega | decide) (by first | assumption | omega | decide) (by first | assumption | omega | decide) (by first | assumption | omega | decide) (by first | assumption | omega | decide) (by first | assumption | omega | decide) ?_
  show fwWP mX6_hourToMeasure (d + 3) 5 [some (aR 10 0), some (aI (x : Int)), none, none, none, none] [] (fwUc (fwUc (fwUc h 4 5 (h 4 0)) 17 5 (mOH h 21)) 31 0 (mDk h (h 10 0 7) x 21)) Q
  refine w_aload_n dX6_hourToMeasure_5 rfl ?_
  refine w_getiE (v := h 10 0 7) dX6_hourToMeasure_6 fl_X6_59 rfl (by decide) rfl ?_
  refine w_callS (d := d + 2) (S := []) [aI (h 10 0 7)] dX6_hourToMeasure_9 ml_X6_101 ok_J6_bitCount_0f7a4 st_J6_bitCount_0f7a4 rfl (Nat.le_of_ble_eq_true rfl) ?_
  refine c_bitCount (d := (d + 2)) (h 10 0 7) ?_
  show fwWP mX6_hourToMeasure (d + 3) 12 [some (aR 10 0), some (aI (x : Int)), none, none, none, none] [aI (fwPop (h 10 0 7))] (fwUc (fwUc (fwUc h 4 5 (h 4 0)) 17 5 (mOH h 21)) 31 0 (mDk h (h 10 0 7) x 21)) Q
  have hpp := fwPop_rng (h 10 0 7)
  refine w_istore_n [some (aR 10 0), some (aI (x : Int)), some (aI (fwPop (h 10 0 7))), none, none, none] dX6_hourToMeasure_12 rfl (by decide) ?_
  refine w_iconst dX6_hourToMeasure_13 ?_
  refine w_istore_n [some (aR 10 0), some (aI (x : Int)), some (aI (fwPop (h 10 0 7))), some (aI 0), none, none] dX6_hourToMeasure_14 rfl (by decide) ?_
  refine w_aload_n dX6_hourToMeasure_15 rfl ?_
  refine w_iload_n dX6_hourToMeasure_16 rfl ?_
  refine w_puti dX6_hourToMeasure_17 fl_X6_106 fp_10_8 rfl (by decide) ?_
  rw [show (fwUp (fwUc (fwUc (fwUc h 4 5 (h 4 0)) 17 5 (mOH h 21)) 31 0 (mDk h (h 10 0 7) x 21)) 10 0 8 (fwPop (h 10 0 7))) = (fwUc (fwUc (fwUc (fwUc h 4 5 (h 4 0)) 17 5 (mOH h 21)) 31 0 (mDk h (h 10 0 7) x 21)) 10 0 (fwFu (h 10 0) 8 (fwPop (h 10 0 7)))) from fwUp_fu _ _ _ _ _]
  rw [show (fwUc (fwUc (fwUc (fwUc h 4 5 (h 4 0)) 17 5 (mOH h 21)) 31 0 (mDk h (h 10 0 7) x 21)) 10 0 (fwFu (h 10 0) 8 (fwPop (h 10 0 7)))) = (fwUc (fwUc (fwUc (fwUc h 4 5 (h 4 0)) 10 0 (fwFu (h 10 0) 8 (fwPop (h 10 0 7)))) 17 5 (mOH h 21)) 31 0 (mDk h (h 10 0 7) x 21)) from by funext a b; simp only [fwUc]; (repeat' split); all_goals first | rfl | (exfalso; omega)]
  refine w_iconst dX6_hourToMeasure_20 ?_
  refine w_istore [some (aR 10 0), some (aI (x : Int)), some (aI (fwPop (h 10 0 7))), some (aI 0), some (aI 1), none] dX6_hourToMeasure_21 rfl (by decide) ?_
  have lp23 : ∀ c : Nat, c ≤ 18 → ∀ (y23 fo : Int) (hh23 : fwH), y23 = (c : Int) + 1 → fo = (mAskF h (h 10 0 7) x c).1 → hh23 = (fwUc (fwUc (fwUc (fwUc h 4 5 (h 4 0)) 10 0 (fwFu (h 10 0) 8 (mAskF h (h 10 0 7) x c).2)) 17 5 (mOH h 21)) 31 0 (mDk h (h 10 0 7) x 21)) → fwWP mX6_hourToMeasure (d + 3) 23 [some (aR 10 0), some (aI (x : Int)), some (aI (fwPop (h 10 0 7))), some (aI fo), some (aI y23), none] [] hh23 Q := by
    refine fw_up (fun c hc23 ih23 => ?_)
    intro y23 fo hh23 ey23 e_fo eh23
    subst ey23
    subst e_fo
    subst eh23
    have hdr := mDk_rng h (h 10 0 7) x (c + 1) 21
    have har : 0 ≤ (mAskF h (h 10 0 7) x c).2 ∧ (mAskF h (h 10 0 7) x c).2 < 64 := mAsk_rng (fun s => mDk_rng h (h 10 0 7) x s 21) hpp c
    show fwWP mX6_hourToMeasure (d + 3) 23 [some (aR 10 0), some (aI (x : Int)), some (aI (fwPop (h 10 0 7))), some (aI ((mAskF h (h 10 0 7) x c).1)), some (aI ((c : Int) + 1)), none] [] (fwUc (fwUc (fwUc (fwUc h 4 5 (h 4 0)) 10 0 (fwFu (h 10 0) 8 (mAskF h (h 10 0 7) x c).2)) 17 5 (mOH h 21)) 31 0 (mDk h (h 10 0 7) x 21)) Q
    refine w_iload dX6_hourToMeasure_23 rfl ?_
    refine w_aload_n dX6_hourToMeasure_25 rfl ?_
    refine w_getr 31 0 dX6_hourToMeasure_26 fl_X6_18 rfl (by decide) ?_
    refine w_alen dX6_hourToMeasure_29 rfl (by decide) (by decide) ?_
    refine w_icmp_ge 78 dX6_hourToMeasure_30 (by decide) (by omega) (by omega) (fun c30 => ?_) (fun c30 => ?_)
    · have ec23 : 18 = c := by omega
      subst ec23
      refine w_iload_n dX6_hourToMeasure_78 rfl ?_
      exact w_iretE dX6_hourToMeasure_79 rfl (by rfl) k
    · refine w_aload_n dX6_hourToMeasure_33 rfl ?_
      refine w_getr 31 0 dX6_hourToMeasure_34 fl_X6_18 rfl (by decide) ?_
      refine w_iload dX6_hourToMeasure_37 rfl ?_
      refine w_ialdE (v := mDk h (h 10 0 7) x 21 (c + 1)) dX6_hourToMeasure_39 rfl (by decide) (by omega) (by omega) (by rw [show ((c : Int) + 1).toNat = c + 1 by omega]; rfl) ?_
      refine w_iload_n dX6_hourToMeasure_40 rfl ?_
      refine w_aload_n dX6_hourToMeasure_41 rfl ?_
      refine w_getr 31 0 dX6_hourToMeasure_42 fl_X6_18 rfl (by decide) ?_
      refine w_iload dX6_hourToMeasure_45 rfl ?_
      refine w_ialdE (v := mDk h (h 10 0 7) x 21 (c + 1)) dX6_hourToMeasure_47 rfl (by decide) (by omega) (by omega) (by rw [show ((c : Int) + 1).toNat = c + 1 by omega]; rfl) ?_
      refine w_isub dX6_hourToMeasure_48 ?_
      refine w_max (d := d + 2) (S := []) dX6_hourToMeasure_49 ml_X6_109 (by omega) (by omega) (Nat.le_of_ble_eq_true rfl) ?_
      refine w_istore [some (aR 10 0), some (aI (x : Int)), some (aI (fwPop (h 10 0 7))), some (aI ((mAskF h (h 10 0 7) x c).1)), some (aI ((c : Int) + 1)), some (aI (max (mDk h (h 10 0 7) x 21 (c + 1)) ((fwPop (h 10 0 7)) - (mDk h (h 10 0 7) x 21 (c + 1)))))] dX6_hourToMeasure_52 rfl (by decide) ?_
      refine w_iload dX6_hourToMeasure_54 rfl ?_
      refine w_aload_n dX6_hourToMeasure_56 rfl ?_
      refine w_getiE (v := (mAskF h (h 10 0 7) x c).2) dX6_hourToMeasure_57 fl_X6_106 rfl (by decide) rfl ?_
      refine w_icmp_ge 72 dX6_hourToMeasure_60 (by decide) (by omega) (by omega) (fun c60 => ?_) (fun c60 => ?_)
      · refine w_iinc [some (aR 10 0), some (aI (x : Int)), some (aI (fwPop (h 10 0 7))), some (aI ((mAskF h (h 10 0 7) x c).1)), some (aI (((c : Int) + 1) + 1)), some (aI (max (mDk h (h 10 0 7) x 21 (c + 1)) ((fwPop (h 10 0 7)) - (mDk h (h 10 0 7) x 21 (c + 1)))))] dX6_hourToMeasure_72 rfl rfl (by decide) ?_
        refine w_goto 23 dX6_hourToMeasure_75 (by decide) ?_
        refine w_drop [5] [some (aR 10 0), some (aI (x : Int)), some (aI (fwPop (h 10 0 7))), some (aI ((mAskF h (h 10 0 7) x c).1)), some (aI (((c : Int) + 1) + 1)), none] rfl ?_
        refine ih23 (by omega) _ _ _ ?_ ?_ ?_
        · exact (by omega)
        · exact (by unfold mAskF; rw [mAsk]; first | rw [if_pos (by exact c60)] | rw [if_neg (by exact Int.not_lt.mpr c60)])
        · exact (by unfold mAskF; rw [mAsk]; first | rw [if_pos (by exact c60)] | rw [if_neg (by exact Int.not_lt.mpr c60)])
      · refine w_aload_n dX6_hourToMeasure_63 rfl ?_
        refine w_iload dX6_hourToMeasure_64 rfl ?_
        refine w_puti dX6_hourToMeasure_66 fl_X6_106 fp_10_8 rfl (by decide) ?_
        refine w_iload dX6_hourToMeasure_69 rfl ?_
        refine w_istore_n [some (aR 10 0), some (aI (x : Int)), some (aI (fwPop (h 10 0 7))), some (aI ((c : Int) + 1)), some (aI ((c : Int) + 1)), some (aI (max (mDk h (h 10 0 7) x 21 (c + 1)) ((fwPop (h 10 0 7)) - (mDk h (h 10 0 7) x 21 (c + 1)))))] dX6_hourToMeasure_71 rfl (by decide) ?_
        rw [show (fwUp (fwUc (fwUc (fwUc (fwUc h 4 5 (h 4 0)) 10 0 (fwFu (h 10 0) 8 (mAskF h (h 10 0 7) x c).2)) 17 5 (mOH h 21)) 31 0 (mDk h (h 10 0 7) x 21)) 10 0 8 (max (mDk h (h 10 0 7) x 21 (c + 1)) ((fwPop (h 10 0 7)) - (mDk h (h 10 0 7) x 21 (c + 1))))) = (fwUc (fwUc (fwUc (fwUc (fwUc h 4 5 (h 4 0)) 10 0 (fwFu (h 10 0) 8 (mAskF h (h 10 0 7) x c).2)) 17 5 (mOH h 21)) 31 0 (mDk h (h 10 0 7) x 21)) 10 0 (fwFu ((fwFu (h 10 0) 8 (mAskF h (h 10 0 7) x c).2)) 8 (max (mDk h (h 10 0 7) x 21 (c + 1)) ((fwPop (h 10 0 7)) - (mDk h (h 10 0 7) x 21 (c + 1)))))) from fwUp_fu _ _ _ _ _]
        rw [show (fwUc (fwUc (fwUc (fwUc (fwUc h 4 5 (h 4 0)) 10 0 (fwFu (h 10 0) 8 (mAskF h (h 10 0 7) x c).2)) 17 5 (mOH h 21)) 31 0 (mDk h (h 10 0 7) x 21)) 10 0 (fwFu ((fwFu (h 10 0) 8 (mAskF h (h 10 0 7) x c).2)) 8 (max (mDk h (h 10 0 7) x 21 (c + 1)) ((fwPop (h 10 0 7)) - (mDk h (h 10 0 7) x 21 (c + 1)))))) = (fwUc (fwUc (fwUc (fwUc h 4 5 (h 4 0)) 10 0 (fwFu ((fwFu (h 10 0) 8 (mAskF h (h 10 0 7) x c).2)) 8 (max (mDk h (h 10 0 7) x 21 (c + 1)) ((fwPop (h 10 0 7)) - (mDk h (h 10 0 7) x 21 (c + 1)))))) 17 5 (mOH h 21)) 31 0 (mDk h (h 10 0 7) x 21)) from by funext a b; simp only [fwUc]; (repeat' split); all_goals first | rfl | (exfalso; omega)]
        rw [fwFu_fu]
        refine w_iinc [some (aR 10 0), some (aI (x : Int)), some (aI (fwPop (h 10 0 7))), some (aI ((c : Int) + 1)), some (aI (((c : Int) + 1) + 1)), some (aI (max (mDk h (h 10 0 7) x 21 (c + 1)) ((fwPop (h 10 0 7)) - (mDk h (h 10 0 7) x 21 (c + 1)))))] dX6_hourToMeasure_72 rfl rfl (by decide) ?_
        refine w_goto 23 dX6_hourToMeasure_75 (by decide) ?_
        refine w_drop [5] [some (aR 10 0), some (aI (x : Int)), some (aI (fwPop (h 10 0 7))), some (aI ((c : Int) + 1)), some (aI (((c : Int) + 1) + 1)), none] rfl ?_
        refine ih23 (by omega) _ _ _ ?_ ?_ ?_
        · exact (by omega)
        · exact (by unfold mAskF; rw [mAsk]; first | rw [if_pos (by exact c60)] | rw [if_neg (by exact Int.not_lt.mpr c60)])
        · exact (by unfold mAskF; rw [mAsk]; first | rw [if_pos (by exact c60)] | rw [if_neg (by exact Int.not_lt.mpr c60)])
  refine lp23 0 (Nat.zero_le _) _ _ _ ?_ ?_ ?_
  · exact (by omega)
  · exact rfl
  · exact rfl
def mOmB (h : fwH) (r k : Nat) : Bool := decide (¬ (h 29 0 k = 1 ∧ h 30 0 k = (r : Int)))
abbrev mOm (h : fwH) (r : Nat) : Prop := mAll (mOmB h r) 21 = false
def mCnt (p : Nat → Bool) : Nat → Int
  | 0 => 0
  | c + 1 => if p c = true then mCnt p c + 1 else mCnt p c
def mDou (h : fwH) : Int := if h 10 0 7 ≠ 0 then h 10 0 6 else mCnt (fun r => decide (mOm h r)) (h 10 0 6).toNat
set_option maxRecDepth 100000 in
set_option maxHeartbeats 4000000 in
theorem c_X6_isOnlyMiss {d : Nat} {h : fwH} {Q : Option fwV → fwH → Prop} (r : Nat) (hm : ∀ k : Nat, k < 21 → (0 ≤ h 29 0 k ∧ h 29 0 k ≤ 20) ∧ -1 ≤ h 30 0 k ∧ h 30 0 k < 20) (hr : r < 100) (k : Q (some (aI (fwB (mOm h r)))) h) : fwCt mX6_isOnlyMiss (d + 0) [aR 10 0, aI (r : Int)] h Q := by
  refine fwCt_of [some (aR 10 0), some (aI (r : Int)), none] rfl rfl rfl ?_
  refine w_iconst dX6_isOnlyMiss_0 ?_
  refine w_istore_n [some (aR 10 0), some (aI (r : Int)), some (aI 0)] dX6_isOnlyMiss_1 rfl (by decide) ?_
  have lp2 : ∀ c : Nat, c ≤ 21 → ∀ (y2  : Int), y2 = (c : Int) → (mAll (mOmB h r) c = true) → fwWP mX6_isOnlyMiss (d + 0) 2 [some (aR 10 0), some (aI (r : Int)), some (aI y2)] [] h Q := by
    refine fw_up (fun c hc2 ih2 => ?_)
    intro y2  ey2 iv2_0
    subst ey2
    show fwWP mX6_isOnlyMiss (d + 0) 2 [some (aR 10 0), some (aI (r : Int)), some (aI (c : Int))] [] h Q
    refine w_iload_n dX6_isOnlyMiss_2 rfl ?_
    refine w_bipush dX6_isOnlyMiss_3 rfl ?_
    refine w_icmp_gt 36 dX6_isOnlyMiss_5 (by decide) (by omega) (by omega) (fun c5 => ?_) (fun c5 => ?_)
    · have ec2 : 21 = c := by omega
      subst ec2
      refine w_iconst dX6_isOnlyMiss_36 ?_
      exact w_zretE (P := mOm h r) dX6_isOnlyMiss_37 rfl (by rw [fwB_f (by rw [show mOm h r ↔ mAll (mOmB h r) 21 = false from Iff.rfl, iv2_0]; decide)]) k
    · have hmk := hm c (by omega)
      refine w_aload_n dX6_isOnlyMiss_8 rfl ?_
      refine w_getr 29 0 dX6_isOnlyMiss_9 fl_X6_9 rfl (by decide) ?_
      refine w_iload_n dX6_isOnlyMiss_12 rfl ?_
      refine w_ialdE (v := h 29 0 c) dX6_isOnlyMiss_13 rfl (by decide) (by omega) (by omega) (by rw [Int.toNat_natCast]) ?_
      refine w_iconst dX6_isOnlyMiss_14 ?_
      refine w_icmp_ne 30 dX6_isOnlyMiss_15 (by decide) (by omega) (by omega) (fun c15 => ?_) (fun c15 => ?_)
      · refine w_iinc [some (aR 10 0), some (aI (r : Int)), some (aI ((c : Int) + 1))] dX6_isOnlyMiss_30 rfl rfl (by decide) ?_
        refine w_goto 2 dX6_isOnlyMiss_33 (by decide) ?_
        refine ih2 (by omega) _ ?_ ?_
        · exact (by omega)
        · exact (by rw [mAll, iv2_0, Bool.true_and]; unfold mOmB; simp only [decide_eq_true_eq]; omega)
      · refine w_aload_n dX6_isOnlyMiss_18 rfl ?_
        refine w_getr 30 0 dX6_isOnlyMiss_19 fl_X6_15 rfl (by decide) ?_
        refine w_iload_n dX6_isOnlyMiss_22 rfl ?_
        refine w_ialdE (v := h 30 0 c) dX6_isOnlyMiss_23 rfl (by decide) (by omega) (by omega) (by rw [Int.toNat_natCast]) ?_
        refine w_iload_n dX6_isOnlyMiss_24 rfl ?_
        refine w_icmp_ne 30 dX6_isOnlyMiss_25 (by decide) (by omega) (by omega) (fun c25 => ?_) (fun c25 => ?_)
        · refine w_iinc [some (aR 10 0), some (aI (r : Int)), some (aI ((c : Int) + 1))] dX6_isOnlyMiss_30 rfl rfl (by decide) ?_
          refine w_goto 2 dX6_isOnlyMiss_33 (by decide) ?_
          refine ih2 (by omega) _ ?_ ?_
          · exact (by omega)
          · exact (by rw [mAll, iv2_0, Bool.true_and]; unfold mOmB; simp only [decide_eq_true_eq]; omega)
        · refine w_iconst dX6_isOnlyMiss_28 ?_
          exact w_zretE (P := mOm h r) dX6_isOnlyMiss_29 rfl (by rw [fwB_t (by cases q : mAll (mOmB h r) 21 with | false => exact q | true => have := (mAll_iff _ _).mp q c (by omega); unfold mOmB at this; simp only [decide_eq_true_eq] at this; exact absurd ⟨by omega, by omega⟩ this)]) k
  refine lp2 0 (Nat.zero_le _) _ ?_ ?_
  · exact (by omega)
  · exact rfl
set_option maxRecDepth 100000 in
set_option maxHeartbeats 4000000 in
theorem c_X6_doubtful {d : Nat} {h : fwH} {Q : Option fwV → fwH → Prop}  (hm : ∀ k : Nat, k < 21 → (0 ≤ h 29 0 k ∧ h 29 0 k ≤ 20) ∧ -1 ≤ h 30 0 k ∧ h 30 0 k < 20) (hr : 0 ≤ h 10 0 6 ∧ h 10 0 6 ≤ 20) (hpo : -2147483648 ≤ h 10 0 7 ∧ h 10 0 7 < 2147483648) (k : Q (some (aI (mDou h))) h) : fwCt mX6_doubtful (d + 1) [aR 10 0] h Q := by
  refine fwCt_of [some (aR 10 0), none, none] rfl rfl rfl ?_
  refine w_aload_n dX6_doubtful_0 rfl ?_
  refine w_geti dX6_doubtful_1 fl_X6_59 rfl (by decide) ?_
  refine w_if_eq 12 dX6_doubtful_4 (by decide) hpo (fun c4 => ?_) (fun c4 => ?_)
  · refine w_iconst dX6_doubtful_12 ?_
    refine w_istore_n [some (aR 10 0), some (aI 0), none] dX6_doubtful_13 rfl (by decide) ?_
    refine w_iconst dX6_doubtful_14 ?_
    refine w_istore_n [some (aR 10 0), some (aI 0), some (aI 0)] dX6_doubtful_15 rfl (by decide) ?_
    have lp16 : ∀ c : Nat, c ≤ (h 10 0 6).toNat → ∀ (y16 su : Int), y16 = (c : Int) → su = mCnt (fun r => decide (mOm h r)) c → fwWP mX6_doubtful (d + 1) 16 [some (aR 10 0), some (aI su), some (aI y16)] [] h Q := by
      refine fw_up (fun c hc16 ih16 => ?_)
      intro y16 su ey16 e_su
      subst ey16
      subst e_su
      show fwWP mX6_doubtful (d + 1) 16 [some (aR 10 0), some (aI (mCnt (fun r => decide (mOm h r)) c)), some (aI (c : Int))] [] h Q
      refine w_iload_n dX6_doubtful_16 rfl ?_
      refine w_aload_n dX6_doubtful_17 rfl ?_
      refine w_geti dX6_doubtful_18 fl_X6_55 rfl (by decide) ?_
      refine w_icmp_ge 41 dX6_doubtful_21 (by decide) (by omega) (by omega) (fun c21 => ?_) (fun c21 => ?_)
      · have ec16 : (h 10 0 6).toNat = c := by omega
        subst ec16
        refine w_iload_n dX6_doubtful_41 rfl ?_
        exact w_iretE dX6_doubtful_42 rfl (by rw [mDou, if_neg (fun q => q c4)]) k
      · refine w_aload_n dX6_doubtful_24 rfl ?_
        refine w_iload_n dX6_doubtful_25 rfl ?_
        refine w_callV (d := d + 0) (S := []) [aI (c : Int)] dX6_doubtful_26 ml_X6_121 ok_X6_isOnlyMiss vi_X6_isOnlyMiss rfl rfl (by decide) rfl (Nat.le_of_ble_eq_true rfl) ?_
        refine c_X6_isOnlyMiss (d := d) c (by first | assumption | omega | decide) (by first | assumption | omega | decide) ?_
        show fwWP mX6_doubtful (d + 1) 29 [some (aR 10 0), some (aI (mCnt (fun r => decide (mOm h r)) c)), some (aI (c : Int))] [aI (fwB (mOm h c))] h Q
        refine w_ifB_eq 35 dX6_doubtful_29 (by decide) (fun c29 => ?_) (fun c29 => ?_)
        · refine w_iinc [some (aR 10 0), some (aI (mCnt (fun r => decide (mOm h r)) c)), some (aI ((c : Int) + 1))] dX6_doubtful_35 rfl rfl (by decide) ?_
          refine w_goto 16 dX6_doubtful_38 (by decide) ?_
          refine ih16 (by omega) _ _ ?_ ?_
          · exact (by omega)
          · exact (by rw [mCnt]; first | rw [if_pos (by exact decide_eq_true c29)] | rw [if_neg (by intro q; exact c29 (of_decide_eq_true q))])
        · refine w_iinc [some (aR 10 0), some (aI ((mCnt (fun r => decide (mOm h r)) c) + 1)), some (aI (c : Int))] dX6_doubtful_32 rfl rfl (by decide) ?_
          refine w_iinc [some (aR 10 0), some (aI ((mCnt (fun r => decide (mOm h r)) c) + 1)), some (aI ((c : Int) + 1))] dX6_doubtful_35 rfl rfl (by decide) ?_
          refine w_goto 16 dX6_doubtful_38 (by decide) ?_
          refine ih16 (by omega) _ _ ?_ ?_
          · exact (by omega)
          · exact (by rw [mCnt]; first | rw [if_pos (by exact decide_eq_true c29)] | rw [if_neg (by intro q; exact c29 (of_decide_eq_true q))])
    refine lp16 0 (Nat.zero_le _) _ _ ?_ ?_
    · exact (by omega)
    · exact rfl
  · refine w_aload_n dX6_doubtful_7 rfl ?_
    refine w_geti dX6_doubtful_8 fl_X6_55 rfl (by decide) ?_
    exact w_iretE dX6_doubtful_11 rfl (by rw [mDou, if_pos c4]) k
end

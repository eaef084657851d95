/-! rolls: People.isRoll, howStands, standing (the mountain's own FOLK, number 0) -/
def mRollP (N : Nat → Int) (z : Int) (j : Nat) : Bool := decide (0 ≤ N (2 * j) ∧ N (2 * j) < z ∧ 0 ≤ N (2 * j + 1) ∧ N (2 * j + 1) ≤ 999)
abbrev mRoll (N : Nat → Int) (sz z : Int) : Prop := sz % 2 = 0 ∧ mAll (mRollP N z) (sz / 2).toNat = true
theorem fwRem_nn {x y : Int} (hx : 0 ≤ x ∧ x < 2147483648) (hy : 0 < y ∧ y < 2147483648) : fwRem x y = x % y := by
  obtain ⟨a, rfl⟩ : ∃ a : Nat, x = a := ⟨x.toNat, by omega⟩
  obtain ⟨b, rfl⟩ : ∃ b : Nat, y = b := ⟨y.toNat, by omega⟩
  unfold fwRem
  have e1 : Int32.ofInt (a : Int) = nI a := rfl
  have e2 : Int32.ofInt (b : Int) = nI b := rfl
  rw [e1, e2, pk_rem (by omega) (by omega) (by omega), nI_toInt (Nat.lt_of_lt_of_le (Nat.mod_lt a (by omega)) (by omega))]
  exact Int.natCast_emod a b
set_option maxRecDepth 100000 in
set_option maxHeartbeats 4000000 in
theorem c_X3_isRoll {d : Nat} {h : fwH} {Q : Option fwV → fwH → Prop} (s : Nat) (hP : pOk h 0) (hs : sOk h) (hsl : s < 4) (hz : 0 ≤ h 35 0 s) (k : Q (some (aI (fwB (mRoll (h 33 s) (h 35 0 s) (h 5 0 3))))) h) : fwCt mX3_isRoll (d + 2) [aR 5 0, aR 11 0, aI (s : Int)] h Q := by
  refine fwCt_of [some (aR 5 0), some (aR 11 0), some (aI (s : Int)), none, none, none, none, none, none] rfl rfl rfl ?_
  obtain ⟨⟨p1, p2⟩, p3⟩ := id hP
  have hss := hs s hsl
  refine w_aload_n dX3_isRoll_0 rfl ?_
  refine w_iload_n dX3_isRoll_1 rfl ?_
  refine w_callV (d := d + 1) (S := []) [aI (s : Int)] dX3_isRoll_2 ml_X3_65 ok_X8_sizeOf vi_X8_sizeOf rfl rfl (by decide) rfl (Nat.le_of_ble_eq_true rfl) ?_
  refine c_X8_sizeOf (d := (d + 1)) (s : Int) (by first | assumption | omega | decide) ?_
  show fwWP mX3_isRoll (d + 2) 5 [some (aR 5 0), some (aR 11 0), some (aI (s : Int)), none, none, none, none, none, none] [aI (mSz (h 35 0) (s : Int))] h Q
  have hz1 := mSz_rng hs (s : Int)
  refine w_istore_n [some (aR 5 0), some (aR 11 0), some (aI (s : Int)), some (aI (mSz (h 35 0) (s : Int))), none, none, none, none, none] dX3_isRoll_5 rfl (by decide) ?_
  have esz := mSz_in (h 35 0) hsl
  rw [esz]
  refine w_iload_n dX3_isRoll_6 rfl ?_
  refine w_iconst dX3_isRoll_7 ?_
  refine w_irem dX3_isRoll_8 (by omega) (by omega) ?_
  have hrm := fwRem_nn (x := h 35 0 s) (y := 2) (by omega) (by omega)
  rw [hrm]
  refine w_if_eq 14 dX3_isRoll_9 (by decide) (by omega) (fun c9 => ?_) (fun c9 => ?_)
  · refine w_iconst dX3_isRoll_14 ?_
    refine w_istore [some (aR 5 0), some (aR 11 0), some (aI (s : Int)), some (aI (h 35 0 s)), some (aI 0), none, none, none, none] dX3_isRoll_15 rfl (by decide) ?_
    have lp17 : ∀ c : Nat, c ≤ (h 35 0 s / 2).toNat → ∀ (y17  : Int), y17 = 2 * (c : Int) → (mAll (mRollP (h 33 s) (h 5 0 3)) c = true) → fwWP mX3_isRoll (d + 2) 17 [some (aR 5 0), some (aR 11 0), some (aI (s : Int)), some (aI (h 35 0 s)), some (aI y17), none, none, none, none] [] h Q := by
      refine fw_up (fun c hc17 ih17 => ?_)
      intro y17  ey17 iv17_0
      subst ey17
      show fwWP mX3_isRoll (d + 2) 17 [some (aR 5 0), some (aR 11 0), some (aI (s : Int)), some (aI (h 35 0 s)), some (aI (2 * (c : Int))), none, none, none, none] [] h Q
      refine w_iload dX3_isRoll_17 rfl ?_
      refine w_iload_n dX3_isRoll_19 rfl ?_
      refine w_icmp_ge 85 dX3_isRoll_20 (by decide) (by omega) (by omega) (fun c20 => ?_) (fun c20 => ?_)
      · have ec17 : (h 35 0 s / 2).toNat = c := by omega
        subst ec17
        refine w_iconst dX3_isRoll_85 ?_
        exact w_zretE (P := mRoll (h 33 s) (h 35 0 s) (h 5 0 3)) dX3_isRoll_86 rfl (by rw [fwB_t ⟨by omega, iv17_0⟩]) k
      · have hlt : c < (h 35 0 s / 2).toNat := by omega
        refine w_aload_n dX3_isRoll_23 rfl ?_
        refine w_iload_n dX3_isRoll_24 rfl ?_
        refine w_iload dX3_isRoll_25 rfl ?_
        refine w_callV (d := d + 1) (S := []) [aI (s : Int), aI (2 * (c : Int))] dX3_isRoll_27 ml_X3_70 ok_X8_numberAt vi_X8_numberAt rfl rfl (by decide) rfl (Nat.le_of_ble_eq_true rfl) ?_
        refine c_X8_numberN (d := d) s (2 * c) (s : Int) (2 * (c : Int)) (by omega) (by omega) (by first | assumption | omega | decide) (by first | assumption | omega | decide) ?_
        show fwWP mX3_isRoll (d + 2) 30 [some (aR 5 0), some (aR 11 0), some (aI (s : Int)), some (aI (h 35 0 s)), some (aI (2 * (c : Int))), none, none, none, none] [aJ (h 33 s (2 * c))] h Q
        have hl4 := (hs s (by omega)).2.2 (2 * c) (by omega)
        refine w_lstore [some (aR 5 0), some (aR 11 0), some (aI (s : Int)), some (aI (h 35 0 s)), some (aI (2 * (c : Int))), some (aJ (h 33 s (2 * c))), none, none, none] dX3_isRoll_30 rfl (by decide) ?_
        refine w_aload_n dX3_isRoll_32 rfl ?_
        refine w_iload_n dX3_isRoll_33 rfl ?_
        refine w_iload dX3_isRoll_34 rfl ?_
        refine w_iconst dX3_isRoll_36 ?_
        refine w_iadd dX3_isRoll_37 ?_
        refine w_callV (d := d + 1) (S := []) [aI (s : Int), aI ((2 * (c : Int)) + 1)] dX3_isRoll_38 ml_X3_70 ok_X8_numberAt vi_X8_numberAt rfl rfl (by decide) rfl (Nat.le_of_ble_eq_true rfl) ?_
        refine c_X8_numberN (d := d) s ((2 * c) + 1) (s : Int) ((2 * (c : Int)) + 1) (by omega) (by omega) (by first | assumption | omega | decide) (by first | assumption | omega | decide) ?_
        show fwWP mX3_isRoll (d + 2) 41 [some (aR 5 0), some (aR 11 0), some (aI (s : Int)), some (aI (h 35 0 s)), some (aI (2 * (c : Int))), some (aJ (h 33 s (2 * c))), none, none, none] [aJ (h 33 s ((2 * c) + 1))] h Q
        have hl5 := (hs s (by omega)).2.2 ((2 * c) + 1) (by omega)
        refine w_lstore [some (aR 5 0), some (aR 11 0), some (aI (s : Int)), some (aI (h 35 0 s)), some (aI (2 * (c : Int))), some (aJ (h 33 s (2 * c))), none, some (aJ (h 33 s ((2 * c) + 1))), none] dX3_isRoll_41 rfl (by decide) ?_
        refine w_lload dX3_isRoll_43 rfl ?_
        refine w_lconst (z := 0) dX3_isRoll_45 rfl ?_
        refine w_lc_lt 77 dX3_isRoll_46 dX3_isRoll_47 (by decide) (by omega) (by omega) (fun c47 => ?_) (fun c47 => ?_)
        · refine w_iconst dX3_isRoll_77 ?_
          exact w_zretE (P := mRoll (h 33 s) (h 35 0 s) (h 5 0 3)) dX3_isRoll_78 rfl (by rw [fwB_f (fun q => by have := (mAll_iff _ _).mp q.2 c hlt; unfold mRollP at this; simp only [decide_eq_true_eq] at this; omega)]) k
        · refine w_lload dX3_isRoll_50 rfl ?_
          refine w_aload_n dX3_isRoll_52 rfl ?_
          refine w_geti dX3_isRoll_53 fl_X3_21 rfl (by decide) ?_
          refine w_i2l dX3_isRoll_56 (by omega) ?_
          refine w_lc_ge 77 dX3_isRoll_57 dX3_isRoll_58 (by decide) (by omega) (by omega) (fun c58 => ?_) (fun c58 => ?_)
          · refine w_iconst dX3_isRoll_77 ?_
            exact w_zretE (P := mRoll (h 33 s) (h 35 0 s) (h 5 0 3)) dX3_isRoll_78 rfl (by rw [fwB_f (fun q => by have := (mAll_iff _ _).mp q.2 c hlt; unfold mRollP at this; simp only [decide_eq_true_eq] at this; omega)]) k
          · refine w_lload dX3_isRoll_61 rfl ?_
            refine w_lconst (z := 0) dX3_isRoll_63 rfl ?_
            refine w_lc_lt 77 dX3_isRoll_64 dX3_isRoll_65 (by decide) (by omega) (by omega) (fun c65 => ?_) (fun c65 => ?_)
            · refine w_iconst dX3_isRoll_77 ?_
              exact w_zretE (P := mRoll (h 33 s) (h 35 0 s) (h 5 0 3)) dX3_isRoll_78 rfl (by rw [fwB_f (fun q => by have := (mAll_iff _ _).mp q.2 c hlt; unfold mRollP at this; simp only [decide_eq_true_eq] at this; omega)]) k
            · refine w_lload dX3_isRoll_68 rfl ?_
              refine w_ldc2 (n := 999) dX3_isRoll_70 cs_X3_74 ?_
              refine w_lc_le 79 dX3_isRoll_73 dX3_isRoll_74 (by decide) (by omega) (by omega) (fun c74 => ?_) (fun c74 => ?_)
              · refine w_iinc [some (aR 5 0), some (aR 11 0), some (aI (s : Int)), some (aI (h 35 0 s)), some (aI ((2 * (c : Int)) + 2)), some (aJ (h 33 s (2 * c))), none, some (aJ (h 33 s ((2 * c) + 1))), none] dX3_isRoll_79 rfl rfl (by decide) ?_
                refine w_goto 17 dX3_isRoll_82 (by decide) ?_
                refine w_drop [5, 7] [some (aR 5 0), some (aR 11 0), some (aI (s : Int)), some (aI (h 35 0 s)), some (aI ((2 * (c : Int)) + 2)), none, none, none, none] rfl ?_
                refine ih17 (by omega) _ ?_ ?_
                · exact (by omega)
                · exact (by rw [mAll, iv17_0, Bool.true_and]; unfold mRollP; simp only [decide_eq_true_eq]; omega)
              · refine w_iconst dX3_isRoll_77 ?_
                exact w_zretE (P := mRoll (h 33 s) (h 35 0 s) (h 5 0 3)) dX3_isRoll_78 rfl (by rw [fwB_f (fun q => by have := (mAll_iff _ _).mp q.2 c hlt; unfold mRollP at this; simp only [decide_eq_true_eq] at this; omega)]) k
    refine lp17 0 (Nat.zero_le _) _ ?_ ?_
    · exact (by omega)
    · exact rfl
  · refine w_iconst dX3_isRoll_12 ?_
    exact w_zretE (P := mRoll (h 33 s) (h 35 0 s) (h 5 0 3)) dX3_isRoll_13 rfl (by rw [fwB_f (fun q => by have := q.1; omega)]) k
def mNew (N : Nat → Int) (c j : Nat) : Bool := decide (¬ (N (2 * j) = N (2 * c) ∧ N (2 * j + 1) = N (2 * c + 1)))
def mHow (N F : Nat → Int) (c : Nat) : Int := if mAll (mNew N c) c = true then (if N (2 * c + 1) < F (7 * (N (2 * c)).toNat + 1) then 0 else 2) else 1
set_option maxRecDepth 100000 in
set_option maxHeartbeats 4000000 in
theorem c_X3_howStands {d : Nat} {h : fwH} {Q : Option fwV → fwH → Prop} (s b : Nat) (hP : pOk h 0) (hs : sOk h) (hsl : s < 4) (hb : 2 * b + 1 < 60) (hfo : 0 ≤ h 33 s (2 * b) ∧ h 33 s (2 * b) < h 5 0 3) (k : Q (some (aI (mHow (h 33 s) (h 18 0) b))) h) : fwCt mX3_howStands (d + 2) [aR 5 0, aR 11 0, aI (s : Int), aI (2 * (b : Int))] h Q := by
  refine fwCt_of [some (aR 5 0), some (aR 11 0), some (aI (s : Int)), some (aI (2 * (b : Int))), none, none, none, none, none] rfl rfl rfl ?_
  obtain ⟨⟨p1, p2⟩, p3⟩ := id hP
  refine w_aload_n dX3_howStands_0 rfl ?_
  refine w_iload_n dX3_howStands_1 rfl ?_
  refine w_iload_n dX3_howStands_2 rfl ?_
  refine w_callV (d := d + 1) (S := []) [aI (s : Int), aI (2 * (b : Int))] dX3_howStands_3 ml_X3_70 ok_X8_numberAt vi_X8_numberAt rfl rfl (by decide) rfl (Nat.le_of_ble_eq_true rfl) ?_
  refine c_X8_numberN (d := d) s (2 * b) (s : Int) (2 * (b : Int)) (by omega) (by omega) (by first | assumption | omega | decide) (by first | assumption | omega | decide) ?_
  show fwWP mX3_howStands (d + 2) 6 [some (aR 5 0), some (aR 11 0), some (aI (s : Int)), some (aI (2 * (b : Int))), none, none, none, none, none] [aJ (h 33 s (2 * b))] h Q
  have hl1 := (hs s (by omega)).2.2 (2 * b) (by omega)
  refine w_lstore [some (aR 5 0), some (aR 11 0), some (aI (s : Int)), some (aI (2 * (b : Int))), some (aJ (h 33 s (2 * b))), none, none, none, none] dX3_howStands_6 rfl (by decide) ?_
  refine w_aload_n dX3_howStands_8 rfl ?_
  refine w_iload_n dX3_howStands_9 rfl ?_
  refine w_iload_n dX3_howStands_10 rfl ?_
  refine w_iconst dX3_howStands_11 ?_
  refine w_iadd dX3_howStands_12 ?_
  refine w_callV (d := d + 1) (S := []) [aI (s : Int), aI ((2 * (b : Int)) + 1)] dX3_howStands_13 ml_X3_70 ok_X8_numberAt vi_X8_numberAt rfl rfl (by decide) rfl (Nat.le_of_ble_eq_true rfl) ?_
  refine c_X8_numberN (d := d) s ((2 * b) + 1) (s : Int) ((2 * (b : Int)) + 1) (by omega) (by omega) (by first | assumption | omega | decide) (by first | assumption | omega | decide) ?_
  show fwWP mX3_howStands (d + 2) 16 [some (aR 5 0), some (aR 11 0), some (aI (s : Int)), some (aI (2 * (b : Int))), some (aJ (h 33 s (2 * b))), none, none, none, none] [aJ (h 33 s ((2 * b) + 1))] h Q
  have hl2 := (hs s (by omega)).2.2 ((2 * b) + 1) (by omega)
  refine w_lstore [some (aR 5 0), some (aR 11 0), some (aI (s : Int)), some (aI (2 * (b : Int))), some (aJ (h 33 s (2 * b))), none, some (aJ (h 33 s ((2 * b) + 1))), none, none] dX3_howStands_16 rfl (by decide) ?_
  refine w_iconst dX3_howStands_18 ?_
  refine w_istore [some (aR 5 0), some (aR 11 0), some (aI (s : Int)), some (aI (2 * (b : Int))), some (aJ (h 33 s (2 * b))), none, some (aJ (h 33 s ((2 * b) + 1))), none, some (aI 0)] dX3_howStands_19 rfl (by decide) ?_
  have lp21 : ∀ c : Nat, c ≤ b → ∀ (y21  : Int), y21 = 2 * (c : Int) → (mAll (mNew (h 33 s) b) c = true) → fwWP mX3_howStands (d + 2) 21 [some (aR 5 0), some (aR 11 0), some (aI (s : Int)), some (aI (2 * (b : Int))), some (aJ (h 33 s (2 * b))), none, some (aJ (h 33 s ((2 * b) + 1))), none, some (aI y21)] [] h Q := by
    refine fw_up (fun c hc21 ih21 => ?_)
    intro y21  ey21 iv21_0
    subst ey21
    show fwWP mX3_howStands (d + 2) 21 [some (aR 5 0), some (aR 11 0), some (aI (s : Int)), some (aI (2 * (b : Int))), some (aJ (h 33 s (2 * b))), none, some (aJ (h 33 s ((2 * b) + 1))), none, some (aI (2 * (c : Int)))] [] h Q
    refine w_iload dX3_howStands_21 rfl ?_
    refine w_iload_n dX3_howStands_23 rfl ?_
    refine w_icmp_ge 63 dX3_howStands_24 (by decide) (by omega) (by omega) (fun c24 => ?_) (fun c24 => ?_)
    · have ec21 : b = c := by omega
      subst ec21
      have hfn := p3 (h 33 s (2 * b)).toNat (by omega)
      refine w_lload dX3_howStands_63 rfl ?_
      refine w_aload_n dX3_howStands_65 rfl ?_
      refine w_lload dX3_howStands_66 rfl ?_
      refine w_l2i dX3_howStands_68 ?_
      refine w_iconst dX3_howStands_69 ?_
      refine w_callV (d := d + 1) (S := [aJ (h 33 s ((2 * b) + 1))]) [aI (h 33 s (2 * b)), aI 1] dX3_howStands_70 ml_X3_25 ok_X3_fact vi_X3_fact rfl rfl (by decide) rfl (Nat.le_of_ble_eq_true rfl) ?_
      refine c_X3_factE (d := (d + 1)) 0 ((h 33 s (2 * b)).toNat) 1 (h 33 s (2 * b)) (by omega) (by decide) (by first | assumption | omega | decide) (by first | assumption | omega | decide) ?_
      show fwWP mX3_howStands (d + 2) 73 [some (aR 5 0), some (aR 11 0), some (aI (s : Int)), some (aI (2 * (b : Int))), some (aJ (h 33 s (2 * b))), none, some (aJ (h 33 s ((2 * b) + 1))), none, some (aI (2 * ((b : Nat) : Int)))] [aI (h 18 0 (7 * ((h 33 s (2 * b)).toNat) + 1)), aJ (h 33 s ((2 * b) + 1))] h Q
      refine w_i2l dX3_howStands_73 (by omega) ?_
      refine w_lc_ge 82 dX3_howStands_74 dX3_howStands_75 (by decide) (by omega) (by omega) (fun c75 => ?_) (fun c75 => ?_)
      · refine w_iconst dX3_howStands_82 ?_
        exact w_iretE dX3_howStands_83 rfl (by rw [mHow]; rw [if_pos iv21_0]; first | rw [if_pos (by omega)] | rw [if_neg (by omega)]) k
      · refine w_iconst dX3_howStands_78 ?_
        refine w_goto 83 dX3_howStands_79 (by decide) ?_
        exact w_iretE dX3_howStands_83 rfl (by rw [mHow]; rw [if_pos iv21_0]; first | rw [if_pos (by omega)] | rw [if_neg (by omega)]) k
    · refine w_aload_n dX3_howStands_27 rfl ?_
      refine w_iload_n dX3_howStands_28 rfl ?_
      refine w_iload dX3_howStands_29 rfl ?_
      refine w_callV (d := d + 1) (S := []) [aI (s : Int), aI (2 * (c : Int))] dX3_howStands_31 ml_X3_70 ok_X8_numberAt vi_X8_numberAt rfl rfl (by decide) rfl (Nat.le_of_ble_eq_true rfl) ?_
      refine c_X8_numberN (d := d) s (2 * c) (s : Int) (2 * (c : Int)) (by omega) (by omega) (by first | assumption | omega | decide) (by first | assumption | omega | decide) ?_
      show fwWP mX3_howStands (d + 2) 34 [some (aR 5 0), some (aR 11 0), some (aI (s : Int)), some (aI (2 * (b : Int))), some (aJ (h 33 s (2 * b))), none, some (aJ (h 33 s ((2 * b) + 1))), none, some (aI (2 * (c : Int)))] [aJ (h 33 s (2 * c))] h Q
      have hl4 := (hs s (by omega)).2.2 (2 * c) (by omega)
      refine w_lload dX3_howStands_34 rfl ?_
      refine w_lc_ne 57 dX3_howStands_36 dX3_howStands_37 (by decide) (by omega) (by omega) (fun c37 => ?_) (fun c37 => ?_)
      · refine w_iinc [some (aR 5 0), some (aR 11 0), some (aI (s : Int)), some (aI (2 * (b : Int))), some (aJ (h 33 s (2 * b))), none, some (aJ (h 33 s ((2 * b) + 1))), none, some (aI ((2 * (c : Int)) + 2))] dX3_howStands_57 rfl rfl (by decide) ?_
        refine w_goto 21 dX3_howStands_60 (by decide) ?_
        refine ih21 (by omega) _ ?_ ?_
        · exact (by omega)
        · exact (by rw [mAll, iv21_0, Bool.true_and]; unfold mNew; simp only [decide_eq_true_eq]; omega)
      · refine w_aload_n dX3_howStands_40 rfl ?_
        refine w_iload_n dX3_howStands_41 rfl ?_
        refine w_iload dX3_howStands_42 rfl ?_
        refine w_iconst dX3_howStands_44 ?_
        refine w_iadd dX3_howStands_45 ?_
        refine w_callV (d := d + 1) (S := []) [aI (s : Int), aI ((2 * (c : Int)) + 1)] dX3_howStands_46 ml_X3_70 ok_X8_numberAt vi_X8_numberAt rfl rfl (by decide) rfl (Nat.le_of_ble_eq_true rfl) ?_
        refine c_X8_numberN (d := d) s ((2 * c) + 1) (s : Int) ((2 * (c : Int)) + 1) (by omega) (by omega) (by first | assumption | omega | decide) (by first | assumption | omega | decide) ?_
        show fwWP mX3_howStands (d + 2) 49 [some (aR 5 0), some (aR 11 0), some (aI (s : Int)), some (aI (2 * (b : Int))), some (aJ (h 33 s (2 * b))), none, some (aJ (h 33 s ((2 * b) + 1))), none, some (aI (2 * (c : Int)))] [aJ (h 33 s ((2 * c) + 1))] h Q
        have hl5 := (hs s (by omega)).2.2 ((2 * c) + 1) (by omega)
        refine w_lload dX3_howStands_49 rfl ?_
        refine w_lc_ne 57 dX3_howStands_51 dX3_howStands_52 (by decide) (by omega) (by omega) (fun c52 => ?_) (fun c52 => ?_)
        · refine w_iinc [some (aR 5 0), some (aR 11 0), some (aI (s : Int)), some (aI (2 * (b : Int))), some (aJ (h 33 s (2 * b))), none, some (aJ (h 33 s ((2 * b) + 1))), none, some (aI ((2 * (c : Int)) + 2))] dX3_howStands_57 rfl rfl (by decide) ?_
          refine w_goto 21 dX3_howStands_60 (by decide) ?_
          refine ih21 (by omega) _ ?_ ?_
          · exact (by omega)
          · exact (by rw [mAll, iv21_0, Bool.true_and]; unfold mNew; simp only [decide_eq_true_eq]; omega)
        · refine w_iconst dX3_howStands_55 ?_
          exact w_iretE dX3_howStands_56 rfl (by rw [mHow]; rw [if_neg (fun q => by have := (mAll_iff _ _).mp q c (by omega); unfold mNew at this; simp only [decide_eq_true_eq] at this; omega)]) k
  refine lp21 0 (Nat.zero_le _) _ ?_ ?_
  · exact (by omega)
  · exact rfl
def mStand (N F : Nat → Int) (how : Int) : Nat → Int
  | 0 => 0
  | c + 1 => if mHow N F c = how then mStand N F how c + 1 else mStand N F how c
theorem mHow_rng (N F : Nat → Int) (c : Nat) : 0 ≤ mHow N F c ∧ mHow N F c ≤ 2 := by
  unfold mHow
  split
  · split <;> omega
  · omega
set_option maxRecDepth 100000 in
set_option maxHeartbeats 4000000 in
theorem c_X3_standing {d : Nat} {h : fwH} {Q : Option fwV → fwH → Prop} (s : Nat) (y : Int) (hP : pOk h 0) (hs : sOk h) (hsl : s < 4) (hz : 0 ≤ h 35 0 s) (hr : mRoll (h 33 s) (h 35 0 s) (h 5 0 3)) (hy : 0 ≤ y ∧ y ≤ 2) (k : Q (some (aI (mStand (h 33 s) (h 18 0) y (h 35 0 s / 2).toNat))) h) : fwCt mX3_standing (d + 3) [aR 5 0, aR 11 0, aI (s : Int), aI y] h Q := by
  refine fwCt_of [some (aR 5 0), some (aR 11 0), some (aI (s : Int)), some (aI y), none, none] rfl rfl rfl ?_
  obtain ⟨⟨p1, p2⟩, p3⟩ := id hP
  have hss := hs s hsl
  have hev := hr.1
  refine w_iconst dX3_standing_0 ?_
  refine w_istore [some (aR 5 0), some (aR 11 0), some (aI (s : Int)), some (aI y), some (aI 0), none] dX3_standing_1 rfl (by decide) ?_
  refine w_iconst dX3_standing_3 ?_
  refine w_istore [some (aR 5 0), some (aR 11 0), some (aI (s : Int)), some (aI y), some (aI 0), some (aI 0)] dX3_standing_4 rfl (by decide) ?_
  have lp6 : ∀ c : Nat, c ≤ (h 35 0 s / 2).toNat → ∀ (y6 su : Int), y6 = 2 * (c : Int) → su = mStand (h 33 s) (h 18 0) y c → fwWP mX3_standing (d + 3) 6 [some (aR 5 0), some (aR 11 0), some (aI (s : Int)), some (aI y), some (aI su), some (aI y6)] [] h Q := by
    refine fw_up (fun c hc6 ih6 => ?_)
    intro y6 su ey6 e_su
    subst ey6
    subst e_su
    show fwWP mX3_standing (d + 3) 6 [some (aR 5 0), some (aR 11 0), some (aI (s : Int)), some (aI y), some (aI (mStand (h 33 s) (h 18 0) y c)), some (aI (2 * (c : Int)))] [] h Q
    refine w_iload dX3_standing_6 rfl ?_
    refine w_aload_n dX3_standing_8 rfl ?_
    refine w_iload_n dX3_standing_9 rfl ?_
    refine w_callV (d := d + 2) (S := [aI (2 * (c : Int))]) [aI (s : Int)] dX3_standing_10 ml_X3_65 ok_X8_sizeOf vi_X8_sizeOf rfl rfl (by decide) rfl (Nat.le_of_ble_eq_true rfl) ?_
    refine c_X8_sizeOf (d := (d + 2)) (s : Int) (by first | assumption | omega | decide) ?_
    show fwWP mX3_standing (d + 3) 13 [some (aR 5 0), some (aR 11 0), some (aI (s : Int)), some (aI y), some (aI (mStand (h 33 s) (h 18 0) y c)), some (aI (2 * (c : Int)))] [aI (mSz (h 35 0) (s : Int)), aI (2 * (c : Int))] h Q
    have hz1 := mSz_rng hs (s : Int)
    rw [mSz_in (h 35 0) hsl]
    refine w_icmp_ge 37 dX3_standing_13 (by decide) (by omega) (by omega) (fun c13 => ?_) (fun c13 => ?_)
    · have ec6 : (h 35 0 s / 2).toNat = c := by omega
      subst ec6
      refine w_iload dX3_standing_37 rfl ?_
      exact w_iretE dX3_standing_39 rfl (by rfl) k
    · have hro := (mAll_iff _ _).mp hr.2 c (by omega)
      unfold mRollP at hro
      simp only [decide_eq_true_eq] at hro
      refine w_aload_n dX3_standing_16 rfl ?_
      refine w_aload_n dX3_standing_17 rfl ?_
      refine w_iload_n dX3_standing_18 rfl ?_
      refine w_iload dX3_standing_19 rfl ?_
      refine w_callV (d := d + 2) (S := []) [aR 11 0, aI (s : Int), aI (2 * (c : Int))] dX3_standing_21 ml_X3_76 ok_X3_howStands vi_X3_howStands rfl rfl (by decide) rfl (Nat.le_of_ble_eq_true rfl) ?_
      refine c_X3_howStands (d := d) s c (by first | assumption | omega | decide) (by first | assumption | omega | decide) (by first | assumption | omega | decide) (by first | assumption | omega | decide) (by first | assumption | omega | decide) ?_
      show fwWP mX3_standing (d + 3) 24 [some (aR 5 0), some (aR 11 0), some (aI (s : Int)), some (aI y), some (aI (mStand (h 33 s) (h 18 0) y c)), some (aI (2 * (c : Int)))] [aI (mHow (h 33 s) (h 18 0) c)] h Q
      have hho := mHow_rng (h 33 s) (h 18 0) c
      refine w_iload_n dX3_standing_24 rfl ?_
      refine w_icmp_ne 31 dX3_standing_25 (by decide) (by omega) (by omega) (fun c25 => ?_) (fun c25 => ?_)
      · refine w_iinc [some (aR 5 0), some (aR 11 0), some (aI (s : Int)), some (aI y), some (aI (mStand (h 33 s) (h 18 0) y c)), some (aI ((2 * (c : Int)) + 2))] dX3_standing_31 rfl rfl (by decide) ?_
        refine w_goto 6 dX3_standing_34 (by decide) ?_
        refine ih6 (by omega) _ _ ?_ ?_
        · exact (by omega)
        · exact (by rw [mStand]; first | rw [if_pos (by omega)] | rw [if_neg (by omega)])
      · refine w_iinc [some (aR 5 0), some (aR 11 0), some (aI (s : Int)), some (aI y), some (aI ((mStand (h 33 s) (h 18 0) y c) + 1)), some (aI (2 * (c : Int)))] dX3_standing_28 rfl rfl (by decide) ?_
        refine w_iinc [some (aR 5 0), some (aR 11 0), some (aI (s : Int)), some (aI y), some (aI ((mStand (h 33 s) (h 18 0) y c) + 1)), some (aI ((2 * (c : Int)) + 2))] dX3_standing_31 rfl rfl (by decide) ?_
        refine w_goto 6 dX3_standing_34 (by decide) ?_
        refine ih6 (by omega) _ _ ?_ ?_
        · exact (by omega)
        · exact (by rw [mStand]; first | rw [if_pos (by omega)] | rw [if_neg (by omega)])
  refine lp6 0 (Nat.zero_le _) _ _ ?_ ?_
  · exact (by omega)
  · exact rfl

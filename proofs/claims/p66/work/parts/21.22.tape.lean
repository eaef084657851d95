/-! FootLower$Tape: the bytes, and how they are cut -/
/-- the byte at a place, -1 where there is none -/
def mBy (h : fwH) (p : Nat) : Int := if (p : Int) < h 1 0 1 then fwAnd (h 13 0 p) 255 else -1
theorem fwAnd255 (y : Int) : 0 ≤ fwAnd y 255 ∧ fwAnd y 255 ≤ 255 := by
  unfold fwAnd
  obtain ⟨j, hj, e⟩ := pk_andE (Int32.ofInt y) (m := Int32.ofInt 255) 8 (by decide)
  rw [e, nI_toInt (by omega)]
  omega
theorem mBy_rng (h : fwH) (p : Nat) : -1 ≤ mBy h p ∧ mBy h p ≤ 255 := by
  unfold mBy
  split
  · have := fwAnd255 (h 13 0 p); omega
  · omega
def mLet (x : Int) : Bool := decide (97 ≤ x ∧ x ≤ 122)
def mDig (x : Int) : Bool := decide (48 ≤ x ∧ x ≤ 57)
def mLetEnd (b : Nat → Int) (p : Nat) : Nat := p + mFst (fun i => mLet (b (p + i))) 900
def mDigEnd (b : Nat → Int) (p : Nat) : Nat := p + mFst (fun i => mDig (b (p + i))) 900
def tOk (h : fwH) : Prop := 0 ≤ h 1 0 1 ∧ h 1 0 1 ≤ 900
set_option maxRecDepth 100000 in
set_option maxHeartbeats 4000000 in
theorem c_X9_hasRoomFor {d : Nat} {h : fwH} {Q : Option fwV → fwH → Prop}  (hT : tOk h) (k : Q (some (aI (fwB (h 1 0 1 ≤ 880)))) h) : fwCt mX9_hasRoomFor (d + 0) [aR 1 0, aI 20] h Q := by
  refine fwCt_of [some (aR 1 0), some (aI 20)] rfl rfl rfl ?_
  obtain ⟨t1, t2⟩ := id hT
  refine w_aload_n dX9_hasRoomFor_0 rfl ?_
  refine w_geti dX9_hasRoomFor_1 fl_X9_25 rfl (by decide) ?_
  refine w_iload_n dX9_hasRoomFor_4 rfl ?_
  refine w_iadd dX9_hasRoomFor_5 ?_
  refine w_sipush dX9_hasRoomFor_6 rfl ?_
  refine w_icmp_gt 16 dX9_hasRoomFor_9 (by decide) (by omega) (by omega) (fun c9 => ?_) (fun c9 => ?_)
  · refine w_iconst dX9_hasRoomFor_16 ?_
    exact w_zretE dX9_hasRoomFor_17 rfl (by first | (exfalso; omega) | (rw [fwB_t (by omega)]) | (rw [fwB_f (by omega)])) k
  · refine w_iconst dX9_hasRoomFor_12 ?_
    refine w_goto 17 dX9_hasRoomFor_13 (by decide) ?_
    exact w_zretE dX9_hasRoomFor_17 rfl (by first | (exfalso; omega) | (rw [fwB_t (by omega)]) | (rw [fwB_f (by omega)])) k
set_option maxRecDepth 100000 in
set_option maxHeartbeats 4000000 in
theorem c_X9_byteAt {d : Nat} {h : fwH} {Q : Option fwV → fwH → Prop} (p : Nat) (hT : tOk h) (hp : p < 100000) (k : Q (some (aI (mBy h p))) h) : fwCt mX9_byteAt (d + 0) [aR 1 0, aI (p : Int)] h Q := by
  refine fwCt_of [some (aR 1 0), some (aI (p : Int))] rfl rfl rfl ?_
  obtain ⟨t1, t2⟩ := id hT
  refine w_iload_n dX9_byteAt_0 rfl ?_
  refine w_if_lt 34 dX9_byteAt_1 (by decide) (by omega) (fun c1 => ?_) (fun c1 => ?_)
  · (exfalso; omega)
  · refine w_iload_n dX9_byteAt_4 rfl ?_
    refine w_aload_n dX9_byteAt_5 rfl ?_
    refine w_geti dX9_byteAt_6 fl_X9_25 rfl (by decide) ?_
    refine w_icmp_ge 34 dX9_byteAt_9 (by decide) (by omega) (by omega) (fun c9 => ?_) (fun c9 => ?_)
    · refine w_iconst dX9_byteAt_34 ?_
      exact w_iretE dX9_byteAt_35 rfl (by rw [mBy]; first | rw [if_pos (by omega)] | rw [if_neg (by omega)]) k
    · refine w_iload_n dX9_byteAt_12 rfl ?_
      refine w_aload_n dX9_byteAt_13 rfl ?_
      refine w_getr 13 0 dX9_byteAt_14 fl_X9_9 rfl (by decide) ?_
      refine w_alen dX9_byteAt_17 rfl (by decide) (by decide) ?_
      refine w_icmp_ge 34 dX9_byteAt_18 (by decide) (by omega) (by omega) (fun c18 => ?_) (fun c18 => ?_)
      · (exfalso; omega)
      · refine w_aload_n dX9_byteAt_21 rfl ?_
        refine w_getr 13 0 dX9_byteAt_22 fl_X9_9 rfl (by decide) ?_
        refine w_iload_n dX9_byteAt_25 rfl ?_
        refine w_baldE (v := h 13 0 p) dX9_byteAt_26 rfl (by decide) (by omega) (by omega) (by rw [Int.toNat_natCast]) ?_
        refine w_sipush dX9_byteAt_27 rfl ?_
        refine w_iand dX9_byteAt_30 ?_
        refine w_goto 35 dX9_byteAt_31 (by decide) ?_
        exact w_iretE dX9_byteAt_35 rfl (by rw [mBy]; first | rw [if_pos (by omega)] | rw [if_neg (by omega)]) k
theorem c_byteX {d : Nat} {h : fwH} {Q : Option fwV → fwH → Prop} (p : Nat) (x : Int) (e : x = (p : Int)) (hT : tOk h) (hp : p < 100000) (k : Q (some (aI (mBy h p))) h) : fwCt mX9_byteAt d [aR 1 0, aI x] h Q := by
  subst e
  exact c_X9_byteAt p hT hp k
set_option maxRecDepth 100000 in
set_option maxHeartbeats 4000000 in
theorem c_X9_isLetter {d : Nat} {h : fwH} {Q : Option fwV → fwH → Prop} (x : Int) (hx : -1 ≤ x ∧ x ≤ 255) (k : Q (some (aI (fwB (mLet x = true)))) h) : fwCt mX9_isLetter (d + 0) [aI x] h Q := by
  refine fwCt_of [some (aI x)] rfl rfl rfl ?_
  refine w_iload_n dX9_isLetter_0 rfl ?_
  refine w_bipush dX9_isLetter_1 rfl ?_
  refine w_icmp_lt 16 dX9_isLetter_3 (by decide) (by omega) (by omega) (fun c3 => ?_) (fun c3 => ?_)
  · refine w_iconst dX9_isLetter_16 ?_
    exact w_zretE (P := mLet x = true) dX9_isLetter_17 rfl (by unfold mLet; first | (rw [fwB_t (by simp only [decide_eq_true_eq]; omega)]) | (rw [fwB_f (by simp only [decide_eq_true_eq]; omega)])) k
  · refine w_iload_n dX9_isLetter_6 rfl ?_
    refine w_bipush dX9_isLetter_7 rfl ?_
    refine w_icmp_gt 16 dX9_isLetter_9 (by decide) (by omega) (by omega) (fun c9 => ?_) (fun c9 => ?_)
    · refine w_iconst dX9_isLetter_16 ?_
      exact w_zretE (P := mLet x = true) dX9_isLetter_17 rfl (by unfold mLet; first | (rw [fwB_t (by simp only [decide_eq_true_eq]; omega)]) | (rw [fwB_f (by simp only [decide_eq_true_eq]; omega)])) k
    · refine w_iconst dX9_isLetter_12 ?_
      refine w_goto 17 dX9_isLetter_13 (by decide) ?_
      exact w_zretE (P := mLet x = true) dX9_isLetter_17 rfl (by unfold mLet; first | (rw [fwB_t (by simp only [decide_eq_true_eq]; omega)]) | (rw [fwB_f (by simp only [decide_eq_true_eq]; omega)])) k
set_option maxRecDepth 100000 in
set_option maxHeartbeats 4000000 in
theorem c_X9_isDigit {d : Nat} {h : fwH} {Q : Option fwV → fwH → Prop} (x : Int) (hx : -1 ≤ x ∧ x ≤ 255) (k : Q (some (aI (fwB (mDig x = true)))) h) : fwCt mX9_isDigit (d + 0) [aI x] h Q := by
  refine fwCt_of [some (aI x)] rfl rfl rfl ?_
  refine w_iload_n dX9_isDigit_0 rfl ?_
  refine w_bipush dX9_isDigit_1 rfl ?_
  refine w_icmp_lt 16 dX9_isDigit_3 (by decide) (by omega) (by omega) (fun c3 => ?_) (fun c3 => ?_)
  · refine w_iconst dX9_isDigit_16 ?_
    exact w_zretE (P := mDig x = true) dX9_isDigit_17 rfl (by unfold mDig; first | (rw [fwB_t (by simp only [decide_eq_true_eq]; omega)]) | (rw [fwB_f (by simp only [decide_eq_true_eq]; omega)])) k
  · refine w_iload_n dX9_isDigit_6 rfl ?_
    refine w_bipush dX9_isDigit_7 rfl ?_
    refine w_icmp_gt 16 dX9_isDigit_9 (by decide) (by omega) (by omega) (fun c9 => ?_) (fun c9 => ?_)
    · refine w_iconst dX9_isDigit_16 ?_
      exact w_zretE (P := mDig x = true) dX9_isDigit_17 rfl (by unfold mDig; first | (rw [fwB_t (by simp only [decide_eq_true_eq]; omega)]) | (rw [fwB_f (by simp only [decide_eq_true_eq]; omega)])) k
    · refine w_iconst dX9_isDigit_12 ?_
      refine w_goto 17 dX9_isDigit_13 (by decide) ?_
      exact w_zretE (P := mDig x = true) dX9_isDigit_17 rfl (by unfold mDig; first | (rw [fwB_t (by simp only [decide_eq_true_eq]; omega)]) | (rw [fwB_f (by simp only [decide_eq_true_eq]; omega)])) k
set_option maxRecDepth 100000 in
set_option maxHeartbeats 4000000 in
theorem c_X9_wordEnd {d : Nat} {h : fwH} {Q : Option fwV → fwH → Prop} (p : Nat) (hT : tOk h) (hp : p ≤ 900) (k : Q (some (aI ((mLetEnd (mBy h) p : Nat) : Int))) h) : fwCt mX9_wordEnd (d + 1) [aR 1 0, aI (p : Int)] h Q := by
  refine fwCt_of [some (aR 1 0), some (aI (p : Int)), none, none] rfl rfl rfl ?_
  refine w_iload_n dX9_wordEnd_0 rfl ?_
  refine w_istore_n [some (aR 1 0), some (aI (p : Int)), some (aI (p : Int)), none] dX9_wordEnd_1 rfl (by decide) ?_
  refine w_iconst dX9_wordEnd_2 ?_
  refine w_istore_n [some (aR 1 0), some (aI (p : Int)), some (aI (p : Int)), some (aI 0)] dX9_wordEnd_3 rfl (by decide) ?_
  have lp4 : ∀ c : Nat, c ≤ 900 → ∀ (y4 at_ : Int), y4 = (c : Int) → at_ = (p : Int) + (c : Int) → (mFst (fun i => mLet (mBy h (p + i))) c = c) → fwWP mX9_wordEnd (d + 1) 4 [some (aR 1 0), some (aI (p : Int)), some (aI at_), some (aI y4)] [] h Q := by
    refine fw_up (fun c hc4 ih4 => ?_)
    intro y4 at_ ey4 e_at_ iv4_0
    subst ey4
    subst e_at_
    show fwWP mX9_wordEnd (d + 1) 4 [some (aR 1 0), some (aI (p : Int)), some (aI ((p : Int) + (c : Int))), some (aI (c : Int))] [] h Q
    refine w_iload_n dX9_wordEnd_4 rfl ?_
    refine w_sipush dX9_wordEnd_5 rfl ?_
    refine w_icmp_ge 31 dX9_wordEnd_8 (by decide) (by omega) (by omega) (fun c8 => ?_) (fun c8 => ?_)
    · refine w_iload_n dX9_wordEnd_31 rfl ?_
      by_cases e9 : c = 900
      · subst e9
        exact w_iretE dX9_wordEnd_32 rfl (by rw [mLetEnd, iv4_0]; omega) k
      · have est := mFst_stop iv4_0 (show ¬ (fun i => mLet (mBy h (p + i))) c = true from by first | exact cl | omega) (900 - c)
        rw [show c + (900 - c) = 900 by omega] at est
        exact w_iretE dX9_wordEnd_32 rfl (by rw [mLetEnd, est]; omega) k
    · refine w_aload_n dX9_wordEnd_11 rfl ?_
      refine w_iload_n dX9_wordEnd_12 rfl ?_
      refine w_callV (d := d + 0) (S := []) [aI ((p : Int) + (c : Int))] dX9_wordEnd_13 ml_X9_32 ok_X9_byteAt vi_X9_byteAt rfl rfl (by decide) rfl (Nat.le_of_ble_eq_true rfl) ?_
      refine c_byteX (d := d) (p + c) ((p : Int) + (c : Int)) (by omega) (by first | assumption | omega | decide) (by omega) ?_
      show fwWP mX9_wordEnd (d + 1) 16 [some (aR 1 0), some (aI (p : Int)), some (aI ((p : Int) + (c : Int))), some (aI (c : Int))] [aI (mBy h (p + c))] h Q
      have hby2 := mBy_rng h (p + c)
      refine w_callS (d := d + 0) (S := []) [aI (mBy h (p + c))] dX9_wordEnd_16 ml_X9_36 ok_X9_isLetter st_X9_isLetter rfl (Nat.le_of_ble_eq_true rfl) ?_
      refine c_X9_isLetter (d := d) (mBy h (p + c)) (by first | assumption | omega | decide) ?_
      show fwWP mX9_wordEnd (d + 1) 19 [some (aR 1 0), some (aI (p : Int)), some (aI ((p : Int) + (c : Int))), some (aI (c : Int))] [aI (fwB (mLet (mBy h (p + c)) = true))] h Q
      refine w_ifB_eq 31 dX9_wordEnd_19 (by decide) (fun cl => ?_) (fun cl => ?_)
      · refine w_iload_n dX9_wordEnd_31 rfl ?_
        by_cases e9 : c = 900
        · subst e9
          exact w_iretE dX9_wordEnd_32 rfl (by rw [mLetEnd, iv4_0]; omega) k
        · have est := mFst_stop iv4_0 (show ¬ (fun i => mLet (mBy h (p + i))) c = true from by first | exact cl | omega) (900 - c)
          rw [show c + (900 - c) = 900 by omega] at est
          exact w_iretE dX9_wordEnd_32 rfl (by rw [mLetEnd, est]; omega) k
      · refine w_iinc [some (aR 1 0), some (aI (p : Int)), some (aI (((p : Int) + (c : Int)) + 1)), some (aI (c : Int))] dX9_wordEnd_22 rfl rfl (by decide) ?_
        refine w_iinc [some (aR 1 0), some (aI (p : Int)), some (aI (((p : Int) + (c : Int)) + 1)), some (aI ((c : Int) + 1))] dX9_wordEnd_25 rfl rfl (by decide) ?_
        refine w_goto 4 dX9_wordEnd_28 (by decide) ?_
        refine ih4 (by omega) _ _ ?_ ?_ ?_
        · exact (by omega)
        · exact (by omega)
        · exact (mFst_go iv4_0 cl)
  refine lp4 0 (Nat.zero_le _) _ _ ?_ ?_ ?_
  · exact (by omega)
  · exact (by omega)
  · exact rfl
set_option maxRecDepth 100000 in
set_option maxHeartbeats 4000000 in
theorem c_X9_numberEnd {d : Nat} {h : fwH} {Q : Option fwV → fwH → Prop} (p : Nat) (hT : tOk h) (hp : p ≤ 900) (k : Q (some (aI ((mDigEnd (mBy h) p : Nat) : Int))) h) : fwCt mX9_numberEnd (d + 1) [aR 1 0, aI (p : Int)] h Q := by
  refine fwCt_of [some (aR 1 0), some (aI (p : Int)), none, none] rfl rfl rfl ?_
  refine w_iload_n dX9_numberEnd_0 rfl ?_
  refine w_istore_n [some (aR 1 0), some (aI (p : Int)), some (aI (p : Int)), none] dX9_numberEnd_1 rfl (by decide) ?_
  refine w_iconst dX9_numberEnd_2 ?_
  refine w_istore_n [some (aR 1 0), some (aI (p : Int)), some (aI (p : Int)), some (aI 0)] dX9_numberEnd_3 rfl (by decide) ?_
  have lp4 : ∀ c : Nat, c ≤ 900 → ∀ (y4 at_ : Int), y4 = (c : Int) → at_ = (p : Int) + (c : Int) → (mFst (fun i => mDig (mBy h (p + i))) c = c) → fwWP mX9_numberEnd (d + 1) 4 [some (aR 1 0), some (aI (p : Int)), some (aI at_), some (aI y4)] [] h Q := by
    refine fw_up (fun c hc4 ih4 => ?_)
    intro y4 at_ ey4 e_at_ iv4_0
    subst ey4
    subst e_at_
    show fwWP mX9_numberEnd (d + 1) 4 [some (aR 1 0), some (aI (p : Int)), some (aI ((p : Int) + (c : Int))), some (aI (c : Int))] [] h Q
    refine w_iload_n dX9_numberEnd_4 rfl ?_
    refine w_sipush dX9_numberEnd_5 rfl ?_
    refine w_icmp_ge 31 dX9_numberEnd_8 (by decide) (by omega) (by omega) (fun c8 => ?_) (fun c8 => ?_)
    · refine w_iload_n dX9_numberEnd_31 rfl ?_
      by_cases e9 : c = 900
      · subst e9
        exact w_iretE dX9_numberEnd_32 rfl (by rw [mDigEnd, iv4_0]; omega) k
      · have est := mFst_stop iv4_0 (show ¬ (fun i => mDig (mBy h (p + i))) c = true from by first | exact cl | omega) (900 - c)
        rw [show c + (900 - c) = 900 by omega] at est
        exact w_iretE dX9_numberEnd_32 rfl (by rw [mDigEnd, est]; omega) k
    · refine w_aload_n dX9_numberEnd_11 rfl ?_
      refine w_iload_n dX9_numberEnd_12 rfl ?_
      refine w_callV (d := d + 0) (S := []) [aI ((p : Int) + (c : Int))] dX9_numberEnd_13 ml_X9_32 ok_X9_byteAt vi_X9_byteAt rfl rfl (by decide) rfl (Nat.le_of_ble_eq_true rfl) ?_
      refine c_byteX (d := d) (p + c) ((p : Int) + (c : Int)) (by omega) (by first | assumption | omega | decide) (by omega) ?_
      show fwWP mX9_numberEnd (d + 1) 16 [some (aR 1 0), some (aI (p : Int)), some (aI ((p : Int) + (c : Int))), some (aI (c : Int))] [aI (mBy h (p + c))] h Q
      have hby2 := mBy_rng h (p + c)
      refine w_callS (d := d + 0) (S := []) [aI (mBy h (p + c))] dX9_numberEnd_16 ml_X9_51 ok_X9_isDigit st_X9_isDigit rfl (Nat.le_of_ble_eq_true rfl) ?_
      refine c_X9_isDigit (d := d) (mBy h (p + c)) (by first | assumption | omega | decide) ?_
      show fwWP mX9_numberEnd (d + 1) 19 [some (aR 1 0), some (aI (p : Int)), some (aI ((p : Int) + (c : Int))), some (aI (c : Int))] [aI (fwB (mDig (mBy h (p + c)) = true))] h Q
      refine w_ifB_eq 31 dX9_numberEnd_19 (by decide) (fun cl => ?_) (fun cl => ?_)
      · refine w_iload_n dX9_numberEnd_31 rfl ?_
        by_cases e9 : c = 900
        · subst e9
          exact w_iretE dX9_numberEnd_32 rfl (by rw [mDigEnd, iv4_0]; omega) k
        · have est := mFst_stop iv4_0 (show ¬ (fun i => mDig (mBy h (p + i))) c = true from by first | exact cl | omega) (900 - c)
          rw [show c + (900 - c) = 900 by omega] at est
          exact w_iretE dX9_numberEnd_32 rfl (by rw [mDigEnd, est]; omega) k
      · refine w_iinc [some (aR 1 0), some (aI (p : Int)), some (aI (((p : Int) + (c : Int)) + 1)), some (aI (c : Int))] dX9_numberEnd_22 rfl rfl (by decide) ?_
        refine w_iinc [some (aR 1 0), some (aI (p : Int)), some (aI (((p : Int) + (c : Int)) + 1)), some (aI ((c : Int) + 1))] dX9_numberEnd_25 rfl rfl (by decide) ?_
        refine w_goto 4 dX9_numberEnd_28 (by decide) ?_
        refine ih4 (by omega) _ _ ?_ ?_ ?_
        · exact (by omega)
        · exact (by omega)
        · exact (mFst_go iv4_0 cl)
  refine lp4 0 (Nat.zero_le _) _ _ ?_ ?_ ?_
  · exact (by omega)
  · exact (by omega)
  · exact rfl
def mNum (b : Nat → Int) (p : Nat) : Nat → Int
  | 0 => 0
  | j + 1 => if mNum b p j < 100000 then mNum b p j * 10 + b (p + j) - 48 else mNum b p j
theorem mNum_rng {b : Nat → Int} {p : Nat} : ∀ n : Nat, (∀ j, j < n → mDig (b (p + j)) = true) → 0 ≤ mNum b p n ∧ mNum b p n ≤ 1000000 := by
  intro n
  induction n with
  | zero => intro _; simp [mNum]
  | succ n ih =>
    intro hd
    have h1 := ih (fun j hj => hd j (by omega))
    have h2 := of_decide_eq_true (hd n (by omega))
    rw [mNum]
    split <;> omega
set_option maxRecDepth 100000 in
set_option maxHeartbeats 4000000 in
theorem c_X9_numberOf {d : Nat} {h : fwH} {Q : Option fwV → fwH → Prop} (p n : Nat) (hT : tOk h) (hp : p ≤ 900) (hn : n ≤ 900) (hD : ∀ j, j < n → mDig (mBy h (p + j)) = true) (k : Q (some (aI (mNum (mBy h) p n))) h) : fwCt mX9_numberOf (d + 1) [aR 1 0, aI (p : Int), aI ((p : Int) + (n : Int))] h Q := by
  refine fwCt_of [some (aR 1 0), some (aI (p : Int)), some (aI ((p : Int) + (n : Int))), none, none] rfl rfl rfl ?_
  refine w_iconst dX9_numberOf_0 ?_
  refine w_istore_n [some (aR 1 0), some (aI (p : Int)), some (aI ((p : Int) + (n : Int))), some (aI 0), none] dX9_numberOf_1 rfl (by decide) ?_
  refine w_iload_n dX9_numberOf_2 rfl ?_
  refine w_istore [some (aR 1 0), some (aI (p : Int)), some (aI ((p : Int) + (n : Int))), some (aI 0), some (aI (p : Int))] dX9_numberOf_3 rfl (by decide) ?_
  have lp5 : ∀ c : Nat, c ≤ n → ∀ (y5 nu : Int), y5 = (p : Int) + (c : Int) → nu = mNum (mBy h) p c → fwWP mX9_numberOf (d + 1) 5 [some (aR 1 0), some (aI (p : Int)), some (aI ((p : Int) + (n : Int))), some (aI nu), some (aI y5)] [] h Q := by
    refine fw_up (fun c hc5 ih5 => ?_)
    intro y5 nu ey5 e_nu
    subst ey5
    subst e_nu
    show fwWP mX9_numberOf (d + 1) 5 [some (aR 1 0), some (aI (p : Int)), some (aI ((p : Int) + (n : Int))), some (aI (mNum (mBy h) p c)), some (aI ((p : Int) + (c : Int)))] [] h Q
    refine w_iload dX9_numberOf_5 rfl ?_
    refine w_iload_n dX9_numberOf_7 rfl ?_
    refine w_icmp_ge 38 dX9_numberOf_8 (by decide) (by omega) (by omega) (fun c8 => ?_) (fun c8 => ?_)
    · have ec5 : n = c := by omega
      subst ec5
      refine w_iload_n dX9_numberOf_38 rfl ?_
      exact w_iretE dX9_numberOf_39 rfl (by rfl) k
    · have hnr := mNum_rng (b := mBy h) (p := p) c (fun j hj => hD j (by omega))
      refine w_iload_n dX9_numberOf_11 rfl ?_
      refine w_ldc (n := 100000) dX9_numberOf_12 cs_X9_60 ?_
      refine w_icmp_ge 32 dX9_numberOf_14 (by decide) (by omega) (by omega) (fun c14 => ?_) (fun c14 => ?_)
      · refine w_iinc [some (aR 1 0), some (aI (p : Int)), some (aI ((p : Int) + (n : Int))), some (aI (mNum (mBy h) p c)), some (aI (((p : Int) + (c : Int)) + 1))] dX9_numberOf_32 rfl rfl (by decide) ?_
        refine w_goto 5 dX9_numberOf_35 (by decide) ?_
        refine ih5 (by omega) _ _ ?_ ?_
        · exact (by omega)
        · exact (by rw [mNum]; first | rw [if_pos (by omega)] | rw [if_neg (by omega)])
      · refine w_iload_n dX9_numberOf_17 rfl ?_
        refine w_bipush dX9_numberOf_18 rfl ?_
        refine w_imul dX9_numberOf_20 ?_
        refine w_aload_n dX9_numberOf_21 rfl ?_
        refine w_iload dX9_numberOf_22 rfl ?_
        refine w_callV (d := d + 0) (S := [aI ((mNum (mBy h) p c) * 10)]) [aI ((p : Int) + (c : Int))] dX9_numberOf_24 ml_X9_32 ok_X9_byteAt vi_X9_byteAt rfl rfl (by decide) rfl (Nat.le_of_ble_eq_true rfl) ?_
        refine c_byteX (d := d) (p + c) ((p : Int) + (c : Int)) (by omega) (by first | assumption | omega | decide) (by omega) ?_
        show fwWP mX9_numberOf (d + 1) 27 [some (aR 1 0), some (aI (p : Int)), some (aI ((p : Int) + (n : Int))), some (aI (mNum (mBy h) p c)), some (aI ((p : Int) + (c : Int)))] [aI (mBy h (p + c)), aI ((mNum (mBy h) p c) * 10)] h Q
        have hby3 := mBy_rng h (p + c)
        refine w_iadd dX9_numberOf_27 ?_
        refine w_bipush dX9_numberOf_28 rfl ?_
        refine w_isub dX9_numberOf_30 ?_
        refine w_istore_n [some (aR 1 0), some (aI (p : Int)), some (aI ((p : Int) + (n : Int))), some (aI ((((mNum (mBy h) p c) * 10) + (mBy h (p + c))) - 48)), some (aI ((p : Int) + (c : Int)))] dX9_numberOf_31 rfl (by decide) ?_
        refine w_iinc [some (aR 1 0), some (aI (p : Int)), some (aI ((p : Int) + (n : Int))), some (aI ((((mNum (mBy h) p c) * 10) + (mBy h (p + c))) - 48)), some (aI (((p : Int) + (c : Int)) + 1))] dX9_numberOf_32 rfl rfl (by decide) ?_
        refine w_goto 5 dX9_numberOf_35 (by decide) ?_
        refine ih5 (by omega) _ _ ?_ ?_
        · exact (by omega)
        · exact (by rw [mNum]; first | rw [if_pos (by omega)] | rw [if_neg (by omega)])
  refine lp5 0 (Nat.zero_le _) _ _ ?_ ?_
  · exact (by omega)
  · exact rfl
set_option maxRecDepth 100000 in
set_option maxHeartbeats 4000000 in
theorem c_X9_textOf {d : Nat} {h : fwH} {Q : Option fwV → fwH → Prop} (m : Nat) (hm : m < 13) (k : Q (some (aR 50 m)) h) : fwCt mX9_textOf (d + 0) [aI ((m : Int) + 4)] h Q := by
  refine fwCt_of [some (aI ((m : Int) + 4))] rfl rfl rfl ?_
  refine w_iload_n dX9_textOf_0 rfl ?_
  rcases (show m = 0 ∨ m = 1 ∨ m = 2 ∨ m = 3 ∨ m = 4 ∨ m = 5 ∨ m = 6 ∨ m = 7 ∨ m = 8 ∨ m = 9 ∨ m = 10 ∨ m = 11 ∨ m = 12 by omega) with rfl | rfl | rfl | rfl | rfl | rfl | rfl | rfl | rfl | rfl | rfl | rfl | rfl
  · refine w_tabIn 64 dX9_textOf_1 (by omega) (by omega) (by omega) rfl rfl ?_
    refine w_ldcS (n := 0) dX9_textOf_64 rfl ?_
    exact w_aret dX9_textOf_66 rfl (Or.inl ⟨_, rfl⟩) k
  · refine w_tabIn 67 dX9_textOf_1 (by omega) (by omega) (by omega) rfl rfl ?_
    refine w_ldcS (n := 1) dX9_textOf_67 rfl ?_
    exact w_aret dX9_textOf_69 rfl (Or.inl ⟨_, rfl⟩) k
  · refine w_tabIn 70 dX9_textOf_1 (by omega) (by omega) (by omega) rfl rfl ?_
    refine w_ldcS (n := 2) dX9_textOf_70 rfl ?_
    exact w_aret dX9_textOf_72 rfl (Or.inl ⟨_, rfl⟩) k
  · refine w_tabIn 73 dX9_textOf_1 (by omega) (by omega) (by omega) rfl rfl ?_
    refine w_ldcS (n := 3) dX9_textOf_73 rfl ?_
    exact w_aret dX9_textOf_75 rfl (Or.inl ⟨_, rfl⟩) k
  · refine w_tabIn 76 dX9_textOf_1 (by omega) (by omega) (by omega) rfl rfl ?_
    refine w_ldcS (n := 4) dX9_textOf_76 rfl ?_
    exact w_aret dX9_textOf_78 rfl (Or.inl ⟨_, rfl⟩) k
  · refine w_tabIn 79 dX9_textOf_1 (by omega) (by omega) (by omega) rfl rfl ?_
    refine w_ldcS (n := 5) dX9_textOf_79 rfl ?_
    exact w_aret dX9_textOf_81 rfl (Or.inl ⟨_, rfl⟩) k
  · refine w_tabIn 82 dX9_textOf_1 (by omega) (by omega) (by omega) rfl rfl ?_
    refine w_ldcS (n := 6) dX9_textOf_82 rfl ?_
    exact w_aret dX9_textOf_84 rfl (Or.inl ⟨_, rfl⟩) k
  · refine w_tabIn 85 dX9_textOf_1 (by omega) (by omega) (by omega) rfl rfl ?_
    refine w_ldcS (n := 7) dX9_textOf_85 rfl ?_
    exact w_aret dX9_textOf_87 rfl (Or.inl ⟨_, rfl⟩) k
  · refine w_tabIn 88 dX9_textOf_1 (by omega) (by omega) (by omega) rfl rfl ?_
    refine w_ldcS (n := 8) dX9_textOf_88 rfl ?_
    exact w_aret dX9_textOf_90 rfl (Or.inl ⟨_, rfl⟩) k
  · refine w_tabIn 91 dX9_textOf_1 (by omega) (by omega) (by omega) rfl rfl ?_
    refine w_ldcS (n := 9) dX9_textOf_91 rfl ?_
    exact w_aret dX9_textOf_93 rfl (Or.inl ⟨_, rfl⟩) k
  · refine w_tabIn 94 dX9_textOf_1 (by omega) (by omega) (by omega) rfl rfl ?_
    refine w_ldcS (n := 10) dX9_textOf_94 rfl ?_
    exact w_aret dX9_textOf_96 rfl (Or.inl ⟨_, rfl⟩) k
  · refine w_tabIn 97 dX9_textOf_1 (by omega) (by omega) (by omega) rfl rfl ?_
    refine w_ldcS (n := 11) dX9_textOf_97 rfl ?_
    exact w_aret dX9_textOf_99 rfl (Or.inl ⟨_, rfl⟩) k
  · refine w_tabOut 100 dX9_textOf_1 (by omega) (by omega) rfl ?_
    refine w_ldcS (n := 12) dX9_textOf_100 rfl ?_
    exact w_aret dX9_textOf_102 rfl (Or.inl ⟨_, rfl⟩) k
theorem c_textX {d : Nat} {h : fwH} {Q : Option fwV → fwH → Prop} (m : Nat) (x : Int) (e : x = (m : Int) + 4) (hm : m < 13) (k : Q (some (aR 50 m)) h) : fwCt mX9_textOf d [aI x] h Q := by
  subst e
  exact c_X9_textOf m hm k
def mTxB (b : Nat → Int) (p s i : Nat) : Bool := decide (b (p + i) = (fwSb s).getD i 0)
abbrev mTx (b : Nat → Int) (p q s : Nat) : Prop := (q : Int) - (p : Int) = ((fwSb s).length : Int) ∧ mAll (mTxB b p s) (fwSb s).length = true
theorem fwSb_l2 : ∀ s, s < 26 → (fwSb s).length ≤ 5 ∧ ∀ i, i < 5 → 0 ≤ (fwSb s).getD i 0 ∧ (fwSb s).getD i 0 ≤ 255 := by decide +kernel
set_option maxRecDepth 100000 in
set_option maxHeartbeats 4000000 in
theorem c_X9_isText {d : Nat} {h : fwH} {Q : Option fwV → fwH → Prop} (p q s : Nat) (hT : tOk h) (hs : s < 26) (hp : p ≤ 900) (hq : q ≤ 2000) (k : Q (some (aI (fwB (mTx (mBy h) p q s)))) h) : fwCt mX9_isText (d + 4) [aR 1 0, aI (p : Int), aI (q : Int), aR 50 s] h Q := by
  refine fwCt_of [some (aR 1 0), some (aI (p : Int)), some (aI (q : Int)), some (aR 50 s), none] rfl rfl rfl ?_
  have hsl := fwSb_l2 s (by omega)
  refine w_iload_n dX9_isText_0 rfl ?_
  refine w_iload_n dX9_isText_1 rfl ?_
  refine w_isub dX9_isText_2 ?_
  refine w_aload_n dX9_isText_3 rfl ?_
  refine w_callT (d := d + 3) (S := [aI ((q : Int) - (p : Int))]) [] dX9_isText_4 ml_X9_69 ok_J0_length_8abf5 vi_J0_length_8abf5 rfl (by omega) rfl (Nat.le_of_ble_eq_true rfl) ?_
  refine c_length (d := (d + 2)) s (by omega) ?_
  show fwWP mX9_isText (d + 4) 7 [some (aR 1 0), some (aI (p : Int)), some (aI (q : Int)), some (aR 50 s), none] [aI ((fwSb s).length : Int), aI ((q : Int) - (p : Int))] h Q
  refine w_icmp_eq 12 dX9_isText_7 (by decide) (by omega) (by omega) (fun c7 => ?_) (fun c7 => ?_)
  · refine w_iconst dX9_isText_12 ?_
    refine w_istore [some (aR 1 0), some (aI (p : Int)), some (aI (q : Int)), some (aR 50 s), some (aI 0)] dX9_isText_13 rfl (by decide) ?_
    have lp15 : ∀ c : Nat, c ≤ (fwSb s).length → ∀ (y15  : Int), y15 = (c : Int) → (mAll (mTxB (mBy h) p s) c = true) → fwWP mX9_isText (d + 4) 15 [some (aR 1 0), some (aI (p : Int)), some (aI (q : Int)), some (aR 50 s), some (aI y15)] [] h Q := by
      refine fw_up (fun c hc15 ih15 => ?_)
      intro y15  ey15 iv15_0
      subst ey15
      show fwWP mX9_isText (d + 4) 15 [some (aR 1 0), some (aI (p : Int)), some (aI (q : Int)), some (aR 50 s), some (aI (c : Int))] [] h Q
      refine w_iload dX9_isText_15 rfl ?_
      refine w_aload_n dX9_isText_17 rfl ?_
      refine w_callT (d := d + 3) (S := [aI (c : Int)]) [] dX9_isText_18 ml_X9_69 ok_J0_length_8abf5 vi_J0_length_8abf5 rfl (by omega) rfl (Nat.le_of_ble_eq_true rfl) ?_
      refine c_length (d := (d + 2)) s (by omega) ?_
      show fwWP mX9_isText (d + 4) 21 [some (aR 1 0), some (aI (p : Int)), some (aI (q : Int)), some (aR 50 s), some (aI (c : Int))] [aI ((fwSb s).length : Int), aI (c : Int)] h Q
      refine w_icmp_ge 49 dX9_isText_21 (by decide) (by omega) (by omega) (fun c21 => ?_) (fun c21 => ?_)
      · have ec15 : (fwSb s).length = c := by omega
        subst ec15
        refine w_iconst dX9_isText_49 ?_
        exact w_zretE (P := mTx (mBy h) p q s) dX9_isText_50 rfl (by rw [fwB_t ⟨by omega, iv15_0⟩]) k
      · refine w_aload_n dX9_isText_24 rfl ?_
        refine w_iload_n dX9_isText_25 rfl ?_
        refine w_iload dX9_isText_26 rfl ?_
        refine w_iadd dX9_isText_28 ?_
        refine w_callV (d := d + 3) (S := []) [aI ((p : Int) + (c : Int))] dX9_isText_29 ml_X9_32 ok_X9_byteAt vi_X9_byteAt rfl rfl (by decide) rfl (Nat.le_of_ble_eq_true rfl) ?_
        refine c_byteX (d := (d + 3)) (p + c) ((p : Int) + (c : Int)) (by omega) (by first | assumption | omega | decide) (by omega) ?_
        show fwWP mX9_isText (d + 4) 32 [some (aR 1 0), some (aI (p : Int)), some (aI (q : Int)), some (aR 50 s), some (aI (c : Int))] [aI (mBy h (p + c))] h Q
        have hby3 := mBy_rng h (p + c)
        refine w_aload_n dX9_isText_32 rfl ?_
        refine w_iload dX9_isText_33 rfl ?_
        refine w_callT (d := d + 3) (S := [aI (mBy h (p + c))]) [aI (c : Int)] dX9_isText_35 ml_X9_75 ok_J0_charAt_5068e vi_J0_charAt_5068e rfl (by omega) rfl (Nat.le_of_ble_eq_true rfl) ?_
        refine c_charAt (d := d) s (c : Int) (by omega) (by omega) (by omega) ?_
        show fwWP mX9_isText (d + 4) 38 [some (aR 1 0), some (aI (p : Int)), some (aI (q : Int)), some (aR 50 s), some (aI (c : Int))] [aI ((fwSb s).getD ((c : Int)).toNat 0), aI (mBy h (p + c))] h Q
        have hch := hsl.2 c (by omega)
        rw [Int.toNat_natCast]
        refine w_icmp_eq 43 dX9_isText_38 (by decide) (by omega) (by omega) (fun c38 => ?_) (fun c38 => ?_)
        · refine w_iinc [some (aR 1 0), some (aI (p : Int)), some (aI (q : Int)), some (aR 50 s), some (aI ((c : Int) + 1))] dX9_isText_43 rfl rfl (by decide) ?_
          refine w_goto 15 dX9_isText_46 (by decide) ?_
          refine ih15 (by omega) _ ?_ ?_
          · exact (by omega)
          · exact (by rw [mAll, iv15_0, Bool.true_and]; exact decide_eq_true (by omega))
        · refine w_iconst dX9_isText_41 ?_
          exact w_zretE (P := mTx (mBy h) p q s) dX9_isText_42 rfl (by rw [fwB_f (fun z => by have := of_decide_eq_true ((mAll_iff _ _).mp z.2 c (by omega)); omega)]) k
    refine lp15 0 (Nat.zero_le _) _ ?_ ?_
    · exact (by omega)
    · exact rfl
  · refine w_iconst dX9_isText_10 ?_
    exact w_zretE (P := mTx (mBy h) p q s) dX9_isText_11 rfl (by rw [fwB_f (fun z => by have := z.1; omega)]) k
def mWkB (b : Nat → Int) (p q s : Nat) : Bool := decide (¬ mTx b p q s)
def mWk (b : Nat → Int) (p q : Nat) : Int := if mFst (mWkB b p q) 13 = 13 then 1 else (mFst (mWkB b p q) 13 : Int) + 4
set_option maxRecDepth 100000 in
set_option maxHeartbeats 4000000 in
theorem c_X9_wordKind {d : Nat} {h : fwH} {Q : Option fwV → fwH → Prop} (p q : Nat) (hT : tOk h) (hp : p ≤ 900) (hq : q ≤ 2000) (k : Q (some (aI (mWk (mBy h) p q))) h) : fwCt mX9_wordKind (d + 5) [aR 1 0, aI (p : Int), aI (q : Int)] h Q := by
  refine fwCt_of [some (aR 1 0), some (aI (p : Int)), some (aI (q : Int)), none] rfl rfl rfl ?_
  refine w_iconst dX9_wordKind_0 ?_
  refine w_istore_n [some (aR 1 0), some (aI (p : Int)), some (aI (q : Int)), some (aI 4)] dX9_wordKind_1 rfl (by decide) ?_
  have lp2 : ∀ c : Nat, c ≤ 13 → ∀ (y2  : Int), y2 = (c : Int) + 4 → (mFst (mWkB (mBy h) p q) c = c) → fwWP mX9_wordKind (d + 5) 2 [some (aR 1 0), some (aI (p : Int)), some (aI (q : Int)), some (aI y2)] [] h Q := by
    refine fw_up (fun c hc2 ih2 => ?_)
    intro y2  ey2 iv2_0
    subst ey2
    show fwWP mX9_wordKind (d + 5) 2 [some (aR 1 0), some (aI (p : Int)), some (aI (q : Int)), some (aI ((c : Int) + 4))] [] h Q
    refine w_iload_n dX9_wordKind_2 rfl ?_
    refine w_bipush dX9_wordKind_3 rfl ?_
    refine w_icmp_gt 29 dX9_wordKind_5 (by decide) (by omega) (by omega) (fun c5 => ?_) (fun c5 => ?_)
    · have ec2 : 13 = c := by omega
      subst ec2
      refine w_iconst dX9_wordKind_29 ?_
      exact w_iretE dX9_wordKind_30 rfl (by rw [mWk, if_pos iv2_0]) k
    · refine w_aload_n dX9_wordKind_8 rfl ?_
      refine w_iload_n dX9_wordKind_9 rfl ?_
      refine w_iload_n dX9_wordKind_10 rfl ?_
      refine w_iload_n dX9_wordKind_11 rfl ?_
      refine w_callS (d := d + 4) (S := [aI (q : Int), aI (p : Int), aR 1 0]) [aI ((c : Int) + 4)] dX9_wordKind_12 ml_X9_61 ok_X9_textOf st_X9_textOf rfl (Nat.le_of_ble_eq_true rfl) ?_
      refine c_textX (d := (d + 4)) c ((c : Int) + 4) (by omega) (by omega) ?_
      show fwWP mX9_wordKind (d + 5) 15 [some (aR 1 0), some (aI (p : Int)), some (aI (q : Int)), some (aI ((c : Int) + 4))] [aR 50 c, aI (q : Int), aI (p : Int), aR 1 0] h Q
      refine w_callV (d := d + 4) (S := []) [aI (p : Int), aI (q : Int), aR 50 c] dX9_wordKind_15 ml_X9_65 ok_X9_isText vi_X9_isText rfl rfl (by decide) rfl (Nat.le_of_ble_eq_true rfl) ?_
      refine c_X9_isText (d := d) p q c (by first | assumption | omega | decide) (by omega) (by omega) (by omega) ?_
      show fwWP mX9_wordKind (d + 5) 18 [some (aR 1 0), some (aI (p : Int)), some (aI (q : Int)), some (aI ((c : Int) + 4))] [aI (fwB (mTx (mBy h) p q c))] h Q
      refine w_ifB_eq 23 dX9_wordKind_18 (by decide) (fun ct => ?_) (fun ct => ?_)
      · refine w_iinc [some (aR 1 0), some (aI (p : Int)), some (aI (q : Int)), some (aI (((c : Int) + 4) + 1))] dX9_wordKind_23 rfl rfl (by decide) ?_
        refine w_goto 2 dX9_wordKind_26 (by decide) ?_
        refine ih2 (by omega) _ ?_ ?_
        · exact (by omega)
        · exact (mFst_go iv2_0 (decide_eq_true ct))
      · refine w_iload_n dX9_wordKind_21 rfl ?_
        have est := mFst_stop iv2_0 (show ¬ mWkB (mBy h) p q c = true from fun z => (of_decide_eq_true z) ct) (13 - c)
        rw [show c + (13 - c) = 13 by omega] at est
        exact w_iretE dX9_wordKind_22 rfl (by rw [mWk, if_neg (by omega), est]) k
  refine lp2 0 (Nat.zero_le _) _ ?_ ?_
  · exact (by omega)
  · exact rfl
theorem addTE (h : fwH) (x y z : Int) : fwUp (fwUp (fwUp (fwUp h 14 0 (h 1 0 5).toNat x) 15 0 (h 1 0 5).toNat y) 16 0 (h 1 0 5).toNat z) 1 0 5 (h 1 0 5 + 1) = (fwUc (fwUc (fwUc (fwUc h 1 0 (fwFu (h 1 0) 5 ((h 1 0 5) + 1))) 14 0 (fwFu (h 14 0) (h 1 0 5).toNat x)) 15 0 (fwFu (h 15 0) (h 1 0 5).toNat y)) 16 0 (fwFu (h 16 0) (h 1 0 5).toNat z)) := by
  rw [fwUp_fu h 14, fwUp_fu _ 15, fwUp_fu _ 16, fwUp_fu _ 1]
  show fwUc (fwUc (fwUc (fwUc h 14 0 (fwFu (h 14 0) (h 1 0 5).toNat x)) 15 0 (fwFu (h 15 0) (h 1 0 5).toNat y)) 16 0 (fwFu (h 16 0) (h 1 0 5).toNat z)) 1 0 (fwFu (h 1 0) 5 (h 1 0 5 + 1)) = _
  funext a b
  simp only [fwUc]
  (repeat' split)
  all_goals first | rfl | (exfalso; omega)
set_option maxRecDepth 100000 in
set_option maxHeartbeats 4000000 in
theorem c_X9_addToken {d : Nat} {h : fwH} {Q : Option fwV → fwH → Prop} (x y z : Int) (ht : 0 ≤ h 1 0 5 ∧ h 1 0 5 ≤ 900) (k : Q none (fwUc (fwUc (fwUc (fwUc h 1 0 (fwFu (h 1 0) 5 ((h 1 0 5) + 1))) 14 0 (fwFu (h 14 0) (h 1 0 5).toNat x)) 15 0 (fwFu (h 15 0) (h 1 0 5).toNat y)) 16 0 (fwFu (h 16 0) (h 1 0 5).toNat z))) : fwCt mX9_addToken (d + 0) [aR 1 0, aI x, aI y, aI z] h Q := by
  refine fwCt_of [some (aR 1 0), some (aI x), some (aI y), some (aI z)] rfl rfl rfl ?_
  refine w_aload_n dX9_addToken_0 rfl ?_
  refine w_getiE (v := h 1 0 5) dX9_addToken_1 fl_X9_29 rfl (by decide) rfl ?_
  refine w_if_lt 59 dX9_addToken_4 (by decide) (by omega) (fun c4 => ?_) (fun c4 => ?_)
  · (exfalso; omega)
  · refine w_aload_n dX9_addToken_7 rfl ?_
    refine w_getiE (v := h 1 0 5) dX9_addToken_8 fl_X9_29 rfl (by decide) rfl ?_
    refine w_aload_n dX9_addToken_11 rfl ?_
    refine w_getr 14 0 dX9_addToken_12 fl_X9_15 rfl (by decide) ?_
    refine w_alen dX9_addToken_15 rfl (by decide) (by decide) ?_
    refine w_icmp_ge 59 dX9_addToken_16 (by decide) (by omega) (by omega) (fun c16 => ?_) (fun c16 => ?_)
    · (exfalso; omega)
    · refine w_aload_n dX9_addToken_19 rfl ?_
      refine w_getr 14 0 dX9_addToken_20 fl_X9_15 rfl (by decide) ?_
      refine w_aload_n dX9_addToken_23 rfl ?_
      refine w_getiE (v := h 1 0 5) dX9_addToken_24 fl_X9_29 rfl (by decide) rfl ?_
      refine w_iload_n dX9_addToken_27 rfl ?_
      refine w_iast dX9_addToken_28 rfl (by decide) (by omega) (by omega) ?_
      refine w_aload_n dX9_addToken_29 rfl ?_
      refine w_getr 15 0 dX9_addToken_30 fl_X9_19 rfl (by decide) ?_
      refine w_aload_n dX9_addToken_33 rfl ?_
      refine w_getiE (v := h 1 0 5) dX9_addToken_34 fl_X9_29 rfl (by decide) rfl ?_
      refine w_iload_n dX9_addToken_37 rfl ?_
      refine w_iast dX9_addToken_38 rfl (by decide) (by omega) (by omega) ?_
      refine w_aload_n dX9_addToken_39 rfl ?_
      refine w_getr 16 0 dX9_addToken_40 fl_X9_22 rfl (by decide) ?_
      refine w_aload_n dX9_addToken_43 rfl ?_
      refine w_getiE (v := h 1 0 5) dX9_addToken_44 fl_X9_29 rfl (by decide) rfl ?_
      refine w_iload_n dX9_addToken_47 rfl ?_
      refine w_iast dX9_addToken_48 rfl (by decide) (by omega) (by omega) ?_
      refine w_aload_n dX9_addToken_49 rfl ?_
      refine w_dup dX9_addToken_50 rfl ?_
      refine w_getiE (v := h 1 0 5) dX9_addToken_51 fl_X9_29 rfl (by decide) rfl ?_
      refine w_iconst dX9_addToken_54 ?_
      refine w_iadd dX9_addToken_55 ?_
      refine w_puti dX9_addToken_56 fl_X9_29 fp_1_5 rfl (by decide) ?_
      rw [show (fwUp (fwUp (fwUp (fwUp h 14 0 (h 1 0 5).toNat x) 15 0 (h 1 0 5).toNat y) 16 0 (h 1 0 5).toNat z) 1 0 5 ((h 1 0 5) + 1)) = (fwUc (fwUc (fwUc (fwUc h 1 0 (fwFu (h 1 0) 5 ((h 1 0 5) + 1))) 14 0 (fwFu (h 14 0) (h 1 0 5).toNat x)) 15 0 (fwFu (h 15 0) (h 1 0 5).toNat y)) 16 0 (fwFu (h 16 0) (h 1 0 5).toNat z)) from addTE h x y z]
      exact w_vret dX9_addToken_59 rfl k
def mKd (b : Nat → Int) (p : Nat) : Int := if mLet (b p) = true then mWk b p (mLetEnd b p) else if mDig (b p) = true then 3 else if b p = 59 then 2 else 1
def mVl (b : Nat → Int) (p : Nat) : Int := if mLet (b p) = true then 0 else if mDig (b p) = true then mNum b p (mFst (fun i => mDig (b (p + i))) 900) else 0
def mNxt (b : Nat → Int) (p : Nat) : Nat := if mLet (b p) = true then mLetEnd b p else if mDig (b p) = true then mDigEnd b p else p + 1
abbrev mBlank (x : Int) : Prop := x = 32 ∨ x = 10
abbrev fwCu := Nat × Nat × (Nat → Int) × (Nat → Int) × (Nat → Int)
/-- where the cutting is, how many TOKENS there are, the rows -/
def mCu (b : Nat → Int) (sz : Int) (s0 : fwCu) : Nat → fwCu
  | 0 => s0
  | i + 1 => if ((mCu b sz s0 i).1 : Int) < sz then
      (if mBlank (b (mCu b sz s0 i).1) then ((mCu b sz s0 i).1 + 1, (mCu b sz s0 i).2) else (mNxt b (mCu b sz s0 i).1, (mCu b sz s0 i).2.1 + 1, fwFu (mCu b sz s0 i).2.2.1 (mCu b sz s0 i).2.1 (mKd b (mCu b sz s0 i).1), fwFu (mCu b sz s0 i).2.2.2.1 (mCu b sz s0 i).2.1 ((mCu b sz s0 i).1 : Int), fwFu (mCu b sz s0 i).2.2.2.2 (mCu b sz s0 i).2.1 (mVl b (mCu b sz s0 i).1)))
    else mCu b sz s0 i
theorem mFst_pre {p : Nat → Bool} : ∀ k j : Nat, j < mFst p k → p j = true := by
  intro k
  induction k with
  | zero => intro j hj; simp [mFst] at hj
  | succ k ih =>
    intro j hj
    rw [mFst] at hj
    split at hj
    · rename_i q
      rcases Nat.lt_or_ge j k with e | e
      · exact ih j (by omega)
      · rw [show j = k by omega]; exact q.2
    · exact ih j hj
theorem mBy_end {h : fwH} {p : Nat} (hp : h 1 0 1 ≤ p) : mBy h p = -1 := by
  unfold mBy
  rw [if_neg (by omega)]
theorem mRun_le {h : fwH} {q : Int → Bool} (hq : q (-1) = false) {p : Nat} (hp : (p : Int) ≤ h 1 0 1) : ((p + mFst (fun i => q (mBy h (p + i))) 900 : Nat) : Int) ≤ h 1 0 1 := by
  rcases Int.lt_or_le (h 1 0 1) ((p + mFst (fun i => q (mBy h (p + i))) 900 : Nat) : Int) with e | e
  · exfalso
    have h1 := mFst_pre (p := fun i => q (mBy h (p + i))) 900 ((h 1 0 1).toNat - p) (by omega)
    rw [show p + ((h 1 0 1).toNat - p) = (h 1 0 1).toNat by omega, mBy_end (by omega), hq] at h1
    exact Bool.noConfusion h1
  · exact e
theorem mNxt_le {h : fwH} {p : Nat} (hp : (p : Int) < h 1 0 1) : (mNxt (mBy h) p : Int) ≤ h 1 0 1 := by
  unfold mNxt
  split
  · exact mRun_le (q := mLet) (by decide) (by omega)
  · split
    · exact mRun_le (q := mDig) (by decide) (by omega)
    · omega
theorem mCu_rng {h : fwH} {s0 : fwCu} (hs : (s0.1 : Int) ≤ h 1 0 1) (ht : s0.2.1 = 0) : ∀ i : Nat, ((mCu (mBy h) (h 1 0 1) s0 i).1 : Int) ≤ h 1 0 1 ∧ (mCu (mBy h) (h 1 0 1) s0 i).2.1 ≤ i := by
  intro i
  induction i with
  | zero => exact ⟨hs, by rw [mCu, ht]; exact Nat.le_refl _⟩
  | succ i ih =>
    rw [mCu]
    split
    · rename_i q
      split
      · dsimp only; omega
      · have := mNxt_le q
        dsimp only; omega
    · omega
/-- all is cut: how many, the rows with the end's TOKEN -/
def mCuE (h : fwH) : fwCu := mCu (mBy h) (h 1 0 1) (0, 0, h 14 0, h 15 0, h 16 0) 900
def cutH (h : fwH) : fwH := fwUc (fwUc (fwUc (fwUc h 1 0 (fwFu (h 1 0) 5 ((mCuE h).2.1 + 1))) 14 0 (fwFu (mCuE h).2.2.1 (mCuE h).2.1 0)) 15 0 (fwFu (mCuE h).2.2.2.1 (mCuE h).2.1 (h 1 0 1))) 16 0 (fwFu (mCuE h).2.2.2.2 (mCuE h).2.1 0)
theorem c_numX {d : Nat} {h : fwH} {Q : Option fwV → fwH → Prop} (p n : Nat) (x y : Int) (ex : x = (p : Int)) (ey : y = (p : Int) + (n : Int)) (hT : tOk h) (hp : p ≤ 900) (hn : n ≤ 900) (hD : ∀ j, j < n → mDig (mBy h (p + j)) = true) (k : Q (some (aI (mNum (mBy h) p n))) h) : fwCt mX9_numberOf (d + 1) [aR 1 0, aI x, aI y] h Q := by
  subst ex ey
  exact c_X9_numberOf p n hT hp hn hD k
theorem c_addX {d : Nat} {h : fwH} {Q : Option fwV → fwH → Prop} (t : Nat) (x y z : Int) (et : h 1 0 5 = (t : Int)) (ht : t ≤ 900) (k : Q none (fwUc (fwUc (fwUc (fwUc h 1 0 (fwFu (h 1 0) 5 ((t : Int) + 1))) 14 0 (fwFu (h 14 0) t x)) 15 0 (fwFu (h 15 0) t y)) 16 0 (fwFu (h 16 0) t z))) : fwCt mX9_addToken d [aR 1 0, aI x, aI y, aI z] h Q := by
  refine c_X9_addToken x y z (by omega) ?_
  rw [et, Int.toNat_natCast]
  exact k
theorem fwFu5 (g : Nat → Int) (a b : Int) : fwFu (fwFu g 5 a) 5 b = fwFu g 5 b := fwFu_fu g 5 a b
theorem mLet_nb {x : Int} (h : mLet x = true) : ¬ mBlank x := by
  have := of_decide_eq_true h
  unfold mBlank
  omega
theorem mDig_nb {x : Int} (h : mDig x = true) : ¬ mBlank x := by
  have := of_decide_eq_true h
  unfold mBlank
  omega
theorem cutE0 (h : fwH) : fwUc h 1 0 (fwFu (h 1 0) 5 0) = fwUc (fwUc (fwUc (fwUc h 1 0 (fwFu (h 1 0) 5 ((mCu (mBy h) (h 1 0 1) (0, 0, h 14 0, h 15 0, h 16 0) 0).2.1 : Int))) 14 0 (h 14 0)) 15 0 (h 15 0)) 16 0 (h 16 0) := by
  funext a b
  simp only [fwUc]
  (repeat' split)
  all_goals first | rfl | (rename_i q; obtain ⟨rfl, rfl⟩ := q; rfl) | (exfalso; omega)
theorem mCu_end {b : Nat → Int} {sz : Int} {s0 : fwCu} {i : Nat} (h : ¬ ((mCu b sz s0 i).1 : Int) < sz) : ∀ j, mCu b sz s0 (i + j) = mCu b sz s0 i := by
  intro j
  induction j with
  | zero => rfl
  | succ j ih => rw [← Nat.add_assoc, mCu, ih, if_neg h]
set_option maxRecDepth 100000 in
set_option maxHeartbeats 4000000 in
theorem c_X9_cutTokens {d : Nat} {h : fwH} {Q : Option fwV → fwH → Prop}  (hT : tOk h) (k : Q none (cutH h)) : fwCt mX9_cutTokens (d + 6) [aR 1 0] h Q := by
  refine fwCt_of [some (aR 1 0), none, none, none, none] rfl rfl rfl ?_
  obtain ⟨t1, t2⟩ := id hT
  refine w_aload_n dX9_cutTokens_0 rfl ?_
  refine w_iconst dX9_cutTokens_1 ?_
  refine w_puti dX9_cutTokens_2 fl_X9_29 fp_1_5 rfl (by decide) ?_
  rw [show (fwUp h 1 0 5 0) = (fwUc h 1 0 (fwFu (h 1 0) 5 0)) from fwUp_fu _ _ _ _ _]
  refine w_iconst dX9_cutTokens_5 ?_
  refine w_istore_n [some (aR 1 0), some (aI 0), none, none, none] dX9_cutTokens_6 rfl (by decide) ?_
  refine w_iconst dX9_cutTokens_7 ?_
  refine w_istore_n [some (aR 1 0), some (aI 0), some (aI 0), none, none] dX9_cutTokens_8 rfl (by decide) ?_
  have lp9 : ∀ c : Nat, c ≤ 900 → ∀ (y9 at_ : Int) (hh9 : fwH), y9 = (c : Int) → at_ = ((mCu (mBy h) (h 1 0 1) (0, 0, h 14 0, h 15 0, h 16 0) c).1 : Int) → hh9 = (fwUc (fwUc (fwUc (fwUc h 1 0 (fwFu (h 1 0) 5 ((mCu (mBy h) (h 1 0 1) (0, 0, h 14 0, h 15 0, h 16 0) c).2.1 : Int))) 14 0 (mCu (mBy h) (h 1 0 1) (0, 0, h 14 0, h 15 0, h 16 0) c).2.2.1) 15 0 (mCu (mBy h) (h 1 0 1) (0, 0, h 14 0, h 15 0, h 16 0) c).2.2.2.1) 16 0 (mCu (mBy h) (h 1 0 1) (0, 0, h 14 0, h 15 0, h 16 0) c).2.2.2.2) → fwWP mX9_cutTokens (d + 6) 9 [some (aR 1 0), some (aI at_), some (aI y9), none, none] [] hh9 Q := by
    refine fw_up (fun c hc9 ih9 => ?_)
    intro y9 at_ hh9 ey9 e_at_ eh9
    subst ey9
    subst e_at_
    subst eh9
    have hmm0 := mCu_rng (h := h) (s0 := (0, 0, h 14 0, h 15 0, h 16 0)) (by show ((0 : Nat) : Int) ≤ h 1 0 1; omega) rfl c
    show fwWP mX9_cutTokens (d + 6) 9 [some (aR 1 0), some (aI ((mCu (mBy h) (h 1 0 1) (0, 0, h 14 0, h 15 0, h 16 0) c).1 : Int)), some (aI (c : Int)), none, none] [] (fwUc (fwUc (fwUc (fwUc h 1 0 (fwFu (h 1 0) 5 ((mCu (mBy h) (h 1 0 1) (0, 0, h 14 0, h 15 0, h 16 0) c).2.1 : Int))) 14 0 (mCu (mBy h) (h 1 0 1) (0, 0, h 14 0, h 15 0, h 16 0) c).2.2.1) 15 0 (mCu (mBy h) (h 1 0 1) (0, 0, h 14 0, h 15 0, h 16 0) c).2.2.2.1) 16 0 (mCu (mBy h) (h 1 0 1) (0, 0, h 14 0, h 15 0, h 16 0) c).2.2.2.2) Q
    refine w_iload_n dX9_cutTokens_9 rfl ?_
    refine w_sipush dX9_cutTokens_10 rfl ?_
    refine w_icmp_ge 133 dX9_cutTokens_13 (by decide) (by omega) (by omega) (fun c13 => ?_) (fun c13 => ?_)
    · have hend : (mCu (mBy h) (h 1 0 1) (0, 0, h 14 0, h 15 0, h 16 0) c) = mCuE h := by
        unfold mCuE
        by_cases e9 : c = 900
        · rw [e9]
        · have := mCu_end (b := mBy h) (sz := h 1 0 1) (s0 := (0, 0, h 14 0, h 15 0, h 16 0)) (i := c) (by omega) (900 - c)
          rw [show c + (900 - c) = 900 by omega] at this
          exact this.symm
      rw [hend]
      rw [hend] at hmm0
      refine w_aload_n dX9_cutTokens_133 rfl ?_
      refine w_iconst dX9_cutTokens_134 ?_
      refine w_aload_n dX9_cutTokens_135 rfl ?_
      refine w_getiE (v := h 1 0 1) dX9_cutTokens_136 fl_X9_25 rfl (by decide) rfl ?_
      refine w_iconst dX9_cutTokens_139 ?_
      refine w_callV (d := d + 5) (S := []) [aI 0, aI (h 1 0 1), aI 0] dX9_cutTokens_140 ml_X9_47 ok_X9_addToken vi_X9_addToken rfl rfl (by decide) rfl (Nat.le_of_ble_eq_true rfl) ?_
      refine c_addX (d := (d + 5)) (mCuE h).2.1 0 (h 1 0 1) 0 rfl (by omega) ?_
      show fwWP mX9_cutTokens (d + 6) 143 [some (aR 1 0), some (aI ((mCuE h).1 : Int)), some (aI (c : Int)), none, none] [] (fwUc (fwUc (fwUc (fwUc (fwUc (fwUc (fwUc (fwUc h 1 0 (fwFu (h 1 0) 5 ((mCuE h).2.1 : Int))) 14 0 (mCuE h).2.2.1) 15 0 (mCuE h).2.2.2.1) 16 0 (mCuE h).2.2.2.2) 1 0 (fwFu (fwFu (h 1 0) 5 ((mCuE h).2.1 : Int)) 5 (((mCuE h).2.1 : Int) + 1))) 14 0 (fwFu ((mCuE h).2.2.1) (mCuE h).2.1 0)) 15 0 (fwFu ((mCuE h).2.2.2.1) (mCuE h).2.1 (h 1 0 1))) 16 0 (fwFu ((mCuE h).2.2.2.2) (mCuE h).2.1 0)) Q
      rw [show fwUc (fwUc (fwUc (fwUc (fwUc (fwUc (fwUc (fwUc h 1 0 (fwFu (h 1 0) 5 ((mCuE h).2.1 : Int))) 14 0 (mCuE h).2.2.1) 15 0 (mCuE h).2.2.2.1) 16 0 (mCuE h).2.2.2.2) 1 0 (fwFu (fwFu (h 1 0) 5 ((mCuE h).2.1 : Int)) 5 (((mCuE h).2.1 : Int) + 1))) 14 0 (fwFu ((mCuE h).2.2.1) (mCuE h).2.1 0)) 15 0 (fwFu ((mCuE h).2.2.2.1) (mCuE h).2.1 (h 1 0 1))) 16 0 (fwFu ((mCuE h).2.2.2.2) (mCuE h).2.1 0) = (fwUc (fwUc (fwUc (fwUc h 1 0 (fwFu (fwFu (h 1 0) 5 ((mCuE h).2.1 : Int)) 5 (((mCuE h).2.1 : Int) + 1))) 14 0 (fwFu ((mCuE h).2.2.1) (mCuE h).2.1 0)) 15 0 (fwFu ((mCuE h).2.2.2.1) (mCuE h).2.1 (h 1 0 1))) 16 0 (fwFu ((mCuE h).2.2.2.2) (mCuE h).2.1 0)) from by funext a b; simp only [fwUc]; (repeat' split); all_goals first | rfl | (exfalso; omega)]
      rw [fwFu5]
      exact w_vret dX9_cutTokens_143 rfl k
    · refine w_iload_n dX9_cutTokens_16 rfl ?_
      refine w_aload_n dX9_cutTokens_17 rfl ?_
      refine w_getiE (v := h 1 0 1) dX9_cutTokens_18 fl_X9_25 rfl (by decide) rfl ?_
      refine w_icmp_ge 133 dX9_cutTokens_21 (by decide) (by omega) (by omega) (fun c21 => ?_) (fun c21 => ?_)
      · have hend : (mCu (mBy h) (h 1 0 1) (0, 0, h 14 0, h 15 0, h 16 0) c) = mCuE h := by
          unfold mCuE
          by_cases e9 : c = 900
          · rw [e9]
          · have := mCu_end (b := mBy h) (sz := h 1 0 1) (s0 := (0, 0, h 14 0, h 15 0, h 16 0)) (i := c) (by omega) (900 - c)
            rw [show c + (900 - c) = 900 by omega] at this
            exact this.symm
        rw [hend]
        rw [hend] at hmm0
        refine w_aload_n dX9_cutTokens_133 rfl ?_
        refine w_iconst dX9_cutTokens_134 ?_
        refine w_aload_n dX9_cutTokens_135 rfl ?_
        refine w_getiE (v := h 1 0 1) dX9_cutTokens_136 fl_X9_25 rfl (by decide) rfl ?_
        refine w_iconst dX9_cutTokens_139 ?_
        refine w_callV (d := d + 5) (S := []) [aI 0, aI (h 1 0 1), aI 0] dX9_cutTokens_140 ml_X9_47 ok_X9_addToken vi_X9_addToken rfl rfl (by decide) rfl (Nat.le_of_ble_eq_true rfl) ?_
        refine c_addX (d := (d + 5)) (mCuE h).2.1 0 (h 1 0 1) 0 rfl (by omega) ?_
        show fwWP mX9_cutTokens (d + 6) 143 [some (aR 1 0), some (aI ((mCuE h).1 : Int)), some (aI (c : Int)), none, none] [] (fwUc (fwUc (fwUc (fwUc (fwUc (fwUc (fwUc (fwUc h 1 0 (fwFu (h 1 0) 5 ((mCuE h).2.1 : Int))) 14 0 (mCuE h).2.2.1) 15 0 (mCuE h).2.2.2.1) 16 0 (mCuE h).2.2.2.2) 1 0 (fwFu (fwFu (h 1 0) 5 ((mCuE h).2.1 : Int)) 5 (((mCuE h).2.1 : Int) + 1))) 14 0 (fwFu ((mCuE h).2.2.1) (mCuE h).2.1 0)) 15 0 (fwFu ((mCuE h).2.2.2.1) (mCuE h).2.1 (h 1 0 1))) 16 0 (fwFu ((mCuE h).2.2.2.2) (mCuE h).2.1 0)) Q
        rw [show fwUc (fwUc (fwUc (fwUc (fwUc (fwUc (fwUc (fwUc h 1 0 (fwFu (h 1 0) 5 ((mCuE h).2.1 : Int))) 14 0 (mCuE h).2.2.1) 15 0 (mCuE h).2.2.2.1) 16 0 (mCuE h).2.2.2.2) 1 0 (fwFu (fwFu (h 1 0) 5 ((mCuE h).2.1 : Int)) 5 (((mCuE h).2.1 : Int) + 1))) 14 0 (fwFu ((mCuE h).2.2.1) (mCuE h).2.1 0)) 15 0 (fwFu ((mCuE h).2.2.2.1) (mCuE h).2.1 (h 1 0 1))) 16 0 (fwFu ((mCuE h).2.2.2.2) (mCuE h).2.1 0) = (fwUc (fwUc (fwUc (fwUc h 1 0 (fwFu (fwFu (h 1 0) 5 ((mCuE h).2.1 : Int)) 5 (((mCuE h).2.1 : Int) + 1))) 14 0 (fwFu ((mCuE h).2.2.1) (mCuE h).2.1 0)) 15 0 (fwFu ((mCuE h).2.2.2.1) (mCuE h).2.1 (h 1 0 1))) 16 0 (fwFu ((mCuE h).2.2.2.2) (mCuE h).2.1 0)) from by funext a b; simp only [fwUc]; (repeat' split); all_goals first | rfl | (exfalso; omega)]
        rw [fwFu5]
        exact w_vret dX9_cutTokens_143 rfl k
      · have hmm := mCu_rng (h := h) (s0 := (0, 0, h 14 0, h 15 0, h 16 0)) (by show ((0 : Nat) : Int) ≤ h 1 0 1; omega) rfl c
        have hstep : (mCu (mBy h) (h 1 0 1) (0, 0, h 14 0, h 15 0, h 16 0) (c + 1)) = _ := mCu.eq_2 (mBy h) (h 1 0 1) (0, 0, h 14 0, h 15 0, h 16 0) c
        obtain ⟨s, es⟩ : ∃ s, s = (mCu (mBy h) (h 1 0 1) (0, 0, h 14 0, h 15 0, h 16 0) c) := ⟨_, rfl⟩
        rw [← es] at hstep hmm c21
        rw [← es]
        obtain ⟨p, ep⟩ : ∃ p, p = s.1 := ⟨_, rfl⟩
        rw [← ep] at hstep hmm c21
        rw [← ep]
        rw [if_pos c21] at hstep
        have hT5 : tOk (fwUc (fwUc (fwUc (fwUc h 1 0 (fwFu (h 1 0) 5 (s.2.1 : Int))) 14 0 s.2.2.1) 15 0 s.2.2.2.1) 16 0 s.2.2.2.2) := hT
        refine w_aload_n dX9_cutTokens_24 rfl ?_
        refine w_iload_n dX9_cutTokens_25 rfl ?_
        refine w_callV (d := d + 5) (S := []) [aI (p : Int)] dX9_cutTokens_26 ml_X9_32 ok_X9_byteAt vi_X9_byteAt rfl rfl (by decide) rfl (Nat.le_of_ble_eq_true rfl) ?_
        refine c_X9_byteAt (d := (d + 5)) p hT5 (by omega) ?_
        show fwWP mX9_cutTokens (d + 6) 29 [some (aR 1 0), some (aI (p : Int)), some (aI (c : Int)), none, none] [aI (mBy h p)] (fwUc (fwUc (fwUc (fwUc h 1 0 (fwFu (h 1 0) 5 (s.2.1 : Int))) 14 0 s.2.2.1) 15 0 s.2.2.2.1) 16 0 s.2.2.2.2) Q
        have hby := mBy_rng h p
        refine w_istore_n [some (aR 1 0), some (aI (p : Int)), some (aI (c : Int)), some (aI (mBy h p)), none] dX9_cutTokens_29 rfl (by decide) ?_
        refine w_iload_n dX9_cutTokens_30 rfl ?_
        refine w_iconst dX9_cutTokens_31 ?_
        refine w_iadd dX9_cutTokens_32 ?_
        refine w_istore [some (aR 1 0), some (aI (p : Int)), some (aI (c : Int)), some (aI (mBy h p)), some (aI ((p : Int) + 1))] dX9_cutTokens_33 rfl (by decide) ?_
        refine w_iload_n dX9_cutTokens_35 rfl ?_
        refine w_callS (d := d + 5) (S := []) [aI (mBy h p)] dX9_cutTokens_36 ml_X9_36 ok_X9_isLetter st_X9_isLetter rfl (Nat.le_of_ble_eq_true rfl) ?_
        refine c_X9_isLetter (d := (d + 5)) (mBy h p) (by first | assumption | omega | decide) ?_
        show fwWP mX9_cutTokens (d + 6) 39 [some (aR 1 0), some (aI (p : Int)), some (aI (c : Int)), some (aI (mBy h p)), some (aI ((p : Int) + 1))] [aI (fwB (mLet (mBy h p) = true))] (fwUc (fwUc (fwUc (fwUc h 1 0 (fwFu (h 1 0) 5 (s.2.1 : Int))) 14 0 s.2.2.1) 15 0 s.2.2.2.1) 16 0 s.2.2.2.2) Q
        refine w_ifB_eq 65 dX9_cutTokens_39 (by decide) (fun cl => ?_) (fun cl => ?_)
        · refine w_iload_n dX9_cutTokens_65 rfl ?_
          refine w_callS (d := d + 5) (S := []) [aI (mBy h p)] dX9_cutTokens_66 ml_X9_51 ok_X9_isDigit st_X9_isDigit rfl (Nat.le_of_ble_eq_true rfl) ?_
          refine c_X9_isDigit (d := (d + 5)) (mBy h p) (by first | assumption | omega | decide) ?_
          show fwWP mX9_cutTokens (d + 6) 69 [some (aR 1 0), some (aI (p : Int)), some (aI (c : Int)), some (aI (mBy h p)), some (aI ((p : Int) + 1))] [aI (fwB (mDig (mBy h p) = true))] (fwUc (fwUc (fwUc (fwUc h 1 0 (fwFu (h 1 0) 5 (s.2.1 : Int))) 14 0 s.2.2.1) 15 0 s.2.2.2.1) 16 0 s.2.2.2.2) Q
          refine w_ifB_eq 95 dX9_cutTokens_69 (by decide) (fun cd => ?_) (fun cd => ?_)
          · refine w_iload_n dX9_cutTokens_95 rfl ?_
            refine w_bipush dX9_cutTokens_96 rfl ?_
            refine w_icmp_eq 124 dX9_cutTokens_98 (by decide) (by omega) (by omega) (fun c98 => ?_) (fun c98 => ?_)
            · refine w_iload dX9_cutTokens_124 rfl ?_
              refine w_istore_n [some (aR 1 0), some (aI ((p : Int) + 1)), some (aI (c : Int)), some (aI (mBy h p)), some (aI ((p : Int) + 1))] dX9_cutTokens_126 rfl (by decide) ?_
              refine w_iinc [some (aR 1 0), some (aI ((p : Int) + 1)), some (aI ((c : Int) + 1)), some (aI (mBy h p)), some (aI ((p : Int) + 1))] dX9_cutTokens_127 rfl rfl (by decide) ?_
              refine w_goto 9 dX9_cutTokens_130 (by decide) ?_
              refine w_drop [3, 4] [some (aR 1 0), some (aI ((p : Int) + 1)), some (aI ((c : Int) + 1)), none, none] rfl ?_
              refine ih9 (by omega) _ _ _ ?_ ?_ ?_
              · exact (by omega)
              · exact (by rw [hstep, if_pos (by omega)]; omega)
              · exact (by rw [hstep, if_pos (by omega)])
            · refine w_iload_n dX9_cutTokens_101 rfl ?_
              refine w_bipush dX9_cutTokens_102 rfl ?_
              refine w_icmp_eq 124 dX9_cutTokens_104 (by decide) (by omega) (by omega) (fun c104 => ?_) (fun c104 => ?_)
              · refine w_iload dX9_cutTokens_124 rfl ?_
                refine w_istore_n [some (aR 1 0), some (aI ((p : Int) + 1)), some (aI (c : Int)), some (aI (mBy h p)), some (aI ((p : Int) + 1))] dX9_cutTokens_126 rfl (by decide) ?_
                refine w_iinc [some (aR 1 0), some (aI ((p : Int) + 1)), some (aI ((c : Int) + 1)), some (aI (mBy h p)), some (aI ((p : Int) + 1))] dX9_cutTokens_127 rfl rfl (by decide) ?_
                refine w_goto 9 dX9_cutTokens_130 (by decide) ?_
                refine w_drop [3, 4] [some (aR 1 0), some (aI ((p : Int) + 1)), some (aI ((c : Int) + 1)), none, none] rfl ?_
                refine ih9 (by omega) _ _ _ ?_ ?_ ?_
                · exact (by omega)
                · exact (by rw [hstep, if_pos (by omega)]; omega)
                · exact (by rw [hstep, if_pos (by omega)])
              · have hst2 := hstep
                rw [if_neg (show ¬ mBlank (mBy h p) from fun q => by unfold mBlank at q; omega)] at hst2
                refine w_aload_n dX9_cutTokens_107 rfl ?_
                refine w_iload_n dX9_cutTokens_108 rfl ?_
                refine w_bipush dX9_cutTokens_109 rfl ?_
                refine w_icmp_ne 118 dX9_cutTokens_111 (by decide) (by omega) (by omega) (fun c111 => ?_) (fun c111 => ?_)
                · refine w_iconst dX9_cutTokens_118 ?_
                  refine w_iload_n dX9_cutTokens_119 rfl ?_
                  refine w_iconst dX9_cutTokens_120 ?_
                  refine w_callV (d := d + 5) (S := []) [aI 1, aI (p : Int), aI 0] dX9_cutTokens_121 ml_X9_47 ok_X9_addToken vi_X9_addToken rfl rfl (by decide) rfl (Nat.le_of_ble_eq_true rfl) ?_
                  refine c_addX (d := (d + 5)) s.2.1 1 (p : Int) 0 rfl (by omega) ?_
                  show fwWP mX9_cutTokens (d + 6) 124 [some (aR 1 0), some (aI (p : Int)), some (aI (c : Int)), some (aI (mBy h p)), some (aI ((p : Int) + 1))] [] (fwUc (fwUc (fwUc (fwUc (fwUc (fwUc (fwUc (fwUc h 1 0 (fwFu (h 1 0) 5 (s.2.1 : Int))) 14 0 s.2.2.1) 15 0 s.2.2.2.1) 16 0 s.2.2.2.2) 1 0 (fwFu (fwFu (h 1 0) 5 (s.2.1 : Int)) 5 ((s.2.1 : Int) + 1))) 14 0 (fwFu s.2.2.1 s.2.1 1)) 15 0 (fwFu s.2.2.2.1 s.2.1 (p : Int))) 16 0 (fwFu s.2.2.2.2 s.2.1 0)) Q
                  rw [show fwUc (fwUc (fwUc (fwUc (fwUc (fwUc (fwUc (fwUc h 1 0 (fwFu (h 1 0) 5 (s.2.1 : Int))) 14 0 s.2.2.1) 15 0 s.2.2.2.1) 16 0 s.2.2.2.2) 1 0 (fwFu (fwFu (h 1 0) 5 (s.2.1 : Int)) 5 ((s.2.1 : Int) + 1))) 14 0 (fwFu s.2.2.1 s.2.1 1)) 15 0 (fwFu s.2.2.2.1 s.2.1 (p : Int))) 16 0 (fwFu s.2.2.2.2 s.2.1 0) = (fwUc (fwUc (fwUc (fwUc h 1 0 (fwFu (fwFu (h 1 0) 5 (s.2.1 : Int)) 5 ((s.2.1 : Int) + 1))) 14 0 (fwFu s.2.2.1 s.2.1 1)) 15 0 (fwFu s.2.2.2.1 s.2.1 (p : Int))) 16 0 (fwFu s.2.2.2.2 s.2.1 0)) from by funext a b; simp only [fwUc]; (repeat' split); all_goals first | rfl | (exfalso; omega)]
                  refine w_iload dX9_cutTokens_124 rfl ?_
                  refine w_istore_n [some (aR 1 0), some (aI ((p : Int) + 1)), some (aI (c : Int)), some (aI (mBy h p)), some (aI ((p : Int) + 1))] dX9_cutTokens_126 rfl (by decide) ?_
                  refine w_iinc [some (aR 1 0), some (aI ((p : Int) + 1)), some (aI ((c : Int) + 1)), some (aI (mBy h p)), some (aI ((p : Int) + 1))] dX9_cutTokens_127 rfl rfl (by decide) ?_
                  refine w_goto 9 dX9_cutTokens_130 (by decide) ?_
                  refine w_drop [3, 4] [some (aR 1 0), some (aI ((p : Int) + 1)), some (aI ((c : Int) + 1)), none, none] rfl ?_
                  refine ih9 (by omega) _ _ _ ?_ ?_ ?_
                  · exact (by omega)
                  · exact (by rw [hst2]; show _ = ((mNxt (mBy h) p : Nat) : Int); unfold mNxt; first | rw [if_pos cl] | rw [if_neg cl, if_pos cd] | (rw [if_neg cl, if_neg cd]; omega))
                  · exact (by rw [hst2, fwFu5]; show _ = fwUc (fwUc (fwUc (fwUc h 1 0 (fwFu (h 1 0) 5 (((s.2.1 + 1 : Nat)) : Int))) 14 0 (fwFu s.2.2.1 s.2.1 (mKd (mBy h) p))) 15 0 (fwFu s.2.2.2.1 s.2.1 (p : Int))) 16 0 (fwFu s.2.2.2.2 s.2.1 (mVl (mBy h) p)); unfold mKd mVl; first | (rw [if_pos cl, if_pos cl]; rfl) | (rw [if_neg cl, if_neg cl, if_pos cd, if_pos cd]; rfl) | (rw [if_neg cl, if_neg cl, if_neg cd, if_neg cd, if_pos (by omega)]; rfl) | (rw [if_neg cl, if_neg cl, if_neg cd, if_neg cd, if_neg (by omega)]; rfl))
                · refine w_iconst dX9_cutTokens_114 ?_
                  refine w_goto 119 dX9_cutTokens_115 (by decide) ?_
                  refine w_iload_n dX9_cutTokens_119 rfl ?_
                  refine w_iconst dX9_cutTokens_120 ?_
                  refine w_callV (d := d + 5) (S := []) [aI 2, aI (p : Int), aI 0] dX9_cutTokens_121 ml_X9_47 ok_X9_addToken vi_X9_addToken rfl rfl (by decide) rfl (Nat.le_of_ble_eq_true rfl) ?_
                  refine c_addX (d := (d + 5)) s.2.1 2 (p : Int) 0 rfl (by omega) ?_
                  show fwWP mX9_cutTokens (d + 6) 124 [some (aR 1 0), some (aI (p : Int)), some (aI (c : Int)), some (aI (mBy h p)), some (aI ((p : Int) + 1))] [] (fwUc (fwUc (fwUc (fwUc (fwUc (fwUc (fwUc (fwUc h 1 0 (fwFu (h 1 0) 5 (s.2.1 : Int))) 14 0 s.2.2.1) 15 0 s.2.2.2.1) 16 0 s.2.2.2.2) 1 0 (fwFu (fwFu (h 1 0) 5 (s.2.1 : Int)) 5 ((s.2.1 : Int) + 1))) 14 0 (fwFu s.2.2.1 s.2.1 2)) 15 0 (fwFu s.2.2.2.1 s.2.1 (p : Int))) 16 0 (fwFu s.2.2.2.2 s.2.1 0)) Q
                  rw [show fwUc (fwUc (fwUc (fwUc (fwUc (fwUc (fwUc (fwUc h 1 0 (fwFu (h 1 0) 5 (s.2.1 : Int))) 14 0 s.2.2.1) 15 0 s.2.2.2.1) 16 0 s.2.2.2.2) 1 0 (fwFu (fwFu (h 1 0) 5 (s.2.1 : Int)) 5 ((s.2.1 : Int) + 1))) 14 0 (fwFu s.2.2.1 s.2.1 2)) 15 0 (fwFu s.2.2.2.1 s.2.1 (p : Int))) 16 0 (fwFu s.2.2.2.2 s.2.1 0) = (fwUc (fwUc (fwUc (fwUc h 1 0 (fwFu (fwFu (h 1 0) 5 (s.2.1 : Int)) 5 ((s.2.1 : Int) + 1))) 14 0 (fwFu s.2.2.1 s.2.1 2)) 15 0 (fwFu s.2.2.2.1 s.2.1 (p : Int))) 16 0 (fwFu s.2.2.2.2 s.2.1 0)) from by funext a b; simp only [fwUc]; (repeat' split); all_goals first | rfl | (exfalso; omega)]
                  refine w_iload dX9_cutTokens_124 rfl ?_
                  refine w_istore_n [some (aR 1 0), some (aI ((p : Int) + 1)), some (aI (c : Int)), some (aI (mBy h p)), some (aI ((p : Int) + 1))] dX9_cutTokens_126 rfl (by decide) ?_
                  refine w_iinc [some (aR 1 0), some (aI ((p : Int) + 1)), some (aI ((c : Int) + 1)), some (aI (mBy h p)), some (aI ((p : Int) + 1))] dX9_cutTokens_127 rfl rfl (by decide) ?_
                  refine w_goto 9 dX9_cutTokens_130 (by decide) ?_
                  refine w_drop [3, 4] [some (aR 1 0), some (aI ((p : Int) + 1)), some (aI ((c : Int) + 1)), none, none] rfl ?_
                  refine ih9 (by omega) _ _ _ ?_ ?_ ?_
                  · exact (by omega)
                  · exact (by rw [hst2]; show _ = ((mNxt (mBy h) p : Nat) : Int); unfold mNxt; first | rw [if_pos cl] | rw [if_neg cl, if_pos cd] | (rw [if_neg cl, if_neg cd]; omega))
                  · exact (by rw [hst2, fwFu5]; show _ = fwUc (fwUc (fwUc (fwUc h 1 0 (fwFu (h 1 0) 5 (((s.2.1 + 1 : Nat)) : Int))) 14 0 (fwFu s.2.2.1 s.2.1 (mKd (mBy h) p))) 15 0 (fwFu s.2.2.2.1 s.2.1 (p : Int))) 16 0 (fwFu s.2.2.2.2 s.2.1 (mVl (mBy h) p)); unfold mKd mVl; first | (rw [if_pos cl, if_pos cl]; rfl) | (rw [if_neg cl, if_neg cl, if_pos cd, if_pos cd]; rfl) | (rw [if_neg cl, if_neg cl, if_neg cd, if_neg cd, if_pos (by omega)]; rfl) | (rw [if_neg cl, if_neg cl, if_neg cd, if_neg cd, if_neg (by omega)]; rfl))
          · have hst2 := hstep
            rw [if_neg (mDig_nb cd)] at hst2
            refine w_aload_n dX9_cutTokens_72 rfl ?_
            refine w_iload_n dX9_cutTokens_73 rfl ?_
            refine w_callV (d := d + 5) (S := []) [aI (p : Int)] dX9_cutTokens_74 ml_X9_54 ok_X9_numberEnd vi_X9_numberEnd rfl rfl (by decide) rfl (Nat.le_of_ble_eq_true rfl) ?_
            refine c_X9_numberEnd (d := (d + 4)) p hT5 (by omega) ?_
            show fwWP mX9_cutTokens (d + 6) 77 [some (aR 1 0), some (aI (p : Int)), some (aI (c : Int)), some (aI (mBy h p)), some (aI ((p : Int) + 1))] [aI ((mDigEnd (mBy h) p : Nat) : Int)] (fwUc (fwUc (fwUc (fwUc h 1 0 (fwFu (h 1 0) 5 (s.2.1 : Int))) 14 0 s.2.2.1) 15 0 s.2.2.2.1) 16 0 s.2.2.2.2) Q
            have hle : ((mDigEnd (mBy h) p : Nat) : Int) ≤ h 1 0 1 := mRun_le (q := mDig) (by decide) (by omega)
            refine w_istore [some (aR 1 0), some (aI (p : Int)), some (aI (c : Int)), some (aI (mBy h p)), some (aI ((mDigEnd (mBy h) p : Nat) : Int))] dX9_cutTokens_77 rfl (by decide) ?_
            refine w_aload_n dX9_cutTokens_79 rfl ?_
            refine w_iconst dX9_cutTokens_80 ?_
            refine w_iload_n dX9_cutTokens_81 rfl ?_
            refine w_aload_n dX9_cutTokens_82 rfl ?_
            refine w_iload_n dX9_cutTokens_83 rfl ?_
            refine w_iload dX9_cutTokens_84 rfl ?_
            refine w_callV (d := d + 5) (S := [aI (p : Int), aI 3, aR 1 0]) [aI (p : Int), aI ((mDigEnd (mBy h) p : Nat) : Int)] dX9_cutTokens_86 ml_X9_57 ok_X9_numberOf vi_X9_numberOf rfl rfl (by decide) rfl (Nat.le_of_ble_eq_true rfl) ?_
            refine c_numX (d := (d + 4)) p (mFst (fun i => mDig (mBy h (p + i))) 900) _ _ rfl (by show ((mDigEnd (mBy h) p : Nat) : Int) = _; unfold mDigEnd; omega) hT5 (by omega) (mFst_le _ _) (fun j hj => mFst_pre _ j hj) ?_
            show fwWP mX9_cutTokens (d + 6) 89 [some (aR 1 0), some (aI (p : Int)), some (aI (c : Int)), some (aI (mBy h p)), some (aI ((mDigEnd (mBy h) p : Nat) : Int))] [aI (mNum (mBy h) p (mFst (fun i => mDig (mBy h (p + i))) 900)), aI (p : Int), aI 3, aR 1 0] (fwUc (fwUc (fwUc (fwUc h 1 0 (fwFu (h 1 0) 5 (s.2.1 : Int))) 14 0 s.2.2.1) 15 0 s.2.2.2.1) 16 0 s.2.2.2.2) Q
            refine w_callV (d := d + 5) (S := []) [aI 3, aI (p : Int), aI (mNum (mBy h) p (mFst (fun i => mDig (mBy h (p + i))) 900))] dX9_cutTokens_89 ml_X9_47 ok_X9_addToken vi_X9_addToken rfl rfl (by decide) rfl (Nat.le_of_ble_eq_true rfl) ?_
            refine c_addX (d := (d + 5)) s.2.1 3 (p : Int) (mNum (mBy h) p (mFst (fun i => mDig (mBy h (p + i))) 900)) rfl (by omega) ?_
            show fwWP mX9_cutTokens (d + 6) 92 [some (aR 1 0), some (aI (p : Int)), some (aI (c : Int)), some (aI (mBy h p)), some (aI ((mDigEnd (mBy h) p : Nat) : Int))] [] (fwUc (fwUc (fwUc (fwUc (fwUc (fwUc (fwUc (fwUc h 1 0 (fwFu (h 1 0) 5 (s.2.1 : Int))) 14 0 s.2.2.1) 15 0 s.2.2.2.1) 16 0 s.2.2.2.2) 1 0 (fwFu (fwFu (h 1 0) 5 (s.2.1 : Int)) 5 ((s.2.1 : Int) + 1))) 14 0 (fwFu s.2.2.1 s.2.1 3)) 15 0 (fwFu s.2.2.2.1 s.2.1 (p : Int))) 16 0 (fwFu s.2.2.2.2 s.2.1 (mNum (mBy h) p (mFst (fun i => mDig (mBy h (p + i))) 900)))) Q
            rw [show fwUc (fwUc (fwUc (fwUc (fwUc (fwUc (fwUc (fwUc h 1 0 (fwFu (h 1 0) 5 (s.2.1 : Int))) 14 0 s.2.2.1) 15 0 s.2.2.2.1) 16 0 s.2.2.2.2) 1 0 (fwFu (fwFu (h 1 0) 5 (s.2.1 : Int)) 5 ((s.2.1 : Int) + 1))) 14 0 (fwFu s.2.2.1 s.2.1 3)) 15 0 (fwFu s.2.2.2.1 s.2.1 (p : Int))) 16 0 (fwFu s.2.2.2.2 s.2.1 (mNum (mBy h) p (mFst (fun i => mDig (mBy h (p + i))) 900))) = (fwUc (fwUc (fwUc (fwUc h 1 0 (fwFu (fwFu (h 1 0) 5 (s.2.1 : Int)) 5 ((s.2.1 : Int) + 1))) 14 0 (fwFu s.2.2.1 s.2.1 3)) 15 0 (fwFu s.2.2.2.1 s.2.1 (p : Int))) 16 0 (fwFu s.2.2.2.2 s.2.1 (mNum (mBy h) p (mFst (fun i => mDig (mBy h (p + i))) 900)))) from by funext a b; simp only [fwUc]; (repeat' split); all_goals first | rfl | (exfalso; omega)]
            refine w_goto 124 dX9_cutTokens_92 (by decide) ?_
            refine w_iload dX9_cutTokens_124 rfl ?_
            refine w_istore_n [some (aR 1 0), some (aI ((mDigEnd (mBy h) p : Nat) : Int)), some (aI (c : Int)), some (aI (mBy h p)), some (aI ((mDigEnd (mBy h) p : Nat) : Int))] dX9_cutTokens_126 rfl (by decide) ?_
            refine w_iinc [some (aR 1 0), some (aI ((mDigEnd (mBy h) p : Nat) : Int)), some (aI ((c : Int) + 1)), some (aI (mBy h p)), some (aI ((mDigEnd (mBy h) p : Nat) : Int))] dX9_cutTokens_127 rfl rfl (by decide) ?_
            refine w_goto 9 dX9_cutTokens_130 (by decide) ?_
            refine w_drop [3, 4] [some (aR 1 0), some (aI ((mDigEnd (mBy h) p : Nat) : Int)), some (aI ((c : Int) + 1)), none, none] rfl ?_
            refine ih9 (by omega) _ _ _ ?_ ?_ ?_
            · exact (by omega)
            · exact (by rw [hst2]; show _ = ((mNxt (mBy h) p : Nat) : Int); unfold mNxt; first | rw [if_pos cl] | rw [if_neg cl, if_pos cd] | (rw [if_neg cl, if_neg cd]; omega))
            · exact (by rw [hst2, fwFu5]; show _ = fwUc (fwUc (fwUc (fwUc h 1 0 (fwFu (h 1 0) 5 (((s.2.1 + 1 : Nat)) : Int))) 14 0 (fwFu s.2.2.1 s.2.1 (mKd (mBy h) p))) 15 0 (fwFu s.2.2.2.1 s.2.1 (p : Int))) 16 0 (fwFu s.2.2.2.2 s.2.1 (mVl (mBy h) p)); unfold mKd mVl; first | (rw [if_pos cl, if_pos cl]; rfl) | (rw [if_neg cl, if_neg cl, if_pos cd, if_pos cd]; rfl) | (rw [if_neg cl, if_neg cl, if_neg cd, if_neg cd, if_pos (by omega)]; rfl) | (rw [if_neg cl, if_neg cl, if_neg cd, if_neg cd, if_neg (by omega)]; rfl))
        · have hst2 := hstep
          rw [if_neg (mLet_nb cl)] at hst2
          refine w_aload_n dX9_cutTokens_42 rfl ?_
          refine w_iload_n dX9_cutTokens_43 rfl ?_
          refine w_callV (d := d + 5) (S := []) [aI (p : Int)] dX9_cutTokens_44 ml_X9_40 ok_X9_wordEnd vi_X9_wordEnd rfl rfl (by decide) rfl (Nat.le_of_ble_eq_true rfl) ?_
          refine c_X9_wordEnd (d := (d + 4)) p hT5 (by omega) ?_
          show fwWP mX9_cutTokens (d + 6) 47 [some (aR 1 0), some (aI (p : Int)), some (aI (c : Int)), some (aI (mBy h p)), some (aI ((p : Int) + 1))] [aI ((mLetEnd (mBy h) p : Nat) : Int)] (fwUc (fwUc (fwUc (fwUc h 1 0 (fwFu (h 1 0) 5 (s.2.1 : Int))) 14 0 s.2.2.1) 15 0 s.2.2.2.1) 16 0 s.2.2.2.2) Q
          have hle : ((mLetEnd (mBy h) p : Nat) : Int) ≤ h 1 0 1 := mRun_le (q := mLet) (by decide) (by omega)
          refine w_istore [some (aR 1 0), some (aI (p : Int)), some (aI (c : Int)), some (aI (mBy h p)), some (aI ((mLetEnd (mBy h) p : Nat) : Int))] dX9_cutTokens_47 rfl (by decide) ?_
          refine w_aload_n dX9_cutTokens_49 rfl ?_
          refine w_aload_n dX9_cutTokens_50 rfl ?_
          refine w_iload_n dX9_cutTokens_51 rfl ?_
          refine w_iload dX9_cutTokens_52 rfl ?_
          refine w_callV (d := d + 5) (S := [aR 1 0]) [aI (p : Int), aI ((mLetEnd (mBy h) p : Nat) : Int)] dX9_cutTokens_54 ml_X9_43 ok_X9_wordKind vi_X9_wordKind rfl rfl (by decide) rfl (Nat.le_of_ble_eq_true rfl) ?_
          refine c_X9_wordKind (d := d) p (mLetEnd (mBy h) p) hT5 (by omega) (by omega) ?_
          show fwWP mX9_cutTokens (d + 6) 57 [some (aR 1 0), some (aI (p : Int)), some (aI (c : Int)), some (aI (mBy h p)), some (aI ((mLetEnd (mBy h) p : Nat) : Int))] [aI (mWk (mBy h) p (mLetEnd (mBy h) p)), aR 1 0] (fwUc (fwUc (fwUc (fwUc h 1 0 (fwFu (h 1 0) 5 (s.2.1 : Int))) 14 0 s.2.2.1) 15 0 s.2.2.2.1) 16 0 s.2.2.2.2) Q
          refine w_iload_n dX9_cutTokens_57 rfl ?_
          refine w_iconst dX9_cutTokens_58 ?_
          refine w_callV (d := d + 5) (S := []) [aI (mWk (mBy h) p (mLetEnd (mBy h) p)), aI (p : Int), aI 0] dX9_cutTokens_59 ml_X9_47 ok_X9_addToken vi_X9_addToken rfl rfl (by decide) rfl (Nat.le_of_ble_eq_true rfl) ?_
          refine c_addX (d := (d + 5)) s.2.1 (mWk (mBy h) p (mLetEnd (mBy h) p)) (p : Int) 0 rfl (by omega) ?_
          show fwWP mX9_cutTokens (d + 6) 62 [some (aR 1 0), some (aI (p : Int)), some (aI (c : Int)), some (aI (mBy h p)), some (aI ((mLetEnd (mBy h) p : Nat) : Int))] [] (fwUc (fwUc (fwUc (fwUc (fwUc (fwUc (fwUc (fwUc h 1 0 (fwFu (h 1 0) 5 (s.2.1 : Int))) 14 0 s.2.2.1) 15 0 s.2.2.2.1) 16 0 s.2.2.2.2) 1 0 (fwFu (fwFu (h 1 0) 5 (s.2.1 : Int)) 5 ((s.2.1 : Int) + 1))) 14 0 (fwFu s.2.2.1 s.2.1 (mWk (mBy h) p (mLetEnd (mBy h) p)))) 15 0 (fwFu s.2.2.2.1 s.2.1 (p : Int))) 16 0 (fwFu s.2.2.2.2 s.2.1 0)) Q
          rw [show fwUc (fwUc (fwUc (fwUc (fwUc (fwUc (fwUc (fwUc h 1 0 (fwFu (h 1 0) 5 (s.2.1 : Int))) 14 0 s.2.2.1) 15 0 s.2.2.2.1) 16 0 s.2.2.2.2) 1 0 (fwFu (fwFu (h 1 0) 5 (s.2.1 : Int)) 5 ((s.2.1 : Int) + 1))) 14 0 (fwFu s.2.2.1 s.2.1 (mWk (mBy h) p (mLetEnd (mBy h) p)))) 15 0 (fwFu s.2.2.2.1 s.2.1 (p : Int))) 16 0 (fwFu s.2.2.2.2 s.2.1 0) = (fwUc (fwUc (fwUc (fwUc h 1 0 (fwFu (fwFu (h 1 0) 5 (s.2.1 : Int)) 5 ((s.2.1 : Int) + 1))) 14 0 (fwFu s.2.2.1 s.2.1 (mWk (mBy h) p (mLetEnd (mBy h) p)))) 15 0 (fwFu s.2.2.2.1 s.2.1 (p : Int))) 16 0 (fwFu s.2.2.2.2 s.2.1 0)) from by funext a b; simp only [fwUc]; (repeat' split); all_goals first | rfl | (exfalso; omega)]
          refine w_goto 124 dX9_cutTokens_62 (by decide) ?_
          refine w_iload dX9_cutTokens_124 rfl ?_
          refine w_istore_n [some (aR 1 0), some (aI ((mLetEnd (mBy h) p : Nat) : Int)), some (aI (c : Int)), some (aI (mBy h p)), some (aI ((mLetEnd (mBy h) p : Nat) : Int))] dX9_cutTokens_126 rfl (by decide) ?_
          refine w_iinc [some (aR 1 0), some (aI ((mLetEnd (mBy h) p : Nat) : Int)), some (aI ((c : Int) + 1)), some (aI (mBy h p)), some (aI ((mLetEnd (mBy h) p : Nat) : Int))] dX9_cutTokens_127 rfl rfl (by decide) ?_
          refine w_goto 9 dX9_cutTokens_130 (by decide) ?_
          refine w_drop [3, 4] [some (aR 1 0), some (aI ((mLetEnd (mBy h) p : Nat) : Int)), some (aI ((c : Int) + 1)), none, none] rfl ?_
          refine ih9 (by omega) _ _ _ ?_ ?_ ?_
          · exact (by omega)
          · exact (by rw [hst2]; show _ = ((mNxt (mBy h) p : Nat) : Int); unfold mNxt; first | rw [if_pos cl] | rw [if_neg cl, if_pos cd] | (rw [if_neg cl, if_neg cd]; omega))
          · exact (by rw [hst2, fwFu5]; show _ = fwUc (fwUc (fwUc (fwUc h 1 0 (fwFu (h 1 0) 5 (((s.2.1 + 1 : Nat)) : Int))) 14 0 (fwFu s.2.2.1 s.2.1 (mKd (mBy h) p))) 15 0 (fwFu s.2.2.2.1 s.2.1 (p : Int))) 16 0 (fwFu s.2.2.2.2 s.2.1 (mVl (mBy h) p)); unfold mKd mVl; first | (rw [if_pos cl, if_pos cl]; rfl) | (rw [if_neg cl, if_neg cl, if_pos cd, if_pos cd]; rfl) | (rw [if_neg cl, if_neg cl, if_neg cd, if_neg cd, if_pos (by omega)]; rfl) | (rw [if_neg cl, if_neg cl, if_neg cd, if_neg cd, if_neg (by omega)]; rfl))
  refine lp9 0 (Nat.zero_le _) _ _ _ ?_ ?_ ?_
  · exact (by omega)
  · exact rfl
  · exact (by exact cutE0 h)
def mAdN (B : Nat → Int) (s : Nat) (x : Int) : Nat → (Nat → Int)
  | 0 => B
  | c + 1 => fwFu (mAdN B s x c) (s + c) (fwB8 (fwShr x (24 - 8 * (c : Int))))
theorem adnE0 (h : fwH) (x : Int) : h = fwUc (fwUc h 1 0 (fwFu (h 1 0) 1 (h 1 0 1 + ((0 : Nat) : Int)))) 13 0 (mAdN (h 13 0) (h 1 0 1).toNat x 0) := by
  rw [mAdN, show fwFu (h 1 0) 1 (h 1 0 1 + ((0 : Nat) : Int)) = h 1 0 from by
    funext s
    unfold fwFu
    split
    · rename_i e; subst e; omega
    · rfl, fwUc_self, fwUc_self]
set_option maxRecDepth 100000 in
set_option maxHeartbeats 4000000 in
theorem c_X9_addNumber {d : Nat} {h : fwH} {Q : Option fwV → fwH → Prop} (x : Int) (hT : 0 ≤ h 1 0 1 ∧ h 1 0 1 ≤ 896) (k : Q none (fwUc (fwUc h 1 0 (fwFu (h 1 0) 1 (h 1 0 1 + ((4 : Nat) : Int)))) 13 0 (mAdN (h 13 0) (h 1 0 1).toNat x 4))) : fwCt mX9_addNumber (d + 0) [aR 1 0, aI x] h Q := by
  refine fwCt_of [some (aR 1 0), some (aI x), none] rfl rfl rfl ?_
  refine w_bipush dX9_addNumber_0 rfl ?_
  refine w_istore_n [some (aR 1 0), some (aI x), some (aI 24)] dX9_addNumber_2 rfl (by decide) ?_
  have lp3 : ∀ c : Nat, c ≤ 4 → ∀ (y3  : Int) (hh3 : fwH), y3 = 24 - 8 * (c : Int) → hh3 = (fwUc (fwUc h 1 0 (fwFu (h 1 0) 1 (h 1 0 1 + (c : Int)))) 13 0 (mAdN (h 13 0) (h 1 0 1).toNat x c)) → fwWP mX9_addNumber (d + 0) 3 [some (aR 1 0), some (aI x), some (aI y3)] [] hh3 Q := by
    refine fw_up (fun c hc3 ih3 => ?_)
    intro y3  hh3 ey3 eh3
    subst ey3
    subst eh3
    show fwWP mX9_addNumber (d + 0) 3 [some (aR 1 0), some (aI x), some (aI (24 - 8 * (c : Int)))] [] (fwUc (fwUc h 1 0 (fwFu (h 1 0) 1 (h 1 0 1 + (c : Int)))) 13 0 (mAdN (h 13 0) (h 1 0 1).toNat x c)) Q
    refine w_iload_n dX9_addNumber_3 rfl ?_
    refine w_if_lt 55 dX9_addNumber_4 (by decide) (by omega) (fun c4 => ?_) (fun c4 => ?_)
    · have ec3 : 4 = c := by omega
      subst ec3
      exact w_vret dX9_addNumber_55 rfl (k)
    · refine w_aload_n dX9_addNumber_7 rfl ?_
      refine w_getiE (v := h 1 0 1 + (c : Int)) dX9_addNumber_8 fl_X9_25 rfl (by decide) rfl ?_
      refine w_if_lt 49 dX9_addNumber_11 (by decide) (by omega) (fun c11 => ?_) (fun c11 => ?_)
      · (exfalso; omega)
      · refine w_aload_n dX9_addNumber_14 rfl ?_
        refine w_getiE (v := h 1 0 1 + (c : Int)) dX9_addNumber_15 fl_X9_25 rfl (by decide) rfl ?_
        refine w_aload_n dX9_addNumber_18 rfl ?_
        refine w_getr 13 0 dX9_addNumber_19 fl_X9_9 rfl (by decide) ?_
        refine w_alen dX9_addNumber_22 rfl (by decide) (by decide) ?_
        refine w_icmp_ge 49 dX9_addNumber_23 (by decide) (by omega) (by omega) (fun c23 => ?_) (fun c23 => ?_)
        · (exfalso; omega)
        · refine w_aload_n dX9_addNumber_26 rfl ?_
          refine w_getr 13 0 dX9_addNumber_27 fl_X9_9 rfl (by decide) ?_
          refine w_aload_n dX9_addNumber_30 rfl ?_
          refine w_getiE (v := h 1 0 1 + (c : Int)) dX9_addNumber_31 fl_X9_25 rfl (by decide) rfl ?_
          refine w_iload_n dX9_addNumber_34 rfl ?_
          refine w_iload_n dX9_addNumber_35 rfl ?_
          refine w_ishr dX9_addNumber_36 ?_
          refine w_i2b dX9_addNumber_37 ?_
          have hb8 := fwB8_rng (fwShr x (24 - 8 * (c : Int)))
          refine w_bast dX9_addNumber_38 rfl (by decide) (by omega) (by omega) (by first | omega | exact fwB_01 _) ?_
          rw [show (fwUp (fwUc (fwUc h 1 0 (fwFu (h 1 0) 1 (h 1 0 1 + (c : Int)))) 13 0 (mAdN (h 13 0) (h 1 0 1).toNat x c)) 13 0 (h 1 0 1 + (c : Int)).toNat (fwB8 (fwShr x (24 - 8 * (c : Int))))) = (fwUc (fwUc (fwUc h 1 0 (fwFu (h 1 0) 1 (h 1 0 1 + (c : Int)))) 13 0 (mAdN (h 13 0) (h 1 0 1).toNat x c)) 13 0 (fwFu ((mAdN (h 13 0) (h 1 0 1).toNat x c)) (h 1 0 1 + (c : Int)).toNat (fwB8 (fwShr x (24 - 8 * (c : Int)))))) from fwUp_fu _ _ _ _ _]
          rw [show (fwUc (fwUc (fwUc h 1 0 (fwFu (h 1 0) 1 (h 1 0 1 + (c : Int)))) 13 0 (mAdN (h 13 0) (h 1 0 1).toNat x c)) 13 0 (fwFu ((mAdN (h 13 0) (h 1 0 1).toNat x c)) (h 1 0 1 + (c : Int)).toNat (fwB8 (fwShr x (24 - 8 * (c : Int)))))) = (fwUc (fwUc h 1 0 (fwFu (h 1 0) 1 (h 1 0 1 + (c : Int)))) 13 0 (fwFu ((mAdN (h 13 0) (h 1 0 1).toNat x c)) (h 1 0 1 + (c : Int)).toNat (fwB8 (fwShr x (24 - 8 * (c : Int)))))) from by funext a b; simp only [fwUc]; (repeat' split); all_goals first | rfl | (exfalso; omega)]
          rw [show (fwUc (fwUc h 1 0 (fwFu (h 1 0) 1 (h 1 0 1 + (c : Int)))) 13 0 (fwFu ((mAdN (h 13 0) (h 1 0 1).toNat x c)) (h 1 0 1 + (c : Int)).toNat (fwB8 (fwShr x (24 - 8 * (c : Int)))))) = (fwUc (fwUc h 1 0 (fwFu (h 1 0) 1 (h 1 0 1 + (c : Int)))) 13 0 (mAdN (h 13 0) (h 1 0 1).toNat x (c + 1))) from by rw [mAdN, show (h 1 0 1 + (c : Int)).toNat = (h 1 0 1).toNat + c by omega]]
          refine w_aload_n dX9_addNumber_39 rfl ?_
          refine w_dup dX9_addNumber_40 rfl ?_
          refine w_getiE (v := h 1 0 1 + (c : Int)) dX9_addNumber_41 fl_X9_25 rfl (by decide) rfl ?_
          refine w_iconst dX9_addNumber_44 ?_
          refine w_iadd dX9_addNumber_45 ?_
          refine w_puti dX9_addNumber_46 fl_X9_25 fp_1_1 rfl (by decide) ?_
          rw [show (fwUp (fwUc (fwUc h 1 0 (fwFu (h 1 0) 1 (h 1 0 1 + (c : Int)))) 13 0 (mAdN (h 13 0) (h 1 0 1).toNat x (c + 1))) 1 0 1 ((h 1 0 1 + (c : Int)) + 1)) = (fwUc (fwUc (fwUc h 1 0 (fwFu (h 1 0) 1 (h 1 0 1 + (c : Int)))) 13 0 (mAdN (h 13 0) (h 1 0 1).toNat x (c + 1))) 1 0 (fwFu ((fwFu (h 1 0) 1 (h 1 0 1 + (c : Int)))) 1 ((h 1 0 1 + (c : Int)) + 1))) from fwUp_fu _ _ _ _ _]
          rw [show (fwUc (fwUc (fwUc h 1 0 (fwFu (h 1 0) 1 (h 1 0 1 + (c : Int)))) 13 0 (mAdN (h 13 0) (h 1 0 1).toNat x (c + 1))) 1 0 (fwFu ((fwFu (h 1 0) 1 (h 1 0 1 + (c : Int)))) 1 ((h 1 0 1 + (c : Int)) + 1))) = (fwUc (fwUc h 1 0 (fwFu ((fwFu (h 1 0) 1 (h 1 0 1 + (c : Int)))) 1 ((h 1 0 1 + (c : Int)) + 1))) 13 0 (mAdN (h 13 0) (h 1 0 1).toNat x (c + 1))) from by funext a b; simp only [fwUc]; (repeat' split); all_goals first | rfl | (exfalso; omega)]
          rw [fwFu_fu]
          refine w_iinc [some (aR 1 0), some (aI x), some (aI ((24 - 8 * (c : Int)) + (-8)))] dX9_addNumber_49 rfl rfl (by decide) ?_
          refine w_goto 3 dX9_addNumber_52 (by decide) ?_
          refine ih3 (by omega) _ _ ?_ ?_
          · exact (by omega)
          · exact (by rw [show ((c + 1 : Nat) : Int) = (c : Int) + 1 by omega, Int.add_assoc])
  refine lp3 0 (Nat.zero_le _) _ _ ?_ ?_
  · exact (by omega)
  · exact (by exact adnE0 h x)

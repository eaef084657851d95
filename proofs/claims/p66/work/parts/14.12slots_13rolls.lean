section
/-! FootLower$Slots -/
def fwI32 (x : Int) : Int := (Int32.ofInt x).toInt
theorem fwI32_rng (x : Int) : -2147483648 ≤ fwI32 x ∧ fwI32 x < 2147483648 := fwR32 _
section FWS
variable {M : fwM} {d pc : Nat} {L : List (Option fwV)} {S : List fwV} {h : fwH} {Q : Option fwV → fwH → Prop}
theorem w_l2iC {x : Int} (hd : decode M.2.1 pc = .ok (.l2i, 1)) (k : fwWP M d (pc + 1) L (aI (fwI32 x) :: S) h Q) : fwWP M d pc L (aJ x :: S) h Q := by
  intro l p e s m args below meth c ad D tc H locs ls C X
  exact lv_l2i C.1 C.2.1 hd (v := Int32.ofInt (fwI32 x)) (by unfold fwI32; rw [Int32.ofInt_toInt]; exact Int64.toInt32_ofInt) (k l p e s m args below meth c ad D tc H locs ls C X)
/-- the rows' row -/
theorem w_aald32 {x : Int} (hd : decode M.2.1 pc = .ok (.aaload, 1)) (h0 : 0 ≤ x) (h1 : x < 4) (kk : fwWP M d (pc + 1) L (aR 33 x.toNat :: S) h Q) : fwWP M d pc L (aI x :: aR 32 0 :: S) h Q := by
  intro l p e s m args below meth c ad D tc H locs ls C X
  obtain ⟨hx, hb, -, hown, hts, -, -, hK, hI, -⟩ := id C
  obtain ⟨q0, hq, hw⟩ := fw_get (k := 32) (i := 0) (by decide)
  have he := hw ad tc h
  rw [fwCel_a (a := (5, 4)) rfl rfl] at he
  have h9 : x.toNat < 4 := by omega
  have hin : vp_in (Int32.ofInt x) 4 := fwI_in h0 h1 (by decide)
  have hlt : (Int32.ofInt x).toNatClampNeg < 4 := by rw [fwI_cl h0 (by omega)]; exact h9
  refine W.aald (v := .ref (ad 33 x.toNat)) (ty := .array .long) hx hb (X.1 q0 _ he) ((hK.2 5 _ rfl).1 4 (fun j => va_rf (if j < 4 then some (ad (fwEl 32 j).1 (fwEl 32 j).2) else none))) rfl (fun q => by cases q) (by show ¬ (_ ∨ (arrV _ _ _).slots.size ≤ _); rw [arrV_size]; exact hin) ?_ rfl rfl hd (kk l p e s m args below meth c ad D tc H locs ls C X)
  show (arrV _ _ _).slots[_]? = _
  rw [arrV_read _ _ hlt, fwI_cl h0 (by omega)]
  show some (va_rf (if x.toNat < 4 then some (ad (fwEl 32 x.toNat).1 (fwEl 32 x.toNat).2) else none)) = _
  rw [if_pos h9]
  rfl
theorem fwCopyL : Cond.methodLink RX8 42 arraycopyName ∈ fwTb := by decide +kernel
theorem fwCopyN : Cond.native arraycopyName ∈ fwTb := by decide +kernel
theorem fwCopyS : Cond.static arraycopyName ∈ fwTb := by decide +kernel
theorem fwCopyI : Cond.initialized "java/lang/System" ∈ fwTb := by decide +kernel
theorem w_copy33 {a b : Nat} {sp dp n : Int} (hd : decode (mX8_move).2.1 pc = .ok (.invokestatic 42, 3)) (ha : a < 4) (hb9 : b < 4) (h1 : 0 ≤ sp) (h2 : 0 ≤ dp) (h3 : 0 ≤ n) (h4 : sp + n ≤ 60) (h5 : dp + n ≤ 60) (hS : fwCat S ≤ 8)
    (kk : fwWP mX8_move (d + 1) (pc + 3) L S (fwUc h 33 b (va_cpy (h 33 a) (h 33 b) sp.toNat dp.toNat n.toNat)) Q) : fwWP mX8_move (d + 1) pc L (aI n :: aI dp :: aR 33 b :: aI sp :: aR 33 a :: S) h Q := by
  intro l p e s m args below meth c ad D tc H locs ls C X
  obtain ⟨hx, hb, hml, hown, hts, -, -, hK, hI, -⟩ := id C
  obtain ⟨q0, hq, hw⟩ := fw_get (k := 33) (i := a) ha
  obtain ⟨q1, hq1, hw1⟩ := fw_get (k := 33) (i := b) hb9
  have he := hw ad tc h
  have he1 := hw1 ad tc h
  rw [fwCel_a (a := (3, 60)) rfl rfl] at he he1
  have n1 : ∀ z : Int, 0 ≤ z → z ≤ 60 → ¬ Int32.ofInt z < 0 := fun z a1 a2 => by rw [fwI_0, fwI_lt ⟨by omega, by omega⟩ ⟨by decide, by decide⟩]; omega
  have c1 : (Int32.ofInt sp).toNatClampNeg = sp.toNat := fwI_cl h1 (by omega)
  have c2 : (Int32.ofInt dp).toNatClampNeg = dp.toNat := fwI_cl h2 (by omega)
  have c3 : (Int32.ofInt n).toNatClampNeg = n.toNat := fwI_cl h3 (by omega)
  have hw5 : nativeFrameWords "java/lang/System" "arraycopy" 5 ≤ 40 := by decide +kernel
  have hloc : ((S.map (fwMv ad)).map fun v => v.category).sum + (nativeFrameWords "java/lang/System" "arraycopy" 5 + 11) ≤ (fwRm (d + 1)).locals := by
    rw [fwCat_eq]
    show fwCat S + (nativeFrameWords "java/lang/System" "arraycopy" 5 + 11) ≤ 64 * (d + 1)
    omega
  refine va_copyl hx hb (hml.trans X.2.2.1.symm) hown (hts _ fwCopyL) (hts _ fwCopyN) (hts _ fwCopyS) (hts _ fwCopyI) hK X.1 (fw_D hI tc h) X.2.1 q0 q1 3 3 he he1 rfl rfl rfl (n1 sp h1 (by omega)) (n1 dp h2 (by omega)) (n1 n h3 (by omega)) (by rw [c1, c3]; show _ ≤ 60; omega) (by rw [c2, c3]; show _ ≤ 60; omega) (fun i hi => rfl) (Nat.le_add_left 1 d) hloc hd (fun H1 locs1 hP1 _ hS1 => ?_)
  rw [c1, c2, c3] at hP1
  refine kk l p e s m args below meth c ad D tc H1 locs1 ls C ⟨?_, hS1, X.2.2⟩
  rw [← fw_set hq1, fwCel_a (a := (3, 60)) rfl rfl]
  have e9 : (fun j => Int64.ofInt (va_cpy (h 33 a) (h 33 b) sp.toNat dp.toNat n.toNat j)) = va_cpy (fun j => Int64.ofInt (h 33 a j)) (fun j => Int64.ofInt (h 33 b j)) sp.toNat dp.toNat n.toNat := by
    funext j
    unfold va_cpy
    split <;> rfl
  show va_P D vwCl ((fwWd ad tc h).set q1 (ad 33 b, .inl (tc 3, 60, .inr (.inl (fun j => Int64.ofInt (va_cpy (h 33 a) (h 33 b) sp.toNat dp.toNat n.toNat j)))))) H1
  rw [e9]
  exact hP1
end FWS
def sOk (h : fwH) : Prop := ∀ s : Nat, s < 4 → (-1 ≤ h 35 0 s ∧ h 35 0 s ≤ 60) ∧ (0 ≤ h 34 0 s ∧ h 34 0 s ≤ 3) ∧ ∀ j : Nat, j < 60 → -9223372036854775808 ≤ h 33 s j ∧ h 33 s j < 9223372036854775808
set_option maxRecDepth 100000 in
set_option maxHeartbeats 4000000 in
theorem c_X8_has {d : Nat} {h : fwH} {Q : Option fwV → fwH → Prop} (x : Int) (hx : -2147483648 ≤ x ∧ x < 2147483648) (k : Q (some (aI (fwB (0 ≤ x ∧ x < 4)))) h) : fwCt mX8_has (d + 0) [aR 11 0, aI x] h Q := by
  refine fwCt_of [some (aR 11 0), some (aI x)] rfl rfl rfl ?_
  refine w_iload_n dX8_has_0 rfl ?_
  refine w_if_lt 13 dX8_has_1 (by decide) (by omega) (fun c1 => ?_) (fun c1 => ?_)
  · refine w_iconst dX8_has_13 ?_
    exact w_zretE dX8_has_14 rfl (by first | (exfalso; omega) | (rw [fwB_t (by omega)]) | (rw [fwB_f (by omega)])) k
  · refine w_iload_n dX8_has_4 rfl ?_
    refine w_iconst dX8_has_5 ?_
    refine w_icmp_ge 13 dX8_has_6 (by decide) (by omega) (by omega) (fun c6 => ?_) (fun c6 => ?_)
    · refine w_iconst dX8_has_13 ?_
      exact w_zretE dX8_has_14 rfl (by first | (exfalso; omega) | (rw [fwB_t (by omega)]) | (rw [fwB_f (by omega)])) k
    · refine w_iconst dX8_has_9 ?_
      refine w_goto 14 dX8_has_10 (by decide) ?_
      exact w_zretE dX8_has_14 rfl (by first | (exfalso; omega) | (rw [fwB_t (by omega)]) | (rw [fwB_f (by omega)])) k
def mSz (S : Nat → Int) (x : Int) : Int := if 0 ≤ x ∧ x < 4 then S x.toNat else -1
theorem mSz_in (S : Nat → Int) {c : Nat} (hc : c < 4) : mSz S (c : Int) = S c := by
  unfold mSz
  rw [if_pos (by omega)]
  rfl
theorem mSz_rng {h : fwH} (hs : sOk h) (x : Int) : -1 ≤ mSz (h 35 0) x ∧ mSz (h 35 0) x ≤ 60 := by
  unfold mSz
  split
  · exact (hs _ (by omega)).1
  · omega
set_option maxRecDepth 100000 in
set_option maxHeartbeats 4000000 in
theorem c_X8_sizeOf {d : Nat} {h : fwH} {Q : Option fwV → fwH → Prop} (x : Int) (hx : -2147483648 ≤ x ∧ x < 2147483648) (k : Q (some (aI (mSz (h 35 0) x))) h) : fwCt mX8_sizeOf (d + 0) [aR 11 0, aI x] h Q := by
  refine fwCt_of [some (aR 11 0), some (aI x)] rfl rfl rfl ?_
  refine w_iload_n dX8_sizeOf_0 rfl ?_
  refine w_if_lt 18 dX8_sizeOf_1 (by decide) (by omega) (fun c1 => ?_) (fun c1 => ?_)
  · refine w_iconst dX8_sizeOf_18 ?_
    exact w_iretE dX8_sizeOf_19 rfl (by rw [mSz]; first | (exfalso; omega) | rw [if_pos (by omega)] | rw [if_neg (by omega)]) k
  · refine w_iload_n dX8_sizeOf_4 rfl ?_
    refine w_iconst dX8_sizeOf_5 ?_
    refine w_icmp_ge 18 dX8_sizeOf_6 (by decide) (by omega) (by omega) (fun c6 => ?_) (fun c6 => ?_)
    · refine w_iconst dX8_sizeOf_18 ?_
      exact w_iretE dX8_sizeOf_19 rfl (by rw [mSz]; first | (exfalso; omega) | rw [if_pos (by omega)] | rw [if_neg (by omega)]) k
    · refine w_aload_n dX8_sizeOf_9 rfl ?_
      refine w_getr 35 0 dX8_sizeOf_10 fl_X8_20 rfl (by decide) ?_
      refine w_iload_n dX8_sizeOf_13 rfl ?_
      refine w_iald dX8_sizeOf_14 rfl (by decide) (by omega) (by omega) ?_
      refine w_goto 19 dX8_sizeOf_15 (by decide) ?_
      exact w_iretE dX8_sizeOf_19 rfl (by rw [mSz]; first | (exfalso; omega) | rw [if_pos (by omega)] | rw [if_neg (by omega)]) k
set_option maxRecDepth 100000 in
set_option maxHeartbeats 4000000 in
theorem c_X8_isLaid {d : Nat} {h : fwH} {Q : Option fwV → fwH → Prop} (x : Int) (hx : -2147483648 ≤ x ∧ x < 2147483648) (hs : sOk h) (k : Q (some (aI (fwB (mSz (h 35 0) x ≠ -1)))) h) : fwCt mX8_isLaid (d + 1) [aR 11 0, aI x] h Q := by
  refine fwCt_of [some (aR 11 0), some (aI x)] rfl rfl rfl ?_
  refine w_aload_n dX8_isLaid_0 rfl ?_
  refine w_iload_n dX8_isLaid_1 rfl ?_
  refine w_callV (d := d + 0) (S := []) [aI x] dX8_isLaid_2 ml_X8_23 ok_X8_sizeOf vi_X8_sizeOf rfl rfl (by decide) rfl (Nat.le_of_ble_eq_true rfl) ?_
  refine c_X8_sizeOf (d := d) x (by first | assumption | omega | decide) ?_
  show fwWP mX8_isLaid (d + 1) 5 [some (aR 11 0), some (aI x)] [aI (mSz (h 35 0) x)] h Q
  have hz1 := mSz_rng hs x
  refine w_iconst dX8_isLaid_5 ?_
  refine w_icmp_eq 13 dX8_isLaid_6 (by decide) (by omega) (by omega) (fun c6 => ?_) (fun c6 => ?_)
  · refine w_iconst dX8_isLaid_13 ?_
    exact w_zretE dX8_isLaid_14 rfl (by first | (exfalso; omega) | (rw [fwB_t (by omega)]) | (rw [fwB_f (by omega)])) k
  · refine w_iconst dX8_isLaid_9 ?_
    refine w_goto 14 dX8_isLaid_10 (by decide) ?_
    exact w_zretE dX8_isLaid_14 rfl (by first | (exfalso; omega) | (rw [fwB_t (by omega)]) | (rw [fwB_f (by omega)])) k
set_option maxRecDepth 100000 in
set_option maxHeartbeats 4000000 in
theorem c_X8_widthOf {d : Nat} {h : fwH} {Q : Option fwV → fwH → Prop} (x : Int) (hx : -2147483648 ≤ x ∧ x < 2147483648) (k : Q (some (aI (mSz (h 34 0) x))) h) : fwCt mX8_widthOf (d + 1) [aR 11 0, aI x] h Q := by
  refine fwCt_of [some (aR 11 0), some (aI x)] rfl rfl rfl ?_
  refine w_aload_n dX8_widthOf_0 rfl ?_
  refine w_iload_n dX8_widthOf_1 rfl ?_
  refine w_callV (d := d + 0) (S := []) [aI x] dX8_widthOf_2 ml_X8_27 ok_X8_has vi_X8_has rfl rfl (by decide) rfl (Nat.le_of_ble_eq_true rfl) ?_
  refine c_X8_has (d := d) x (by first | assumption | omega | decide) ?_
  show fwWP mX8_widthOf (d + 1) 5 [some (aR 11 0), some (aI x)] [aI (fwB (0 ≤ x ∧ x < 4))] h Q
  refine w_ifB_eq 17 dX8_widthOf_5 (by decide) (fun c5 => ?_) (fun c5 => ?_)
  · refine w_iconst dX8_widthOf_17 ?_
    exact w_iretE dX8_widthOf_18 rfl (by rw [mSz]; first | (exfalso; omega) | rw [if_pos (by omega)] | rw [if_neg (by omega)]) k
  · refine w_aload_n dX8_widthOf_8 rfl ?_
    refine w_getr 34 0 dX8_widthOf_9 fl_X8_16 rfl (by decide) ?_
    refine w_iload_n dX8_widthOf_12 rfl ?_
    refine w_iald dX8_widthOf_13 rfl (by decide) (by omega) (by omega) ?_
    refine w_goto 18 dX8_widthOf_14 (by decide) ?_
    exact w_iretE dX8_widthOf_18 rfl (by rw [mSz]; first | (exfalso; omega) | rw [if_pos (by omega)] | rw [if_neg (by omega)]) k
def mLaid (S : Nat → Int) : Nat → Int
  | 0 => 0
  | c + 1 => if S c ≠ -1 then mLaid S c + 1 else mLaid S c
set_option maxRecDepth 100000 in
set_option maxHeartbeats 4000000 in
theorem c_X8_rows {d : Nat} {h : fwH} {Q : Option fwV → fwH → Prop}  (hs : sOk h) (k : Q (some (aI (mLaid (h 35 0) 4))) h) : fwCt mX8_rows (d + 2) [aR 11 0] h Q := by
  refine fwCt_of [some (aR 11 0), none, none] rfl rfl rfl ?_
  refine w_iconst dX8_rows_0 ?_
  refine w_istore_n [some (aR 11 0), some (aI 0), none] dX8_rows_1 rfl (by decide) ?_
  refine w_iconst dX8_rows_2 ?_
  refine w_istore_n [some (aR 11 0), some (aI 0), some (aI 0)] dX8_rows_3 rfl (by decide) ?_
  have lp4 : ∀ c : Nat, c ≤ 4 → ∀ (y4 su : Int), y4 = (c : Int) → su = mLaid (h 35 0) c → fwWP mX8_rows (d + 2) 4 [some (aR 11 0), some (aI su), some (aI y4)] [] h Q := by
    refine fw_up (fun c hc4 ih4 => ?_)
    intro y4 su ey4 e_su
    subst ey4
    subst e_su
    show fwWP mX8_rows (d + 2) 4 [some (aR 11 0), some (aI (mLaid (h 35 0) c)), some (aI (c : Int))] [] h Q
    refine w_iload_n dX8_rows_4 rfl ?_
    refine w_iconst dX8_rows_5 ?_
    refine w_icmp_ge 26 dX8_rows_6 (by decide) (by omega) (by omega) (fun c6 => ?_) (fun c6 => ?_)
    · have ec4 : 4 = c := by omega
      subst ec4
      refine w_iload_n dX8_rows_26 rfl ?_
      exact w_iretE dX8_rows_27 rfl (by rfl) k
    · refine w_aload_n dX8_rows_9 rfl ?_
      refine w_iload_n dX8_rows_10 rfl ?_
      refine w_callV (d := d + 1) (S := []) [aI (c : Int)] dX8_rows_11 ml_X8_31 ok_X8_isLaid vi_X8_isLaid rfl rfl (by decide) rfl (Nat.le_of_ble_eq_true rfl) ?_
      refine c_X8_isLaid (d := d) (c : Int) (by first | assumption | omega | decide) (by first | assumption | omega | decide) ?_
      show fwWP mX8_rows (d + 2) 14 [some (aR 11 0), some (aI (mLaid (h 35 0) c)), some (aI (c : Int))] [aI (fwB (mSz (h 35 0) (c : Int) ≠ -1))] h Q
      have e9 := mSz_in (h 35 0) (c := c) (by omega)
      refine w_ifB_eq 20 dX8_rows_14 (by decide) (fun c14 => ?_) (fun c14 => ?_)
      · refine w_iinc [some (aR 11 0), some (aI (mLaid (h 35 0) c)), some (aI ((c : Int) + 1))] dX8_rows_20 rfl rfl (by decide) ?_
        refine w_goto 4 dX8_rows_23 (by decide) ?_
        refine ih4 (by omega) _ _ ?_ ?_
        · exact (by omega)
        · exact (by rw [mLaid]; first | rw [if_pos (by omega)] | rw [if_neg (by omega)])
      · refine w_iinc [some (aR 11 0), some (aI ((mLaid (h 35 0) c) + 1)), some (aI (c : Int))] dX8_rows_17 rfl rfl (by decide) ?_
        refine w_iinc [some (aR 11 0), some (aI ((mLaid (h 35 0) c) + 1)), some (aI ((c : Int) + 1))] dX8_rows_20 rfl rfl (by decide) ?_
        refine w_goto 4 dX8_rows_23 (by decide) ?_
        refine ih4 (by omega) _ _ ?_ ?_
        · exact (by omega)
        · exact (by rw [mLaid]; first | rw [if_pos (by omega)] | rw [if_neg (by omega)])
  refine lp4 0 (Nat.zero_le _) _ _ ?_ ?_
  · exact (by omega)
  · exact rfl
set_option maxRecDepth 100000 in
set_option maxHeartbeats 4000000 in
theorem c_X8_spans {d : Nat} {h : fwH} {Q : Option fwV → fwH → Prop} (x y z : Int) (hx : -2147483648 ≤ x ∧ x < 2147483648) (hy : -2147483648 ≤ y ∧ y < 2147483648) (hz : -2147483648 ≤ z ∧ z < 2147483648) (hs : sOk h) (k : Q (some (aI (fwB (0 ≤ y ∧ 0 ≤ z ∧ z ≤ mSz (h 35 0) x ∧ y ≤ mSz (h 35 0) x - z)))) h) : fwCt mX8_spans (d + 1) [aR 11 0, aI x, aI y, aI z] h Q := by
  refine fwCt_of [some (aR 11 0), some (aI x), some (aI y), some (aI z)] rfl rfl rfl ?_
  refine w_iload_n dX8_spans_0 rfl ?_
  refine w_if_lt 32 dX8_spans_1 (by decide) (by omega) (fun c1 => ?_) (fun c1 => ?_)
  · refine w_iconst dX8_spans_32 ?_
    exact w_zretE dX8_spans_33 rfl (by first | (exfalso; omega) | (rw [fwB_t (by omega)]) | (rw [fwB_f (by omega)])) k
  · refine w_iload_n dX8_spans_4 rfl ?_
    refine w_if_lt 32 dX8_spans_5 (by decide) (by omega) (fun c5 => ?_) (fun c5 => ?_)
    · refine w_iconst dX8_spans_32 ?_
      exact w_zretE dX8_spans_33 rfl (by first | (exfalso; omega) | (rw [fwB_t (by omega)]) | (rw [fwB_f (by omega)])) k
    · refine w_iload_n dX8_spans_8 rfl ?_
      refine w_aload_n dX8_spans_9 rfl ?_
      refine w_iload_n dX8_spans_10 rfl ?_
      refine w_callV (d := d + 0) (S := [aI z]) [aI x] dX8_spans_11 ml_X8_23 ok_X8_sizeOf vi_X8_sizeOf rfl rfl (by decide) rfl (Nat.le_of_ble_eq_true rfl) ?_
      refine c_X8_sizeOf (d := d) x (by first | assumption | omega | decide) ?_
      show fwWP mX8_spans (d + 1) 14 [some (aR 11 0), some (aI x), some (aI y), some (aI z)] [aI (mSz (h 35 0) x), aI z] h Q
      have hz3 := mSz_rng hs x
      refine w_icmp_gt 32 dX8_spans_14 (by decide) (by omega) (by omega) (fun c14 => ?_) (fun c14 => ?_)
      · refine w_iconst dX8_spans_32 ?_
        exact w_zretE dX8_spans_33 rfl (by first | (exfalso; omega) | (rw [fwB_t (by omega)]) | (rw [fwB_f (by omega)])) k
      · refine w_iload_n dX8_spans_17 rfl ?_
        refine w_aload_n dX8_spans_18 rfl ?_
        refine w_iload_n dX8_spans_19 rfl ?_
        refine w_callV (d := d + 0) (S := [aI y]) [aI x] dX8_spans_20 ml_X8_23 ok_X8_sizeOf vi_X8_sizeOf rfl rfl (by decide) rfl (Nat.le_of_ble_eq_true rfl) ?_
        refine c_X8_sizeOf (d := d) x (by first | assumption | omega | decide) ?_
        show fwWP mX8_spans (d + 1) 23 [some (aR 11 0), some (aI x), some (aI y), some (aI z)] [aI (mSz (h 35 0) x), aI y] h Q
        have hz5 := mSz_rng hs x
        refine w_iload_n dX8_spans_23 rfl ?_
        refine w_isub dX8_spans_24 ?_
        refine w_icmp_gt 32 dX8_spans_25 (by decide) (by omega) (by omega) (fun c25 => ?_) (fun c25 => ?_)
        · refine w_iconst dX8_spans_32 ?_
          exact w_zretE dX8_spans_33 rfl (by first | (exfalso; omega) | (rw [fwB_t (by omega)]) | (rw [fwB_f (by omega)])) k
        · refine w_iconst dX8_spans_28 ?_
          refine w_goto 33 dX8_spans_29 (by decide) ?_
          exact w_zretE dX8_spans_33 rfl (by first | (exfalso; omega) | (rw [fwB_t (by omega)]) | (rw [fwB_f (by omega)])) k
set_option maxRecDepth 100000 in
set_option maxHeartbeats 4000000 in
theorem c_X8_numberAt {d : Nat} {h : fwH} {Q : Option fwV → fwH → Prop} (x y : Int) (hx : 0 ≤ x ∧ x < 4) (hy : 0 ≤ y ∧ y < 60) (k : Q (some (aJ (h 33 x.toNat y.toNat))) h) : fwCt mX8_numberAt (d + 1) [aR 11 0, aI x, aI y] h Q := by
  refine fwCt_of [some (aR 11 0), some (aI x), some (aI y)] rfl rfl rfl ?_
  refine w_aload_n dX8_numberAt_0 rfl ?_
  refine w_iload_n dX8_numberAt_1 rfl ?_
  refine w_callV (d := d + 0) (S := []) [aI x] dX8_numberAt_2 ml_X8_27 ok_X8_has vi_X8_has rfl rfl (by decide) rfl (Nat.le_of_ble_eq_true rfl) ?_
  refine c_X8_has (d := d) x (by first | assumption | omega | decide) ?_
  show fwWP mX8_numberAt (d + 1) 5 [some (aR 11 0), some (aI x), some (aI y)] [aI (fwB (0 ≤ x ∧ x < 4))] h Q
  refine w_ifB_eq 29 dX8_numberAt_5 (by decide) (fun c5 => ?_) (fun c5 => ?_)
  · (exfalso; omega)
  · refine w_iload_n dX8_numberAt_8 rfl ?_
    refine w_if_lt 29 dX8_numberAt_9 (by decide) (by omega) (fun c9 => ?_) (fun c9 => ?_)
    · (exfalso; omega)
    · refine w_iload_n dX8_numberAt_12 rfl ?_
      refine w_bipush dX8_numberAt_13 rfl ?_
      refine w_icmp_ge 29 dX8_numberAt_15 (by decide) (by omega) (by omega) (fun c15 => ?_) (fun c15 => ?_)
      · (exfalso; omega)
      · refine w_aload_n dX8_numberAt_18 rfl ?_
        refine w_getr 32 0 dX8_numberAt_19 fl_X8_11 rfl (by decide) ?_
        refine w_iload_n dX8_numberAt_22 rfl ?_
        refine w_aald32 dX8_numberAt_23 (by omega) (by omega) ?_
        refine w_iload_n dX8_numberAt_24 rfl ?_
        refine w_lald dX8_numberAt_25 rfl (show (x).toNat < 4 by omega) (by omega) (by omega) ?_
        refine w_goto 30 dX8_numberAt_26 (by decide) ?_
        exact w_lret dX8_numberAt_30 rfl k
theorem c_X8_numberN {d : Nat} {h : fwH} {Q : Option fwV → fwH → Prop} (s j : Nat) (x y : Int) (ex : x = (s : Int)) (ey : y = (j : Int)) (hs : s < 4) (hj : j < 60) (k : Q (some (aJ (h 33 s j))) h) : fwCt mX8_numberAt (d + 1) [aR 11 0, aI x, aI y] h Q := by
  subst ex
  subst ey
  exact c_X8_numberAt (s : Int) (j : Int) (by omega) (by omega) k
theorem w_lc_lt {M : fwM} {d pc : Nat} {L : List (Option fwV)} {S : List fwV} {h : fwH} {Q : Option fwV → fwH → Prop} {x y off : Int} (tgt : Nat) (h1 : decode M.2.1 pc = .ok (.lcmp, 1)) (h2 : decode M.2.1 (pc + 1) = .ok (.ifCond .lt off, 3)) (ht : ((pc + 1 : Nat) : Int) + off = (tgt : Int)) (hx : -9223372036854775808 ≤ x ∧ x < 9223372036854775808) (hy : -9223372036854775808 ≤ y ∧ y < 9223372036854775808) (kt : x < y → fwWP M d tgt L S h Q) (kf : y ≤ x → fwWP M d (pc + 4) L S h Q) : fwWP M d pc L (aJ y :: aJ x :: S) h Q := by
  refine w_lcmp h1 hx hy ?_
  have e : fwLc x y = 1 ∧ y < x ∨ fwLc x y = 0 ∧ x = y ∨ fwLc x y = -1 ∧ x < y := by unfold fwLc; split; omega; split <;> omega
  exact w_if_lt tgt h2 ht (by omega) (fun q => kt (by omega)) (fun q => kf (by omega))
theorem w_lc_ge {M : fwM} {d pc : Nat} {L : List (Option fwV)} {S : List fwV} {h : fwH} {Q : Option fwV → fwH → Prop} {x y off : Int} (tgt : Nat) (h1 : decode M.2.1 pc = .ok (.lcmp, 1)) (h2 : decode M.2.1 (pc + 1) = .ok (.ifCond .ge off, 3)) (ht : ((pc + 1 : Nat) : Int) + off = (tgt : Int)) (hx : -9223372036854775808 ≤ x ∧ x < 9223372036854775808) (hy : -9223372036854775808 ≤ y ∧ y < 9223372036854775808) (kt : y ≤ x → fwWP M d tgt L S h Q) (kf : x < y → fwWP M d (pc + 4) L S h Q) : fwWP M d pc L (aJ y :: aJ x :: S) h Q := by
  refine w_lcmp h1 hx hy ?_
  have e : fwLc x y = 1 ∧ y < x ∨ fwLc x y = 0 ∧ x = y ∨ fwLc x y = -1 ∧ x < y := by unfold fwLc; split; omega; split <;> omega
  exact w_if_ge tgt h2 ht (by omega) (fun q => kt (by omega)) (fun q => kf (by omega))
theorem w_lc_le {M : fwM} {d pc : Nat} {L : List (Option fwV)} {S : List fwV} {h : fwH} {Q : Option fwV → fwH → Prop} {x y off : Int} (tgt : Nat) (h1 : decode M.2.1 pc = .ok (.lcmp, 1)) (h2 : decode M.2.1 (pc + 1) = .ok (.ifCond .le off, 3)) (ht : ((pc + 1 : Nat) : Int) + off = (tgt : Int)) (hx : -9223372036854775808 ≤ x ∧ x < 9223372036854775808) (hy : -9223372036854775808 ≤ y ∧ y < 9223372036854775808) (kt : x ≤ y → fwWP M d tgt L S h Q) (kf : y < x → fwWP M d (pc + 4) L S h Q) : fwWP M d pc L (aJ y :: aJ x :: S) h Q := by
  refine w_lcmp h1 hx hy ?_
  have e : fwLc x y = 1 ∧ y < x ∨ fwLc x y = 0 ∧ x = y ∨ fwLc x y = -1 ∧ x < y := by unfold fwLc; split; omega; split <;> omega
  exact w_if_le tgt h2 ht (by omega) (fun q => kt (by omega)) (fun q => kf (by omega))
theorem w_lc_gt {M : fwM} {d pc : Nat} {L : List (Option fwV)} {S : List fwV} {h : fwH} {Q : Option fwV → fwH → Prop} {x y off : Int} (tgt : Nat) (h1 : decode M.2.1 pc = .ok (.lcmp, 1)) (h2 : decode M.2.1 (pc + 1) = .ok (.ifCond .gt off, 3)) (ht : ((pc + 1 : Nat) : Int) + off = (tgt : Int)) (hx : -9223372036854775808 ≤ x ∧ x < 9223372036854775808) (hy : -9223372036854775808 ≤ y ∧ y < 9223372036854775808) (kt : y < x → fwWP M d tgt L S h Q) (kf : x ≤ y → fwWP M d (pc + 4) L S h Q) : fwWP M d pc L (aJ y :: aJ x :: S) h Q := by
  refine w_lcmp h1 hx hy ?_
  have e : fwLc x y = 1 ∧ y < x ∨ fwLc x y = 0 ∧ x = y ∨ fwLc x y = -1 ∧ x < y := by unfold fwLc; split; omega; split <;> omega
  exact w_if_gt tgt h2 ht (by omega) (fun q => kt (by omega)) (fun q => kf (by omega))
theorem w_lc_eq {M : fwM} {d pc : Nat} {L : List (Option fwV)} {S : List fwV} {h : fwH} {Q : Option fwV → fwH → Prop} {x y off : Int} (tgt : Nat) (h1 : decode M.2.1 pc = .ok (.lcmp, 1)) (h2 : decode M.2.1 (pc + 1) = .ok (.ifCond .eq off, 3)) (ht : ((pc + 1 : Nat) : Int) + off = (tgt : Int)) (hx : -9223372036854775808 ≤ x ∧ x < 9223372036854775808) (hy : -9223372036854775808 ≤ y ∧ y < 9223372036854775808) (kt : x = y → fwWP M d tgt L S h Q) (kf : x ≠ y → fwWP M d (pc + 4) L S h Q) : fwWP M d pc L (aJ y :: aJ x :: S) h Q := by
  refine w_lcmp h1 hx hy ?_
  have e : fwLc x y = 1 ∧ y < x ∨ fwLc x y = 0 ∧ x = y ∨ fwLc x y = -1 ∧ x < y := by unfold fwLc; split; omega; split <;> omega
  exact w_if_eq tgt h2 ht (by omega) (fun q => kt (by omega)) (fun q => kf (by omega))
theorem w_lc_ne {M : fwM} {d pc : Nat} {L : List (Option fwV)} {S : List fwV} {h : fwH} {Q : Option fwV → fwH → Prop} {x y off : Int} (tgt : Nat) (h1 : decode M.2.1 pc = .ok (.lcmp, 1)) (h2 : decode M.2.1 (pc + 1) = .ok (.ifCond .ne off, 3)) (ht : ((pc + 1 : Nat) : Int) + off = (tgt : Int)) (hx : -9223372036854775808 ≤ x ∧ x < 9223372036854775808) (hy : -9223372036854775808 ≤ y ∧ y < 9223372036854775808) (kt : x ≠ y → fwWP M d tgt L S h Q) (kf : x = y → fwWP M d (pc + 4) L S h Q) : fwWP M d pc L (aJ y :: aJ x :: S) h Q := by
  refine w_lcmp h1 hx hy ?_
  have e : fwLc x y = 1 ∧ y < x ∨ fwLc x y = 0 ∧ x = y ∨ fwLc x y = -1 ∧ x < y := by unfold fwLc; split; omega; split <;> omega
  exact w_if_ne tgt h2 ht (by omega) (fun q => kt (by omega)) (fun q => kf (by omega))
set_option maxRecDepth 100000 in
set_option maxHeartbeats 4000000 in
theorem c_X8_lay {d : Nat} {h : fwH} {Q : Option fwV → fwH → Prop} (x y z : Int) (hx : 0 ≤ x ∧ x < 4) (hz : 0 ≤ z ∧ z ≤ 60) (k : Q none (fwUc (fwUp (fwUp h 34 0 x.toNat y) 35 0 x.toNat z) 33 x.toNat (fun _ => 0))) : fwCt mX8_lay (d + 1) [aR 11 0, aI x, aI y, aI z] h Q := by
  refine fwCt_of [some (aR 11 0), some (aI x), some (aI y), some (aI z), none] rfl rfl rfl ?_
  refine w_aload_n dX8_lay_0 rfl ?_
  refine w_iload_n dX8_lay_1 rfl ?_
  refine w_callV (d := d + 0) (S := []) [aI x] dX8_lay_2 ml_X8_27 ok_X8_has vi_X8_has rfl rfl (by decide) rfl (Nat.le_of_ble_eq_true rfl) ?_
  refine c_X8_has (d := d) x (by first | assumption | omega | decide) ?_
  show fwWP mX8_lay (d + 1) 5 [some (aR 11 0), some (aI x), some (aI y), some (aI z), none] [aI (fwB (0 ≤ x ∧ x < 4))] h Q
  refine w_ifB_eq 18 dX8_lay_5 (by decide) (fun c5 => ?_) (fun c5 => ?_)
  · (exfalso; omega)
  · refine w_iload_n dX8_lay_8 rfl ?_
    refine w_if_lt 18 dX8_lay_9 (by decide) (by omega) (fun c9 => ?_) (fun c9 => ?_)
    · (exfalso; omega)
    · refine w_iload_n dX8_lay_12 rfl ?_
      refine w_bipush dX8_lay_13 rfl ?_
      refine w_icmp_le 19 dX8_lay_15 (by decide) (by omega) (by omega) (fun c15 => ?_) (fun c15 => ?_)
      · refine w_aload_n dX8_lay_19 rfl ?_
        refine w_getr 34 0 dX8_lay_20 fl_X8_16 rfl (by decide) ?_
        refine w_iload_n dX8_lay_23 rfl ?_
        refine w_iload_n dX8_lay_24 rfl ?_
        refine w_iast dX8_lay_25 rfl (by decide) (by omega) (by omega) ?_
        refine w_aload_n dX8_lay_26 rfl ?_
        refine w_getr 35 0 dX8_lay_27 fl_X8_20 rfl (by decide) ?_
        refine w_iload_n dX8_lay_30 rfl ?_
        refine w_iload_n dX8_lay_31 rfl ?_
        refine w_iast dX8_lay_32 rfl (by decide) (by omega) (by omega) ?_
        refine w_iconst dX8_lay_33 ?_
        refine w_istore [some (aR 11 0), some (aI x), some (aI y), some (aI z), some (aI 0)] dX8_lay_34 rfl (by decide) ?_
        have lp36 : ∀ c : Nat, c ≤ 60 → ∀ (y36  : Int) (hh36 : fwH), y36 = (c : Int) → hh36 = (fwUc (fwUp (fwUp h 34 0 x.toNat y) 35 0 x.toNat z) 33 x.toNat (fwFl (fun _ => 0) (h 33 x.toNat) c)) → fwWP mX8_lay (d + 1) 36 [some (aR 11 0), some (aI x), some (aI y), some (aI z), some (aI y36)] [] hh36 Q := by
          refine fw_up (fun c hc36 ih36 => ?_)
          intro y36  hh36 ey36 eh36
          subst ey36
          subst eh36
          show fwWP mX8_lay (d + 1) 36 [some (aR 11 0), some (aI x), some (aI y), some (aI z), some (aI (c : Int))] [] (fwUc (fwUp (fwUp h 34 0 x.toNat y) 35 0 x.toNat z) 33 x.toNat (fwFl (fun _ => 0) (h 33 x.toNat) c)) Q
          refine w_iload dX8_lay_36 rfl ?_
          refine w_bipush dX8_lay_38 rfl ?_
          refine w_icmp_ge 59 dX8_lay_40 (by decide) (by omega) (by omega) (fun c40 => ?_) (fun c40 => ?_)
          · have ec36 : 60 = c := by omega
            subst ec36
            refine w_heq _ (fwFl_all (by decide)) ?_
            exact w_vret dX8_lay_59 rfl k
          · refine w_aload_n dX8_lay_43 rfl ?_
            refine w_getr 32 0 dX8_lay_44 fl_X8_11 rfl (by decide) ?_
            refine w_iload_n dX8_lay_47 rfl ?_
            refine w_aald32 dX8_lay_48 (by omega) (by omega) ?_
            refine w_iload dX8_lay_49 rfl ?_
            refine w_lconst (z := 0) dX8_lay_51 rfl ?_
            refine w_last dX8_lay_52 rfl (show (x).toNat < 4 by omega) (by omega) (by omega) ?_
            refine w_iinc [some (aR 11 0), some (aI x), some (aI y), some (aI z), some (aI ((c : Int) + 1))] dX8_lay_53 rfl rfl (by decide) ?_
            refine w_goto 36 dX8_lay_56 (by decide) ?_
            refine ih36 (by omega) _ _ ?_ ?_
            · exact (by omega)
            · exact (by rw [fwUp_uc, Int.toNat_natCast]; exact congrArg _ (fwFl_succ (fun _ => 0) (h 33 x.toNat) c))
        refine lp36 0 (Nat.zero_le _) _ _ ?_ ?_
        · exact (by omega)
        · exact (by rw [fwFl_0]; exact (fwUc_self _ 33 x.toNat).symm)
      · (exfalso; omega)
def mCut (v w : Int) : Int := if w = 0 then fwB8 v else if w = 1 then fwS16 v else if w = 2 then fwI32 v else v
theorem fwB8_rng (x : Int) : -128 ≤ fwB8 x ∧ fwB8 x < 128 := ⟨Int8.le_toInt _, Int8.toInt_lt _⟩
theorem fwS16_rng (x : Int) : -32768 ≤ fwS16 x ∧ fwS16 x < 32768 := ⟨Int16.le_toInt _, Int16.toInt_lt _⟩
set_option maxRecDepth 100000 in
set_option maxHeartbeats 4000000 in
theorem c_X8_cut {d : Nat} {h : fwH} {Q : Option fwV → fwH → Prop} (v x : Int) (hx : 0 ≤ x ∧ x ≤ 3) (k : Q (some (aJ (mCut v x))) h) : fwCt mX8_cut (d + 0) [aJ v, aI x] h Q := by
  refine fwCt_of [some (aJ v), none, some (aI x)] rfl rfl rfl ?_
  refine w_iload_n dX8_cut_0 rfl ?_
  rcases (show x = 0 ∨ x = 1 ∨ x = 2 ∨ x = 3 by omega) with rfl | rfl | rfl | rfl
  · refine w_tabIn (off := 27) 28 dX8_cut_1 (by omega) (by omega) (by omega) rfl (by decide) ?_
    refine w_lload_n dX8_cut_28 rfl ?_
    refine w_l2i dX8_cut_29 ?_
    refine w_i2b dX8_cut_30 ?_
    have hr := fwB8_rng v
    refine w_i2l dX8_cut_31 (by omega) ?_
    exact w_lretE dX8_cut_32 rfl (by rw [mCut]; first | rw [if_pos (by omega)] | rw [if_neg (by omega), if_pos (by omega)] | rw [if_neg (by omega), if_neg (by omega), if_pos (by omega)] | rw [if_neg (by omega), if_neg (by omega), if_neg (by omega)]) k
  · refine w_tabIn (off := 32) 33 dX8_cut_1 (by omega) (by omega) (by omega) rfl (by decide) ?_
    refine w_lload_n dX8_cut_33 rfl ?_
    refine w_l2i dX8_cut_34 ?_
    refine w_i2s dX8_cut_35 ?_
    have hr := fwS16_rng v
    refine w_i2l dX8_cut_36 (by omega) ?_
    exact w_lretE dX8_cut_37 rfl (by rw [mCut]; first | rw [if_pos (by omega)] | rw [if_neg (by omega), if_pos (by omega)] | rw [if_neg (by omega), if_neg (by omega), if_pos (by omega)] | rw [if_neg (by omega), if_neg (by omega), if_neg (by omega)]) k
  · refine w_tabIn (off := 37) 38 dX8_cut_1 (by omega) (by omega) (by omega) rfl (by decide) ?_
    refine w_lload_n dX8_cut_38 rfl ?_
    refine w_l2iC dX8_cut_39 ?_
    have hr := fwI32_rng v
    refine w_i2l dX8_cut_40 (by omega) ?_
    exact w_lretE dX8_cut_41 rfl (by rw [mCut]; first | rw [if_pos (by omega)] | rw [if_neg (by omega), if_pos (by omega)] | rw [if_neg (by omega), if_neg (by omega), if_pos (by omega)] | rw [if_neg (by omega), if_neg (by omega), if_neg (by omega)]) k
  · refine w_tabOut 42 dX8_cut_1 (by omega) (by omega) (by decide) ?_
    refine w_lload_n dX8_cut_42 rfl ?_
    exact w_lretE dX8_cut_43 rfl (by rw [mCut]; first | rw [if_pos (by omega)] | rw [if_neg (by omega), if_pos (by omega)] | rw [if_neg (by omega), if_neg (by omega), if_pos (by omega)] | rw [if_neg (by omega), if_neg (by omega), if_neg (by omega)]) k
set_option maxRecDepth 100000 in
set_option maxHeartbeats 4000000 in
theorem c_X8_put {d : Nat} {h : fwH} {Q : Option fwV → fwH → Prop} (x y v : Int) (hs : sOk h) (hx : 0 ≤ x ∧ x < 4) (hy : 0 ≤ y ∧ y < 60) (k : Q none (fwUp h 33 x.toNat y.toNat (mCut v (h 34 0 x.toNat)))) : fwCt mX8_put (d + 1) [aR 11 0, aI x, aI y, aJ v] h Q := by
  refine fwCt_of [some (aR 11 0), some (aI x), some (aI y), some (aJ v), none] rfl rfl rfl ?_
  refine w_aload_n dX8_put_0 rfl ?_
  refine w_iload_n dX8_put_1 rfl ?_
  refine w_callV (d := d + 0) (S := []) [aI x] dX8_put_2 ml_X8_27 ok_X8_has vi_X8_has rfl rfl (by decide) rfl (Nat.le_of_ble_eq_true rfl) ?_
  refine c_X8_has (d := d) x (by first | assumption | omega | decide) ?_
  show fwWP mX8_put (d + 1) 5 [some (aR 11 0), some (aI x), some (aI y), some (aJ v), none] [aI (fwB (0 ≤ x ∧ x < 4))] h Q
  refine w_ifB_eq 36 dX8_put_5 (by decide) (fun c5 => ?_) (fun c5 => ?_)
  · (exfalso; omega)
  · refine w_iload_n dX8_put_8 rfl ?_
    refine w_if_lt 36 dX8_put_9 (by decide) (by omega) (fun c9 => ?_) (fun c9 => ?_)
    · (exfalso; omega)
    · refine w_iload_n dX8_put_12 rfl ?_
      refine w_bipush dX8_put_13 rfl ?_
      refine w_icmp_ge 36 dX8_put_15 (by decide) (by omega) (by omega) (fun c15 => ?_) (fun c15 => ?_)
      · (exfalso; omega)
      · refine w_aload_n dX8_put_18 rfl ?_
        refine w_getr 32 0 dX8_put_19 fl_X8_11 rfl (by decide) ?_
        refine w_iload_n dX8_put_22 rfl ?_
        refine w_aald32 dX8_put_23 (by omega) (by omega) ?_
        refine w_iload_n dX8_put_24 rfl ?_
        refine w_lload_n dX8_put_25 rfl ?_
        refine w_aload_n dX8_put_26 rfl ?_
        refine w_getr 34 0 dX8_put_27 fl_X8_16 rfl (by decide) ?_
        refine w_iload_n dX8_put_30 rfl ?_
        refine w_iald dX8_put_31 rfl (by decide) (by omega) (by omega) ?_
        have hw := (hs x.toNat (by omega)).2.1
        refine w_callS (d := d + 0) (S := [aI y, aR 33 ((x).toNat)]) [aJ v, aI (h 34 0 (x).toNat)] dX8_put_32 ml_X8_34 ok_X8_cut st_X8_cut rfl (Nat.le_of_ble_eq_true rfl) ?_
        refine c_X8_cut (d := d) v (h 34 0 (x).toNat) (by first | assumption | omega | decide) ?_
        show fwWP mX8_put (d + 1) 35 [some (aR 11 0), some (aI x), some (aI y), some (aJ v), none] [aJ (mCut v (h 34 0 (x).toNat)), aI y, aR 33 ((x).toNat)] h Q
        refine w_last dX8_put_35 rfl (show (x).toNat < 4 by omega) (by omega) (by omega) ?_
        exact w_vret dX8_put_36 rfl (k)
set_option maxRecDepth 100000 in
set_option maxHeartbeats 4000000 in
theorem c_X8_move {d : Nat} {h : fwH} {Q : Option fwV → fwH → Prop} (x y z u n : Int) (hs : sOk h) (hx : 0 ≤ x ∧ x < 4) (hz : 0 ≤ z ∧ z < 4) (hy : 0 ≤ y ∧ 0 ≤ n ∧ n ≤ mSz (h 35 0) x ∧ y ≤ mSz (h 35 0) x - n) (hu : 0 ≤ u ∧ 0 ≤ n ∧ n ≤ mSz (h 35 0) z ∧ u ≤ mSz (h 35 0) z - n) (k : Q none (fwUc h 33 z.toNat (va_cpy (h 33 x.toNat) (h 33 z.toNat) y.toNat u.toNat n.toNat))) : fwCt mX8_move (d + 2) [aR 11 0, aI x, aI y, aI z, aI u, aI n] h Q := by
  refine fwCt_of [some (aR 11 0), some (aI x), some (aI y), some (aI z), some (aI u), some (aI n)] rfl rfl rfl ?_
  have hz1 := mSz_rng hs x
  have hz2 := mSz_rng hs z
  refine w_aload_n dX8_move_0 rfl ?_
  refine w_iload_n dX8_move_1 rfl ?_
  refine w_callV (d := d + 1) (S := []) [aI x] dX8_move_2 ml_X8_27 ok_X8_has vi_X8_has rfl rfl (by decide) rfl (Nat.le_of_ble_eq_true rfl) ?_
  refine c_X8_has (d := (d + 1)) x (by first | assumption | omega | decide) ?_
  show fwWP mX8_move (d + 2) 5 [some (aR 11 0), some (aI x), some (aI y), some (aI z), some (aI u), some (aI n)] [aI (fwB (0 ≤ x ∧ x < 4))] h Q
  refine w_ifB_eq 59 dX8_move_5 (by decide) (fun c5 => ?_) (fun c5 => ?_)
  · (exfalso; omega)
  · refine w_aload_n dX8_move_8 rfl ?_
    refine w_iload_n dX8_move_9 rfl ?_
    refine w_callV (d := d + 1) (S := []) [aI z] dX8_move_10 ml_X8_27 ok_X8_has vi_X8_has rfl rfl (by decide) rfl (Nat.le_of_ble_eq_true rfl) ?_
    refine c_X8_has (d := (d + 1)) z (by first | assumption | omega | decide) ?_
    show fwWP mX8_move (d + 2) 13 [some (aR 11 0), some (aI x), some (aI y), some (aI z), some (aI u), some (aI n)] [aI (fwB (0 ≤ z ∧ z < 4))] h Q
    refine w_ifB_eq 59 dX8_move_13 (by decide) (fun c13 => ?_) (fun c13 => ?_)
    · (exfalso; omega)
    · refine w_aload_n dX8_move_16 rfl ?_
      refine w_iload_n dX8_move_17 rfl ?_
      refine w_iload_n dX8_move_18 rfl ?_
      refine w_iload dX8_move_19 rfl ?_
      refine w_callV (d := d + 1) (S := []) [aI x, aI y, aI n] dX8_move_21 ml_X8_38 ok_X8_spans vi_X8_spans rfl rfl (by decide) rfl (Nat.le_of_ble_eq_true rfl) ?_
      refine c_X8_spans (d := d) x y n (by first | assumption | omega | decide) (by first | assumption | omega | decide) (by first | assumption | omega | decide) (by first | assumption | omega | decide) ?_
      show fwWP mX8_move (d + 2) 24 [some (aR 11 0), some (aI x), some (aI y), some (aI z), some (aI u), some (aI n)] [aI (fwB (0 ≤ y ∧ 0 ≤ n ∧ n ≤ mSz (h 35 0) x ∧ y ≤ mSz (h 35 0) x - n))] h Q
      refine w_ifB_eq 59 dX8_move_24 (by decide) (fun c24 => ?_) (fun c24 => ?_)
      · (exfalso; omega)
      · refine w_aload_n dX8_move_27 rfl ?_
        refine w_iload_n dX8_move_28 rfl ?_
        refine w_iload dX8_move_29 rfl ?_
        refine w_iload dX8_move_31 rfl ?_
        refine w_callV (d := d + 1) (S := []) [aI z, aI u, aI n] dX8_move_33 ml_X8_38 ok_X8_spans vi_X8_spans rfl rfl (by decide) rfl (Nat.le_of_ble_eq_true rfl) ?_
        refine c_X8_spans (d := d) z u n (by first | assumption | omega | decide) (by first | assumption | omega | decide) (by first | assumption | omega | decide) (by first | assumption | omega | decide) ?_
        show fwWP mX8_move (d + 2) 36 [some (aR 11 0), some (aI x), some (aI y), some (aI z), some (aI u), some (aI n)] [aI (fwB (0 ≤ u ∧ 0 ≤ n ∧ n ≤ mSz (h 35 0) z ∧ u ≤ mSz (h 35 0) z - n))] h Q
        refine w_ifB_eq 59 dX8_move_36 (by decide) (fun c36 => ?_) (fun c36 => ?_)
        · (exfalso; omega)
        · have hz1 := mSz_rng hs x
          have hz2 := mSz_rng hs z
          refine w_aload_n dX8_move_39 rfl ?_
          refine w_getr 32 0 dX8_move_40 fl_X8_11 rfl (by decide) ?_
          refine w_iload_n dX8_move_43 rfl ?_
          refine w_aald32 dX8_move_44 (by omega) (by omega) ?_
          refine w_iload_n dX8_move_45 rfl ?_
          refine w_aload_n dX8_move_46 rfl ?_
          refine w_getr 32 0 dX8_move_47 fl_X8_11 rfl (by decide) ?_
          refine w_iload_n dX8_move_50 rfl ?_
          refine w_aald32 dX8_move_51 (by omega) (by omega) ?_
          refine w_iload dX8_move_52 rfl ?_
          refine w_iload dX8_move_54 rfl ?_
          refine w_copy33 (d := d + 1) (S := []) dX8_move_56 (by omega) (by omega) (by omega) (by omega) (by omega) (by omega) (by omega) (Nat.le_of_ble_eq_true rfl) ?_
          exact w_vret dX8_move_59 rfl (k)
end
section
/-! rolls: People.isRoll, howStands, standing (the mountain's own FOLK, number 0) -/
def mRollP (N : Nat → Int) (z : Int) (j : Nat) : Bool := decide (0 ≤ N (2 * j) ∧ N (2 * j) < z ∧ 0 ≤ N (2 * j + 1) ∧ N (2 * j + 1) ≤ 999)
abbrev mRoll (N : Nat → Int) (sz z : Int) : Prop := sz % 2 = 0 ∧ mAll (mRollP N z) (sz / 2).toNat = true
theorem fwRem_nn {x y : Int} (hx : 0 ≤ x ∧ x < 2147483648) (hy : 0 < y ∧ y < 2147483648) : fwRem x y = x % y := by
  obtain ⟨a, rfl⟩ : ∃ a : Nat, x = a := ⟨x.toNat, by omega⟩
  obtain ⟨b, rfl⟩ : ∃ b : Nat, y = b := ⟨y.toNat, by omega⟩
  unfold fwRem
  have e1 : Int32.ofInt (a : Int) = nI a := rfl
  have e2 : Int32.ofInt (b : Int) = nI b := rfl
  rw [e1, e2, pk_rem (by omega) (by omega) (by omega), nI_toInt (Nat.lt_of_lt_of_le (Nat.mod_lt a (by omega)) (by omega))]
  exact Int.natCast_emod a b
set_option maxRecDepth 100000 in
set_option maxHeartbeats 4000000 in
theorem c_X3_isRoll {d : Nat} {h : fwH} {Q : Option fwV → fwH → Prop} (s : Nat) (hP : pOk h 0) (hs : sOk h) (hsl : s < 4) (hz : 0 ≤ h 35 0 s) (k : Q (some (aI (fwB (mRoll (h 33 s) (h 35 0 s) (h 5 0 3))))) h) : fwCt mX3_isRoll (d + 2) [aR 5 0, aR 11 0, aI (s : Int)] h Q := by
  refine fwCt_of [some (aR 5 0), some (aR 11 0), some (aI (s : Int)), none, none, none, none, none, none] rfl rfl rfl ?_
  obtain ⟨⟨p1, p2⟩, p3⟩ := id hP
  have hss := hs s hsl
  refine w_aload_n dX3_isRoll_0 rfl ?_
  refine w_iload_n dX3_isRoll_1 rfl ?_
  refine w_callV (d := d + 1) (S := []) [aI (s : Int)] dX3_isRoll_2 ml_X3_65 ok_X8_sizeOf vi_X8_sizeOf rfl rfl (by decide) rfl (Nat.le_of_ble_eq_true rfl) ?_
  refine c_X8_sizeOf (d := (d + 1)) (s : Int) (by first | assumption | omega | decide) ?_
  show fwWP mX3_isRoll (d + 2) 5 [some (aR 5 0), some (aR 11 0), some (aI (s : Int)), none, none, none, none, none, none] [aI (mSz (h 35 0) (s : Int))] h Q
  have hz1 := mSz_rng hs (s : Int)
  refine w_istore_n [some (aR 5 0), some (aR 11 0), some (aI (s : Int)), some (aI (mSz (h 35 0) (s : Int))), none, none, none, none, none] dX3_isRoll_5 rfl (by decide) ?_
  have esz := mSz_in (h 35 0) hsl
  rw [esz]
  refine w_iload_n dX3_isRoll_6 rfl ?_
  refine w_iconst dX3_isRoll_7 ?_
  refine w_irem dX3_isRoll_8 (by omega) (by omega) ?_
  have hrm := fwRem_nn (x := h 35 0 s) (y := 2) (by omega) (by omega)
  rw [hrm]
  refine w_if_eq 14 dX3_isRoll_9 (by decide) (by omega) (fun c9 => ?_) (fun c9 => ?_)
  · refine w_iconst dX3_isRoll_14 ?_
    refine w_istore [some (aR 5 0), some (aR 11 0), some (aI (s : Int)), some (aI (h 35 0 s)), some (aI 0), none, none, none, none] dX3_isRoll_15 rfl (by decide) ?_
    have lp17 : ∀ c : Nat, c ≤ (h 35 0 s / 2).toNat → ∀ (y17  : Int), y17 = 2 * (c : Int) → (mAll (mRollP (h 33 s) (h 5 0 3)) c = true) → fwWP mX3_isRoll (d + 2) 17 [some (aR 5 0), some (aR 11 0), some (aI (s : Int)), some (aI (h 35 0 s)), some (aI y17), none, none, none, none] [] h Q := by
      refine fw_up (fun c hc17 ih17 => ?_)
      intro y17  ey17 iv17_0
      subst ey17
      show fwWP mX3_isRoll (d + 2) 17 [some (aR 5 0), some (aR 11 0), some (aI (s : Int)), some (aI (h 35 0 s)), some (aI (2 * (c : Int))), none, none, none, none] [] h Q
      refine w_iload dX3_isRoll_17 rfl ?_
      refine w_iload_n dX3_isRoll_19 rfl ?_
      refine w_icmp_ge 85 dX3_isRoll_20 (by decide) (by omega) (by omega) (fun c20 => ?_) (fun c20 => ?_)
      · have ec17 : (h 35 0 s / 2).toNat = c := by omega
        subst ec17
        refine w_iconst dX3_isRoll_85 ?_
        exact w_zretE (P := mRoll (h 33 s) (h 35 0 s) (h 5 0 3)) dX3_isRoll_86 rfl (by rw [fwB_t ⟨by omega, iv17_0⟩]) k
      · have hlt : c < (h 35 0 s / 2).toNat := by omega
        refine w_aload_n dX3_isRoll_23 rfl ?_
        refine w_iload_n dX3_isRoll_24 rfl ?_
        refine w_iload dX3_isRoll_25 rfl ?_
        refine w_callV (d := d + 1) (S := []) [aI (s : Int), aI (2 * (c : Int))] dX3_isRoll_27 ml_X3_70 ok_X8_numberAt vi_X8_numberAt rfl rfl (by decide) rfl (Nat.le_of_ble_eq_true rfl) ?_
        refine c_X8_numberN (d := d) s (2 * c) (s : Int) (2 * (c : Int)) (by omega) (by omega) (by first | assumption | omega | decide) (by first | assumption | omega | decide) ?_
        show fwWP mX3_isRoll (d + 2) 30 [some (aR 5 0), some (aR 11 0), some (aI (s : Int)), some (aI (h 35 0 s)), some (aI (2 * (c : Int))), none, none, none, none] [aJ (h 33 s (2 * c))] h Q
        have hl4 := (hs s (by omega)).2.2 (2 * c) (by omega)
        refine w_lstore [some (aR 5 0), some (aR 11 0), some (aI (s : Int)), some (aI (h 35 0 s)), some (aI (2 * (c : Int))), some (aJ (h 33 s (2 * c))), none, none, none] dX3_isRoll_30 rfl (by decide) ?_
        refine w_aload_n dX3_isRoll_32 rfl ?_
        refine w_iload_n dX3_isRoll_33 rfl ?_
        refine w_iload dX3_isRoll_34 rfl ?_
        refine w_iconst dX3_isRoll_36 ?_
        refine w_iadd dX3_isRoll_37 ?_
        refine w_callV (d := d + 1) (S := []) [aI (s : Int), aI ((2 * (c : Int)) + 1)] dX3_isRoll_38 ml_X3_70 ok_X8_numberAt vi_X8_numberAt rfl rfl (by decide) rfl (Nat.le_of_ble_eq_true rfl) ?_
        refine c_X8_numberN (d := d) s ((2 * c) + 1) (s : Int) ((2 * (c : Int)) + 1) (by omega) (by omega) (by first | assumption | omega | decide) (by first | assumption | omega | decide) ?_
        show fwWP mX3_isRoll (d + 2) 41 [some (aR 5 0), some (aR 11 0), some (aI (s : Int)), some (aI (h 35 0 s)), some (aI (2 * (c : Int))), some (aJ (h 33 s (2 * c))), none, none, none] [aJ (h 33 s ((2 * c) + 1))] h Q
        have hl5 := (hs s (by omega)).2.2 ((2 * c) + 1) (by omega)
        refine w_lstore [some (aR 5 0), some (aR 11 0), some (aI (s : Int)), some (aI (h 35 0 s)), some (aI (2 * (c : Int))), some (aJ (h 33 s (2 * c))), none, some (aJ (h 33 s ((2 * c) + 1))), none] dX3_isRoll_41 rfl (by decide) ?_
        refine w_lload dX3_isRoll_43 rfl ?_
        refine w_lconst (z := 0) dX3_isRoll_45 rfl ?_
        refine w_lc_lt 77 dX3_isRoll_46 dX3_isRoll_47 (by decide) (by omega) (by omega) (fun c47 => ?_) (fun c47 => ?_)
        · refine w_iconst dX3_isRoll_77 ?_
          exact w_zretE (P := mRoll (h 33 s) (h 35 0 s) (h 5 0 3)) dX3_isRoll_78 rfl (by rw [fwB_f (fun q => by have := (mAll_iff _ _).mp q.2 c hlt; unfold mRollP at this; simp only [decide_eq_true_eq] at this; omega)]) k
        · refine w_lload dX3_isRoll_50 rfl ?_
          refine w_aload_n dX3_isRoll_52 rfl ?_
          refine w_geti dX3_isRoll_53 fl_X3_21 rfl (by decide) ?_
          refine w_i2l dX3_isRoll_56 (by omega) ?_
          refine w_lc_ge 77 dX3_isRoll_57 dX3_isRoll_58 (by decide) (by omega) (by omega) (fun c58 => ?_) (fun c58 => ?_)
          · refine w_iconst dX3_isRoll_77 ?_
            exact w_zretE (P := mRoll (h 33 s) (h 35 0 s) (h 5 0 3)) dX3_isRoll_78 rfl (by rw [fwB_f (fun q => by have := (mAll_iff _ _).mp q.2 c hlt; unfold mRollP at this; simp only [decide_eq_true_eq] at this; omega)]) k
          · refine w_lload dX3_isRoll_61 rfl ?_
            refine w_lconst (z := 0) dX3_isRoll_63 rfl ?_
            refine w_lc_lt 77 dX3_isRoll_64 dX3_isRoll_65 (by decide) (by omega) (by omega) (fun c65 => ?_) (fun c65 => ?_)
            · refine w_iconst dX3_isRoll_77 ?_
              exact w_zretE (P := mRoll (h 33 s) (h 35 0 s) (h 5 0 3)) dX3_isRoll_78 rfl (by rw [fwB_f (fun q => by have := (mAll_iff _ _).mp q.2 c hlt; unfold mRollP at this; simp only [decide_eq_true_eq] at this; omega)]) k
            · refine w_lload dX3_isRoll_68 rfl ?_
              refine w_ldc2 (n := 999) dX3_isRoll_70 cs_X3_74 ?_
              refine w_lc_le 79 dX3_isRoll_73 dX3_isRoll_74 (by decide) (by omega) (by omega) (fun c74 => ?_) (fun c74 => ?_)
              · refine w_iinc [some (aR 5 0), some (aR 11 0), some (aI (s : Int)), some (aI (h 35 0 s)), some (aI ((2 * (c : Int)) + 2)), some (aJ (h 33 s (2 * c))), none, some (aJ (h 33 s ((2 * c) + 1))), none] dX3_isRoll_79 rfl rfl (by decide) ?_
                refine w_goto 17 dX3_isRoll_82 (by decide) ?_
                refine w_drop [5, 7] [some (aR 5 0), some (aR 11 0), some (aI (s : Int)), some (aI (h 35 0 s)), some (aI ((2 * (c : Int)) + 2)), none, none, none, none] rfl ?_
                refine ih17 (by omega) _ ?_ ?_
                · exact (by omega)
                · exact (by rw [mAll, iv17_0, Bool.true_and]; unfold mRollP; simp only [decide_eq_true_eq]; omega)
              · refine w_iconst dX3_isRoll_77 ?_
                exact w_zretE (P := mRoll (h 33 s) (h 35 0 s) (h 5 0 3)) dX3_isRoll_78 rfl (by rw [fwB_f (fun q => by have := (mAll_iff _ _).mp q.2 c hlt; unfold mRollP at this; simp only [decide_eq_true_eq] at this; omega)]) k
    refine lp17 0 (Nat.zero_le _) _ ?_ ?_
    · exact (by omega)
    · exact rfl
  · refine w_iconst dX3_isRoll_12 ?_
    exact w_zretE (P := mRoll (h 33 s) (h 35 0 s) (h 5 0 3)) dX3_isRoll_13 rfl (by rw [fwB_f (fun q => by have := q.1; omega)]) k
def mNew (N : Nat → Int) (c j : Nat) : Bool := decide (¬ (N (2 * j) = N (2 * c) ∧ N (2 * j + 1) = N (2 * c + 1)))
def mHow (N F : Nat → Int) (c : Nat) : Int := if mAll (mNew N c) c = true then (if N (2 * c + 1) < F (7 * (N (2 * c)).toNat + 1) then 0 else 2) else 1
set_option maxRecDepth 100000 in
set_option maxHeartbeats 4000000 in
theorem c_X3_howStands {d : Nat} {h : fwH} {Q : Option fwV → fwH → Prop} (s b : Nat) (hP : pOk h 0) (hs : sOk h) (hsl : s < 4) (hb : 2 * b + 1 < 60) (hfo : 0 ≤ h 33 s (2 * b) ∧ h 33 s (2 * b) < h 5 0 3) (k : Q (some (aI (mHow (h 33 s) (h 18 0) b))) h) : fwCt mX3_howStands (d + 2) [aR 5 0, aR 11 0, aI (s : Int), aI (2 * (b : Int))] h Q := by
  refine fwCt_of [some (aR 5 0), some (aR 11 0), some (aI (s : Int)), some (aI (2 * (b : Int))), none, none, none, none, none] rfl rfl rfl ?_
  obtain ⟨⟨p1, p2⟩, p3⟩ := id hP
  refine w_aload_n dX3_howStands_0 rfl ?_
  refine w_iload_n dX3_howStands_1 rfl ?_
  refine w_iload_n dX3_howStands_2 rfl ?_
  refine w_callV (d := d + 1) (S := []) [aI (s : Int), aI (2 * (b : Int))] dX3_howStands_3 ml_X3_70 ok_X8_numberAt vi_X8_numberAt rfl rfl (by decide) rfl (Nat.le_of_ble_eq_true rfl) ?_
  refine c_X8_numberN (d := d) s (2 * b) (s : Int) (2 * (b : Int)) (by omega) (by omega) (by first | assumption | omega | decide) (by first | assumption | omega | decide) ?_
  show fwWP mX3_howStands (d + 2) 6 [some (aR 5 0), some (aR 11 0), some (aI (s : Int)), some (aI (2 * (b : Int))), none, none, none, none, none] [aJ (h 33 s (2 * b))] h Q
  have hl1 := (hs s (by omega)).2.2 (2 * b) (by omega)
  refine w_lstore [some (aR 5 0), some (aR 11 0), some (aI (s : Int)), some (aI (2 * (b : Int))), some (aJ (h 33 s (2 * b))), none, none, none, none] dX3_howStands_6 rfl (by decide) ?_
  refine w_aload_n dX3_howStands_8 rfl ?_
  refine w_iload_n dX3_howStands_9 rfl ?_
  refine w_iload_n dX3_howStands_10 rfl ?_
  refine w_iconst dX3_howStands_11 ?_
  refine w_iadd dX3_howStands_12 ?_
  refine w_callV (d := d + 1) (S := []) [aI (s : Int), aI ((2 * (b : Int)) + 1)] dX3_howStands_13 ml_X3_70 ok_X8_numberAt vi_X8_numberAt rfl rfl (by decide) rfl (Nat.le_of_ble_eq_true rfl) ?_
  refine c_X8_numberN (d := d) s ((2 * b) + 1) (s : Int) ((2 * (b : Int)) + 1) (by omega) (by omega) (by first | assumption | omega | decide) (by first | assumption | omega | decide) ?_
  show fwWP mX3_howStands (d + 2) 16 [some (aR 5 0), some (aR 11 0), some (aI (s : Int)), some (aI (2 * (b : Int))), some (aJ (h 33 s (2 * b))), none, none, none, none] [aJ (h 33 s ((2 * b) + 1))] h Q
  have hl2 := (hs s (by omega)).2.2 ((2 * b) + 1) (by omega)
  refine w_lstore [some (aR 5 0), some (aR 11 0), some (aI (s : Int)), some (aI (2 * (b : Int))), some (aJ (h 33 s (2 * b))), none, some (aJ (h 33 s ((2 * b) + 1))), none, none] dX3_howStands_16 rfl (by decide) ?_
  refine w_iconst dX3_howStands_18 ?_
  refine w_istore [some (aR 5 0), some (aR 11 0), some (aI (s : Int)), some (aI (2 * (b : Int))), some (aJ (h 33 s (2 * b))), none, some (aJ (h 33 s ((2 * b) + 1))), none, some (aI 0)] dX3_howStands_19 rfl (by decide) ?_
  have lp21 : ∀ c : Nat, c ≤ b → ∀ (y21  : Int), y21 = 2 * (c : Int) → (mAll (mNew (h 33 s) b) c = true) → fwWP mX3_howStands (d + 2) 21 [some (aR 5 0), some (aR 11 0), some (aI (s : Int)), some (aI (2 * (b : Int))), some (aJ (h 33 s (2 * b))), none, some (aJ (h 33 s ((2 * b) + 1))), none, some (aI y21)] [] h Q := by
    refine fw_up (fun c hc21 ih21 => ?_)
    intro y21  ey21 iv21_0
    subst ey21
    show fwWP mX3_howStands (d + 2) 21 [some (aR 5 0), some (aR 11 0), some (aI (s : Int)), some (aI (2 * (b : Int))), some (aJ (h 33 s (2 * b))), none, some (aJ (h 33 s ((2 * b) + 1))), none, some (aI (2 * (c : Int)))] [] h Q
    refine w_iload dX3_howStands_21 rfl ?_
    refine w_iload_n dX3_howStands_23 rfl ?_
    refine w_icmp_ge 63 dX3_howStands_24 (by decide) (by omega) (by omega) (fun c24 => ?_) (fun c24 => ?_)
    · have ec21 : b = c := by omega
      subst ec21
      have hfn := p3 (h 33 s (2 * b)).toNat (by omega)
      refine w_lload dX3_howStands_63 rfl ?_
      refine w_aload_n dX3_howStands_65 rfl ?_
      refine w_lload dX3_howStands_66 rfl ?_
      refine w_l2i dX3_howStands_68 ?_
      refine w_iconst dX3_howStands_69 ?_
      refine w_callV (d := d + 1) (S := [aJ (h 33 s ((2 * b) + 1))]) [aI (h 33 s (2 * b)), aI 1] dX3_howStands_70 ml_X3_25 ok_X3_fact vi_X3_fact rfl rfl (by decide) rfl (Nat.le_of_ble_eq_true rfl) ?_
      refine c_X3_factE (d := (d + 1)) 0 ((h 33 s (2 * b)).toNat) 1 (h 33 s (2 * b)) (by omega) (by decide) (by first | assumption | omega | decide) (by first | assumption | omega | decide) ?_
      show fwWP mX3_howStands (d + 2) 73 [some (aR 5 0), some (aR 11 0), some (aI (s : Int)), some (aI (2 * (b : Int))), some (aJ (h 33 s (2 * b))), none, some (aJ (h 33 s ((2 * b) + 1))), none, some (aI (2 * ((b : Nat) : Int)))] [aI (h 18 0 (7 * ((h 33 s (2 * b)).toNat) + 1)), aJ (h 33 s ((2 * b) + 1))] h Q
      refine w_i2l dX3_howStands_73 (by omega) ?_
      refine w_lc_ge 82 dX3_howStands_74 dX3_howStands_75 (by decide) (by omega) (by omega) (fun c75 => ?_) (fun c75 => ?_)
      · refine w_iconst dX3_howStands_82 ?_
        exact w_iretE dX3_howStands_83 rfl (by rw [mHow]; rw [if_pos iv21_0]; first | rw [if_pos (by omega)] | rw [if_neg (by omega)]) k
      · refine w_iconst dX3_howStands_78 ?_
        refine w_goto 83 dX3_howStands_79 (by decide) ?_
        exact w_iretE dX3_howStands_83 rfl (by rw [mHow]; rw [if_pos iv21_0]; first | rw [if_pos (by omega)] | rw [if_neg (by omega)]) k
    · refine w_aload_n dX3_howStands_27 rfl ?_
      refine w_iload_n dX3_howStands_28 rfl ?_
      refine w_iload dX3_howStands_29 rfl ?_
      refine w_callV (d := d + 1) (S := []) [aI (s : Int), aI (2 * (c : Int))] dX3_howStands_31 ml_X3_70 ok_X8_numberAt vi_X8_numberAt rfl rfl (by decide) rfl (Nat.le_of_ble_eq_true rfl) ?_
      refine c_X8_numberN (d := d) s (2 * c) (s : Int) (2 * (c : Int)) (by omega) (by omega) (by first | assumption | omega | decide) (by first | assumption | omega | decide) ?_
      show fwWP mX3_howStands (d + 2) 34 [some (aR 5 0), some (aR 11 0), some (aI (s : Int)), some (aI (2 * (b : Int))), some (aJ (h 33 s (2 * b))), none, some (aJ (h 33 s ((2 * b) + 1))), none, some (aI (2 * (c : Int)))] [aJ (h 33 s (2 * c))] h Q
      have hl4 := (hs s (by omega)).2.2 (2 * c) (by omega)
      refine w_lload dX3_howStands_34 rfl ?_
      refine w_lc_ne 57 dX3_howStands_36 dX3_howStands_37 (by decide) (by omega) (by omega) (fun c37 => ?_) (fun c37 => ?_)
      · refine w_iinc [some (aR 5 0), some (aR 11 0), some (aI (s : Int)), some (aI (2 * (b : Int))), some (aJ (h 33 s (2 * b))), none, some (aJ (h 33 s ((2 * b) + 1))), none, some (aI ((2 * (c : Int)) + 2))] dX3_howStands_57 rfl rfl (by decide) ?_
        refine w_goto 21 dX3_howStands_60 (by decide) ?_
        refine ih21 (by omega) _ ?_ ?_
        · exact (by omega)
        · exact (by rw [mAll, iv21_0, Bool.true_and]; unfold mNew; simp only [decide_eq_true_eq]; omega)
      · refine w_aload_n dX3_howStands_40 rfl ?_
        refine w_iload_n dX3_howStands_41 rfl ?_
        refine w_iload dX3_howStands_42 rfl ?_
        refine w_iconst dX3_howStands_44 ?_
        refine w_iadd dX3_howStands_45 ?_
        refine w_callV (d := d + 1) (S := []) [aI (s : Int), aI ((2 * (c : Int)) + 1)] dX3_howStands_46 ml_X3_70 ok_X8_numberAt vi_X8_numberAt rfl rfl (by decide) rfl (Nat.le_of_ble_eq_true rfl) ?_
        refine c_X8_numberN (d := d) s ((2 * c) + 1) (s : Int) ((2 * (c : Int)) + 1) (by omega) (by omega) (by first | assumption | omega | decide) (by first | assumption | omega | decide) ?_
        show fwWP mX3_howStands (d + 2) 49 [some (aR 5 0), some (aR 11 0), some (aI (s : Int)), some (aI (2 * (b : Int))), some (aJ (h 33 s (2 * b))), none, some (aJ (h 33 s ((2 * b) + 1))), none, some (aI (2 * (c : Int)))] [aJ (h 33 s ((2 * c) + 1))] h Q
        have hl5 := (hs s (by omega)).2.2 ((2 * c) + 1) (by omega)
        refine w_lload dX3_howStands_49 rfl ?_
        refine w_lc_ne 57 dX3_howStands_51 dX3_howStands_52 (by decide) (by omega) (by omega) (fun c52 => ?_) (fun c52 => ?_)
        · refine w_iinc [some (aR 5 0), some (aR 11 0), some (aI (s : Int)), some (aI (2 * (b : Int))), some (aJ (h 33 s (2 * b))), none, some (aJ (h 33 s ((2 * b) + 1))), none, some (aI ((2 * (c : Int)) + 2))] dX3_howStands_57 rfl rfl (by decide) ?_
          refine w_goto 21 dX3_howStands_60 (by decide) ?_
          refine ih21 (by omega) _ ?_ ?_
          · exact (by omega)
          · exact (by rw [mAll, iv21_0, Bool.true_and]; unfold mNew; simp only [decide_eq_true_eq]; omega)
        · refine w_iconst dX3_howStands_55 ?_
          exact w_iretE dX3_howStands_56 rfl (by rw [mHow]; rw [if_neg (fun q => by have := (mAll_iff _ _).mp q c (by omega); unfold mNew at this; simp only [decide_eq_true_eq] at this; omega)]) k
  refine lp21 0 (Nat.zero_le _) _ ?_ ?_
  · exact (by omega)
  · exact rfl
def mStand (N F : Nat → Int) (how : Int) : Nat → Int
  | 0 => 0
  | c + 1 => if mHow N F c = how then mStand N F how c + 1 else mStand N F how c
theorem mHow_rng (N F : Nat → Int) (c : Nat) : 0 ≤ mHow N F c ∧ mHow N F c ≤ 2 := by
  unfold mHow
  split
  · split <;> omega
  · omega
set_option maxRecDepth 100000 in
set_option maxHeartbeats 4000000 in
theorem c_X3_standing {d : Nat} {h : fwH} {Q : Option fwV → fwH → Prop} (s : Nat) (y : Int) (hP : pOk h 0) (hs : sOk h) (hsl : s < 4) (hz : 0 ≤ h 35 0 s) (hr : mRoll (h 33 s) (h 35 0 s) (h 5 0 3)) (hy : 0 ≤ y ∧ y ≤ 2) (k : Q (some (aI (mStand (h 33 s) (h 18 0) y (h 35 0 s / 2).toNat))) h) : fwCt mX3_standing (d + 3) [aR 5 0, aR 11 0, aI (s : Int), aI y] h Q := by
  refine fwCt_of [some (aR 5 0), some (aR 11 0), some (aI (s : Int)), some (aI y), none, none] rfl rfl rfl ?_
  obtain ⟨⟨p1, p2⟩, p3⟩ := id hP
  have hss := hs s hsl
  have hev := hr.1
  refine w_iconst dX3_standing_0 ?_
  refine w_istore [some (aR 5 0), some (aR 11 0), some (aI (s : Int)), some (aI y), some (aI 0), none] dX3_standing_1 rfl (by decide) ?_
  refine w_iconst dX3_standing_3 ?_
  refine w_istore [some (aR 5 0), some (aR 11 0), some (aI (s : Int)), some (aI y), some (aI 0), some (aI 0)] dX3_standing_4 rfl (by decide) ?_
  have lp6 : ∀ c : Nat, c ≤ (h 35 0 s / 2).toNat → ∀ (y6 su : Int), y6 = 2 * (c : Int) → su = mStand (h 33 s) (h 18 0) y c → fwWP mX3_standing (d + 3) 6 [some (aR 5 0), some (aR 11 0), some (aI (s : Int)), some (aI y), some (aI su), some (aI y6)] [] h Q := by
    refine fw_up (fun c hc6 ih6 => ?_)
    intro y6 su ey6 e_su
    subst ey6
    subst e_su
    show fwWP mX3_standing (d + 3) 6 [some (aR 5 0), some (aR 11 0), some (aI (s : Int)), some (aI y), some (aI (mStand (h 33 s) (h 18 0) y c)), some (aI (2 * (c : Int)))] [] h Q
    refine w_iload dX3_standing_6 rfl ?_
    refine w_aload_n dX3_standing_8 rfl ?_
    refine w_iload_n dX3_standing_9 rfl ?_
    refine w_callV (d := d + 2) (S := [aI (2 * (c : Int))]) [aI (s : Int)] dX3_standing_10 ml_X3_65 ok_X8_sizeOf vi_X8_sizeOf rfl rfl (by decide) rfl (Nat.le_of_ble_eq_true rfl) ?_
    refine c_X8_sizeOf (d := (d + 2)) (s : Int) (by first | assumption | omega | decide) ?_
    show fwWP mX3_standing (d + 3) 13 [some (aR 5 0), some (aR 11 0), some (aI (s : Int)), some (aI y), some (aI (mStand (h 33 s) (h 18 0) y c)), some (aI (2 * (c : Int)))] [aI (mSz (h 35 0) (s : Int)), aI (2 * (c : Int))] h Q
    have hz1 := mSz_rng hs (s : Int)
    rw [mSz_in (h 35 0) hsl]
    refine w_icmp_ge 37 dX3_standing_13 (by decide) (by omega) (by omega) (fun c13 => ?_) (fun c13 => ?_)
    · have ec6 : (h 35 0 s / 2).toNat = c := by omega
      subst ec6
      refine w_iload dX3_standing_37 rfl ?_
      exact w_iretE dX3_standing_39 rfl (by rfl) k
    · have hro := (mAll_iff _ _).mp hr.2 c (by omega)
      unfold mRollP at hro
      simp only [decide_eq_true_eq] at hro
      refine w_aload_n dX3_standing_16 rfl ?_
      refine w_aload_n dX3_standing_17 rfl ?_
      refine w_iload_n dX3_standing_18 rfl ?_
      refine w_iload dX3_standing_19 rfl ?_
      refine w_callV (d := d + 2) (S := []) [aR 11 0, aI (s : Int), aI (2 * (c : Int))] dX3_standing_21 ml_X3_76 ok_X3_howStands vi_X3_howStands rfl rfl (by decide) rfl (Nat.le_of_ble_eq_true rfl) ?_
      refine c_X3_howStands (d := d) s c (by first | assumption | omega | decide) (by first | assumption | omega | decide) (by first | assumption | omega | decide) (by first | assumption | omega | decide) (by first | assumption | omega | decide) ?_
      show fwWP mX3_standing (d + 3) 24 [some (aR 5 0), some (aR 11 0), some (aI (s : Int)), some (aI y), some (aI (mStand (h 33 s) (h 18 0) y c)), some (aI (2 * (c : Int)))] [aI (mHow (h 33 s) (h 18 0) c)] h Q
      have hho := mHow_rng (h 33 s) (h 18 0) c
      refine w_iload_n dX3_standing_24 rfl ?_
      refine w_icmp_ne 31 dX3_standing_25 (by decide) (by omega) (by omega) (fun c25 => ?_) (fun c25 => ?_)
      · refine w_iinc [some (aR 5 0), some (aR 11 0), some (aI (s : Int)), some (aI y), some (aI (mStand (h 33 s) (h 18 0) y c)), some (aI ((2 * (c : Int)) + 2))] dX3_standing_31 rfl rfl (by decide) ?_
        refine w_goto 6 dX3_standing_34 (by decide) ?_
        refine ih6 (by omega) _ _ ?_ ?_
        · exact (by omega)
        · exact (by rw [mStand]; first | rw [if_pos (by omega)] | rw [if_neg (by omega)])
      · refine w_iinc [some (aR 5 0), some (aR 11 0), some (aI (s : Int)), some (aI y), some (aI ((mStand (h 33 s) (h 18 0) y c) + 1)), some (aI (2 * (c : Int)))] dX3_standing_28 rfl rfl (by decide) ?_
        refine w_iinc [some (aR 5 0), some (aR 11 0), some (aI (s : Int)), some (aI y), some (aI ((mStand (h 33 s) (h 18 0) y c) + 1)), some (aI ((2 * (c : Int)) + 2))] dX3_standing_31 rfl rfl (by decide) ?_
        refine w_goto 6 dX3_standing_34 (by decide) ?_
        refine ih6 (by omega) _ _ ?_ ?_
        · exact (by omega)
        · exact (by rw [mStand]; first | rw [if_pos (by omega)] | rw [if_neg (by omega)])
  refine lp6 0 (Nat.zero_le _) _ _ ?_ ?_
  · exact (by omega)
  · exact rfl
end

/-! FootLower$Shaper -/
theorem fwFu_dn (H : Nat → Int) (t : Nat) : fwFu (fwFu H t (H t + -1)) t (fwFu H t (H t + -1) t + 1) = H := by
  have := fwFu_back H t (-1)
  exact this
theorem fwFu_ub (H : Nat → Int) (t : Nat) : fwFu (fwFu H t (H t + 1)) t (fwFu H t (H t + 1) t + -1) = H := fwFu_back H t 1
/-- GAIN of a FOLK with a FOOT taken from a CELL -/
def mGn (h : fwH) (c f : Nat) : Int := mGain (h 4 0 1) (fwFu (h 17 0) c (h 17 0 c + -1)) (h 4 0 2) (h 18 0) f
def mWt (h : fwH) : Nat → (Nat → Int)
  | 0 => h 26 0
  | c + 1 => if 0 < h 17 0 c then fwFlA (mGn h c) (mWt h c) (c * 8) (h 5 0 3).toNat else mWt h c
theorem mWt_at {h : fwH} (hp : (h 5 0 3).toNat ≤ 8) : ∀ n c f : Nat, c < n → 0 < h 17 0 c → f < (h 5 0 3).toNat → mWt h n (c * 8 + f) = mGn h c f := by
  intro n
  induction n with
  | zero => intro c f hc; omega
  | succ n ih =>
    intro c f hc h0 hf
    rw [mWt]
    by_cases e : c = n
    · subst e
      rw [if_pos h0]
      exact fwFlA_in hf
    · split
      · unfold fwFlA
        rw [if_neg (by omega)]
        exact ih c f (by omega) h0 hf
      · exact ih c f (by omega) h0 hf
theorem mGn_rng {h : fwH} (hP : pOk h 0) (hG : gOk h 0) (c : Nat) (hc : c < 10) (h0 : 0 < h 17 0 c) (f : Nat) (hf : f < 8) : 0 ≤ mGn h c f ∧ mGn h c f ≤ 27000 := by
  have h1 := hP.2 f hf
  have h2 := hG.2.2.2.2 c hc
  exact mGain_rng hG.1.2 (fwFu_rng hG.2.2.2.2 (by omega)) h1.2.2.1 h1.2.2.2.1 h1.2.2.2.2.1
set_option maxRecDepth 100000 in
set_option maxHeartbeats 4000000 in
theorem c_X7_weighCells {d : Nat} {h : fwH} {Q : Option fwV → fwH → Prop}  (hP : pOk h 0) (hG : gOk h 0) (hn : 1 ≤ h 4 0 1) (hM : ∀ c : Nat, c < 10 → h 17 0 c ≤ 999) (k : Q none (fwUc (fwUc (fwUc h 4 5 (h 4 0)) 17 5 (h 17 0)) 26 0 (mWt h (h 4 0 1).toNat))) : fwCt mX7_weighCells (d + 3) [aR 8 0] h Q := by
  refine fwCt_of [some (aR 8 0), none] rfl rfl rfl ?_
  obtain ⟨⟨g1, g2⟩, ⟨g3, g4⟩, ⟨g5, g6⟩, g7, g8⟩ := id hG
  have hpz := hP.1
  refine w_aload_n dX7_weighCells_0 rfl ?_
  refine w_getr 4 5 dX7_weighCells_1 fl_X7_25 rfl (by decide) ?_
  refine w_aload_n dX7_weighCells_4 rfl ?_
  refine w_getr 3 0 dX7_weighCells_5 fl_X7_21 rfl (by decide) ?_
  refine w_getr 4 0 dX7_weighCells_8 fl_X7_29 rfl (by decide) ?_
  refine w_callV (d := d + 2) (S := []) [aR 4 0] dX7_weighCells_11 ml_X7_34 ok_X1_copyFrom vi_X1_copyFrom rfl rfl (by decide) rfl (Nat.le_of_ble_eq_true rfl) ?_
  refine c_X1_copyFrom (d := (d + 2)) 5 0 (by decide) (by decide) (by first | assumption | omega | decide) (by first | assumption | omega | decide) ?_
  show fwWP mX7_weighCells (d + 3) 14 [some (aR 8 0), none] [] (fwUc (fwUc h 17 5 (h 17 0)) 4 5 (h 4 0)) Q
  rw [show fwUc (fwUc h 17 5 (h 17 0)) 4 5 (h 4 0) = (fwUc (fwUc h 4 5 (h 4 0)) 17 5 (h 17 0)) from by funext a b; simp only [fwUc]; (repeat' split); all_goals first | rfl | (exfalso; omega)]
  refine w_iconst dX7_weighCells_14 ?_
  refine w_istore_n [some (aR 8 0), some (aI 0)] dX7_weighCells_15 rfl (by decide) ?_
  have lp16 : ∀ c : Nat, c ≤ (h 4 0 1).toNat → ∀ (y16  : Int) (hh16 : fwH), y16 = (c : Int) → hh16 = (fwUc (fwUc (fwUc h 4 5 (h 4 0)) 17 5 (h 17 0)) 26 0 (mWt h c)) → fwWP mX7_weighCells (d + 3) 16 [some (aR 8 0), some (aI y16)] [] hh16 Q := by
    refine fw_up (fun c hc16 ih16 => ?_)
    intro y16  hh16 ey16 eh16
    subst ey16
    subst eh16
    show fwWP mX7_weighCells (d + 3) 16 [some (aR 8 0), some (aI (c : Int))] [] (fwUc (fwUc (fwUc h 4 5 (h 4 0)) 17 5 (h 17 0)) 26 0 (mWt h c)) Q
    refine w_iload_n dX7_weighCells_16 rfl ?_
    refine w_aload_n dX7_weighCells_17 rfl ?_
    refine w_getr 4 5 dX7_weighCells_18 fl_X7_25 rfl (by decide) ?_
    refine w_getiE (v := (h 4 0) 1) dX7_weighCells_21 fl_X7_40 rfl (by decide) (by first | rfl | simp [fwUp, fwUc]) ?_
    refine w_icmp_ge 84 dX7_weighCells_24 (by decide) (by omega) (by omega) (fun c24 => ?_) (fun c24 => ?_)
    · have ec16 : (h 4 0 1).toNat = c := by omega
      subst ec16
      exact w_vret dX7_weighCells_84 rfl (k)
    · have hG7 : gOk (fwUc (fwUc (fwUc h 4 5 (h 4 0)) 17 5 (h 17 0)) 26 0 (mWt h c)) 5 := ⟨hG.1, hG.2.1, hG.2.2.1, hG.2.2.2.1, hG.2.2.2.2⟩
      refine w_aload_n dX7_weighCells_27 rfl ?_
      refine w_getr 4 5 dX7_weighCells_28 fl_X7_25 rfl (by decide) ?_
      refine w_iload_n dX7_weighCells_31 rfl ?_
      refine w_callV (d := d + 2) (S := []) [aI (c : Int)] dX7_weighCells_32 ml_X7_44 ok_X1_heightOf vi_X1_heightOf rfl rfl (by decide) rfl (Nat.le_of_ble_eq_true rfl) ?_
      refine c_X1_heightOfE (d := (d + 2)) 5 (c : Int) (h 17 0 c) (by decide) (by first | assumption | omega | decide) (by first | assumption | omega | decide) (hOf_in (n := h 4 0 1) (H := h 17 0) (by omega)) ?_
      show fwWP mX7_weighCells (d + 3) 35 [some (aR 8 0), some (aI (c : Int))] [aI (h 17 0 c)] (fwUc (fwUc (fwUc h 4 5 (h 4 0)) 17 5 (h 17 0)) 26 0 (mWt h c)) Q
      have hc1 := g8 c (by omega)
      refine w_if_le 78 dX7_weighCells_35 (by decide) (by omega) (fun c35 => ?_) (fun c35 => ?_)
      · refine w_iinc [some (aR 8 0), some (aI ((c : Int) + 1))] dX7_weighCells_78 rfl rfl (by decide) ?_
        refine w_goto 16 dX7_weighCells_81 (by decide) ?_
        refine ih16 (by omega) _ _ ?_ ?_
        · exact (by omega)
        · exact (by rw [mWt, if_neg (by omega)])
      · have hG7 : gOk (fwUc (fwUc (fwUc h 4 5 (h 4 0)) 17 5 (h 17 0)) 26 0 (mWt h c)) 5 := ⟨hG.1, hG.2.1, hG.2.2.1, hG.2.2.2.1, hG.2.2.2.2⟩
        refine w_aload_n dX7_weighCells_38 rfl ?_
        refine w_getr 4 5 dX7_weighCells_39 fl_X7_25 rfl (by decide) ?_
        refine w_iload_n dX7_weighCells_42 rfl ?_
        refine w_iconst dX7_weighCells_43 ?_
        refine w_callV (d := d + 2) (S := []) [aI (c : Int), aI (-1)] dX7_weighCells_44 ml_X7_48 ok_X1_change vi_X1_change rfl rfl (by decide) rfl (Nat.le_of_ble_eq_true rfl) ?_
        refine c_X1_changeE (d := (d + 1)) 5 (c : Int) (-1) (by decide) (by first | assumption | omega | decide) (by first | assumption | omega | decide) (show (c : Int) < (h 4 0) 1 by first | assumption | omega | decide) ?_
        show fwWP mX7_weighCells (d + 3) 47 [some (aR 8 0), some (aI (c : Int))] [] (fwUc (fwUc (fwUc (fwUc h 4 5 (h 4 0)) 17 5 (h 17 0)) 26 0 (mWt h c)) 17 5 (fwFu ((h 17 0)) ((c : Int)).toNat ((h 17 0) ((c : Int)).toNat + (-1)))) Q
        rw [show fwUc (fwUc (fwUc (fwUc h 4 5 (h 4 0)) 17 5 (h 17 0)) 26 0 (mWt h c)) 17 5 (fwFu ((h 17 0)) ((c : Int)).toNat ((h 17 0) ((c : Int)).toNat + (-1))) = (fwUc (fwUc (fwUc h 4 5 (h 4 0)) 17 5 (fwFu ((h 17 0)) ((c : Int)).toNat ((h 17 0) ((c : Int)).toNat + (-1)))) 26 0 (mWt h c)) from by funext a b; simp only [fwUc]; (repeat' split); all_goals first | rfl | (exfalso; omega)]
        have hG6 : gOk (fwUc (fwUc (fwUc h 4 5 (h 4 0)) 17 5 (fwFu ((h 17 0)) ((c : Int)).toNat ((h 17 0) ((c : Int)).toNat + (-1)))) 26 0 (mWt h c)) 5 := ⟨hG.1, hG.2.1, hG.2.2.1, hG.2.2.2.1, fwFu_rng g8 (by rw [Int.toNat_natCast]; omega)⟩
        refine w_aload_n dX7_weighCells_47 rfl ?_
        refine w_getr 3 0 dX7_weighCells_48 fl_X7_21 rfl (by decide) ?_
        refine w_getr 5 0 dX7_weighCells_51 fl_X7_52 rfl (by decide) ?_
        refine w_aload_n dX7_weighCells_54 rfl ?_
        refine w_getr 4 5 dX7_weighCells_55 fl_X7_25 rfl (by decide) ?_
        refine w_aload_n dX7_weighCells_58 rfl ?_
        refine w_getr 26 0 dX7_weighCells_59 fl_X7_9 rfl (by decide) ?_
        refine w_iload_n dX7_weighCells_62 rfl ?_
        refine w_bipush dX7_weighCells_63 rfl ?_
        refine w_imul dX7_weighCells_65 ?_
        refine w_callV (d := d + 2) (S := []) [aR 4 5, aR 26 0, aI ((c : Int) * 8)] dX7_weighCells_66 ml_X7_56 ok_X3_fillGains vi_X3_fillGains rfl rfl (by decide) rfl (Nat.le_of_ble_eq_true rfl) ?_
        refine c_fillGains26 (d := d) 0 5 (c * 8) (by decide) (by decide) (by first | assumption | omega | decide) (by first | assumption | omega | decide) (by first | assumption | omega | decide) ?_
        show fwWP mX7_weighCells (d + 3) 69 [some (aR 8 0), some (aI (c : Int))] [] (fwUc (fwUc (fwUc (fwUc h 4 5 (h 4 0)) 17 5 (fwFu ((h 17 0)) ((c : Int)).toNat ((h 17 0) ((c : Int)).toNat + (-1)))) 26 0 (mWt h c)) 26 0 (fwFlA (mGain ((h 4 0) 1) (fwFu ((h 17 0)) ((c : Int)).toNat ((h 17 0) ((c : Int)).toNat + (-1))) ((h 4 0) 2) (h 18 0)) ((mWt h c)) (c * 8) (h 5 0 3).toNat)) Q
        rw [show fwUc (fwUc (fwUc (fwUc h 4 5 (h 4 0)) 17 5 (fwFu ((h 17 0)) ((c : Int)).toNat ((h 17 0) ((c : Int)).toNat + (-1)))) 26 0 (mWt h c)) 26 0 (fwFlA (mGain ((h 4 0) 1) (fwFu ((h 17 0)) ((c : Int)).toNat ((h 17 0) ((c : Int)).toNat + (-1))) ((h 4 0) 2) (h 18 0)) ((mWt h c)) (c * 8) (h 5 0 3).toNat) = (fwUc (fwUc (fwUc h 4 5 (h 4 0)) 17 5 (fwFu ((h 17 0)) ((c : Int)).toNat ((h 17 0) ((c : Int)).toNat + (-1)))) 26 0 (fwFlA (mGain ((h 4 0) 1) (fwFu ((h 17 0)) ((c : Int)).toNat ((h 17 0) ((c : Int)).toNat + (-1))) ((h 4 0) 2) (h 18 0)) ((mWt h c)) (c * 8) (h 5 0 3).toNat)) from by funext a b; simp only [fwUc]; (repeat' split); all_goals first | rfl | (exfalso; omega)]
        have hG8 : gOk (fwUc (fwUc (fwUc h 4 5 (h 4 0)) 17 5 (fwFu ((h 17 0)) ((c : Int)).toNat ((h 17 0) ((c : Int)).toNat + (-1)))) 26 0 (fwFlA (mGain ((h 4 0) 1) (fwFu ((h 17 0)) ((c : Int)).toNat ((h 17 0) ((c : Int)).toNat + (-1))) ((h 4 0) 2) (h 18 0)) ((mWt h c)) (c * 8) (h 5 0 3).toNat)) 5 := ⟨hG.1, hG.2.1, hG.2.2.1, hG.2.2.2.1, fwFu_rng g8 (by rw [Int.toNat_natCast]; omega)⟩
        refine w_aload_n dX7_weighCells_69 rfl ?_
        refine w_getr 4 5 dX7_weighCells_70 fl_X7_25 rfl (by decide) ?_
        refine w_iload_n dX7_weighCells_73 rfl ?_
        refine w_iconst dX7_weighCells_74 ?_
        refine w_callV (d := d + 2) (S := []) [aI (c : Int), aI 1] dX7_weighCells_75 ml_X7_48 ok_X1_change vi_X1_change rfl rfl (by decide) rfl (Nat.le_of_ble_eq_true rfl) ?_
        refine c_X1_changeE (d := (d + 1)) 5 (c : Int) 1 (by decide) (by first | assumption | omega | decide) (by first | assumption | omega | decide) (show (c : Int) < (h 4 0) 1 by first | assumption | omega | decide) ?_
        show fwWP mX7_weighCells (d + 3) 78 [some (aR 8 0), some (aI (c : Int))] [] (fwUc (fwUc (fwUc (fwUc h 4 5 (h 4 0)) 17 5 (fwFu ((h 17 0)) ((c : Int)).toNat ((h 17 0) ((c : Int)).toNat + (-1)))) 26 0 (fwFlA (mGain ((h 4 0) 1) (fwFu ((h 17 0)) ((c : Int)).toNat ((h 17 0) ((c : Int)).toNat + (-1))) ((h 4 0) 2) (h 18 0)) ((mWt h c)) (c * 8) (h 5 0 3).toNat)) 17 5 (fwFu ((fwFu ((h 17 0)) ((c : Int)).toNat ((h 17 0) ((c : Int)).toNat + (-1)))) ((c : Int)).toNat ((fwFu ((h 17 0)) ((c : Int)).toNat ((h 17 0) ((c : Int)).toNat + (-1))) ((c : Int)).toNat + 1))) Q
        rw [show fwUc (fwUc (fwUc (fwUc h 4 5 (h 4 0)) 17 5 (fwFu ((h 17 0)) ((c : Int)).toNat ((h 17 0) ((c : Int)).toNat + (-1)))) 26 0 (fwFlA (mGain ((h 4 0) 1) (fwFu ((h 17 0)) ((c : Int)).toNat ((h 17 0) ((c : Int)).toNat + (-1))) ((h 4 0) 2) (h 18 0)) ((mWt h c)) (c * 8) (h 5 0 3).toNat)) 17 5 (fwFu ((fwFu ((h 17 0)) ((c : Int)).toNat ((h 17 0) ((c : Int)).toNat + (-1)))) ((c : Int)).toNat ((fwFu ((h 17 0)) ((c : Int)).toNat ((h 17 0) ((c : Int)).toNat + (-1))) ((c : Int)).toNat + 1)) = (fwUc (fwUc (fwUc h 4 5 (h 4 0)) 17 5 (fwFu ((fwFu ((h 17 0)) ((c : Int)).toNat ((h 17 0) ((c : Int)).toNat + (-1)))) ((c : Int)).toNat ((fwFu ((h 17 0)) ((c : Int)).toNat ((h 17 0) ((c : Int)).toNat + (-1))) ((c : Int)).toNat + 1))) 26 0 (fwFlA (mGain ((h 4 0) 1) (fwFu ((h 17 0)) ((c : Int)).toNat ((h 17 0) ((c : Int)).toNat + (-1))) ((h 4 0) 2) (h 18 0)) ((mWt h c)) (c * 8) (h 5 0 3).toNat)) from by funext a b; simp only [fwUc]; (repeat' split); all_goals first | rfl | (exfalso; omega)]
        refine w_iinc [some (aR 8 0), some (aI ((c : Int) + 1))] dX7_weighCells_78 rfl rfl (by decide) ?_
        refine w_goto 16 dX7_weighCells_81 (by decide) ?_
        refine ih16 (by omega) _ _ ?_ ?_
        · exact (by omega)
        · exact (by rw [mWt, if_pos (by omega)]; rw [fwFu_dn]; rfl)
  refine lp16 0 (Nat.zero_le _) _ _ ?_ ?_
  · exact (by omega)
  · exact (fwUc_self (fwUc (fwUc h 4 5 (h 4 0)) 17 5 (h 17 0)) 26 0).symm
set_option maxRecDepth 100000 in
set_option maxHeartbeats 4000000 in
theorem c_X7_weightOf {d : Nat} {h : fwH} {Q : Option fwV → fwH → Prop} (x y : Nat) (hx : x < 10) (hy : y < 8) (k : Q (some (aI (h 26 0 (x * 8 + y)))) h) : fwCt mX7_weightOf (d + 0) [aR 8 0, aI (x : Int), aI (y : Int)] h Q := by
  refine fwCt_of [some (aR 8 0), some (aI (x : Int)), some (aI (y : Int)), none] rfl rfl rfl ?_
  refine w_iload_n dX7_weightOf_0 rfl ?_
  refine w_bipush dX7_weightOf_1 rfl ?_
  refine w_imul dX7_weightOf_3 ?_
  refine w_iload_n dX7_weightOf_4 rfl ?_
  refine w_iadd dX7_weightOf_5 ?_
  refine w_istore_n [some (aR 8 0), some (aI (x : Int)), some (aI (y : Int)), some (aI (((x : Int) * 8) + (y : Int)))] dX7_weightOf_6 rfl (by decide) ?_
  refine w_iload_n dX7_weightOf_7 rfl ?_
  refine w_if_lt 29 dX7_weightOf_8 (by decide) (by omega) (fun c8 => ?_) (fun c8 => ?_)
  · (exfalso; omega)
  · refine w_iload_n dX7_weightOf_11 rfl ?_
    refine w_aload_n dX7_weightOf_12 rfl ?_
    refine w_getr 26 0 dX7_weightOf_13 fl_X7_9 rfl (by decide) ?_
    refine w_alen dX7_weightOf_16 rfl (by decide) (by decide) ?_
    refine w_icmp_ge 29 dX7_weightOf_17 (by decide) (by omega) (by omega) (fun c17 => ?_) (fun c17 => ?_)
    · (exfalso; omega)
    · refine w_aload_n dX7_weightOf_20 rfl ?_
      refine w_getr 26 0 dX7_weightOf_21 fl_X7_9 rfl (by decide) ?_
      refine w_iload_n dX7_weightOf_24 rfl ?_
      refine w_ialdE (v := h 26 0 (x * 8 + y)) dX7_weightOf_25 rfl (by decide) (by omega) (by omega) (by rw [show ((x : Int) * 8 + (y : Int)).toNat = x * 8 + y by omega]) ?_
      refine w_goto 30 dX7_weightOf_26 (by decide) ?_
      exact w_iretE dX7_weightOf_30 rfl (by rfl) k
theorem c_X7_weightOfE {d : Nat} {h : fwH} {Q : Option fwV → fwH → Prop} (x y : Nat) (v : Int) (hx : x < 10) (hy : y < 8) (e : h 26 0 (x * 8 + y) = v) (k : Q (some (aI v)) h) : fwCt mX7_weightOf d [aR 8 0, aI (x : Int), aI (y : Int)] h Q := by
  subst e
  exact c_X7_weightOf x y hx hy k
/-- who would rather have a FOOT taken from x than from y -/
def mVoB (h : fwH) (x y f : Nat) : Bool := decide (mGn h y f < mGn h x f)
def mVo (h : fwH) (x y : Nat) : Int := mBits (mVoB h x y) (h 5 0 3).toNat
/-- the weights hold -/
abbrev mWok (h : fwH) : Prop := ∀ c f : Nat, c < (h 4 0 1).toNat → 0 < h 17 0 c → f < (h 5 0 3).toNat → h 26 0 (c * 8 + f) = mGn h c f
set_option maxRecDepth 100000 in
set_option maxHeartbeats 4000000 in
theorem c_X7_votersFor {d : Nat} {h : fwH} {Q : Option fwV → fwH → Prop} (x y : Nat) (hP : pOk h 0) (hG : gOk h 0) (hW : mWok h) (hx : (x : Int) < h 4 0 1) (hx2 : 0 < h 17 0 x) (hy : (y : Int) < h 4 0 1) (hy2 : 0 < h 17 0 y) (k : Q (some (aI (mVo h x y))) h) : fwCt mX7_votersFor (d + 1) [aR 8 0, aI (x : Int), aI (y : Int)] h Q := by
  refine fwCt_of [some (aR 8 0), some (aI (x : Int)), some (aI (y : Int)), none, none] rfl rfl rfl ?_
  obtain ⟨⟨g1, g2⟩, ⟨g3, g4⟩, ⟨g5, g6⟩, g7, g8⟩ := id hG
  have hpz := hP.1
  refine w_iconst dX7_votersFor_0 ?_
  refine w_istore_n [some (aR 8 0), some (aI (x : Int)), some (aI (y : Int)), some (aI 0), none] dX7_votersFor_1 rfl (by decide) ?_
  refine w_iconst dX7_votersFor_2 ?_
  refine w_istore [some (aR 8 0), some (aI (x : Int)), some (aI (y : Int)), some (aI 0), some (aI 0)] dX7_votersFor_3 rfl (by decide) ?_
  have lp5 : ∀ c : Nat, c ≤ (h 5 0 3).toNat → ∀ (y5 bi : Int), y5 = (c : Int) → bi = mBits (mVoB h x y) c → fwWP mX7_votersFor (d + 1) 5 [some (aR 8 0), some (aI (x : Int)), some (aI (y : Int)), some (aI bi), some (aI y5)] [] h Q := by
    refine fw_up (fun c hc5 ih5 => ?_)
    intro y5 bi ey5 e_bi
    subst ey5
    subst e_bi
    show fwWP mX7_votersFor (d + 1) 5 [some (aR 8 0), some (aI (x : Int)), some (aI (y : Int)), some (aI (mBits (mVoB h x y) c)), some (aI (c : Int))] [] h Q
    refine w_iload dX7_votersFor_5 rfl ?_
    refine w_aload_n dX7_votersFor_7 rfl ?_
    refine w_getr 3 0 dX7_votersFor_8 fl_X7_21 rfl (by decide) ?_
    refine w_getr 5 0 dX7_votersFor_11 fl_X7_52 rfl (by decide) ?_
    refine w_geti dX7_votersFor_14 fl_X7_62 rfl (by decide) ?_
    refine w_icmp_ge 50 dX7_votersFor_17 (by decide) (by omega) (by omega) (fun c17 => ?_) (fun c17 => ?_)
    · have ec5 : (h 5 0 3).toNat = c := by omega
      subst ec5
      refine w_iload_n dX7_votersFor_50 rfl ?_
      exact w_iretE dX7_votersFor_51 rfl (by rfl) k
    · refine w_aload_n dX7_votersFor_20 rfl ?_
      refine w_iload_n dX7_votersFor_21 rfl ?_
      refine w_iload dX7_votersFor_22 rfl ?_
      refine w_callV (d := d + 0) (S := []) [aI (x : Int), aI (c : Int)] dX7_votersFor_24 ml_X7_65 ok_X7_weightOf vi_X7_weightOf rfl rfl (by decide) rfl (Nat.le_of_ble_eq_true rfl) ?_
      refine c_X7_weightOfE (d := d) x c (mGn h x c) (by first | assumption | omega | decide) (by first | assumption | omega | decide) (hW x c (by omega) (by omega) (by omega)) ?_
      show fwWP mX7_votersFor (d + 1) 27 [some (aR 8 0), some (aI (x : Int)), some (aI (y : Int)), some (aI (mBits (mVoB h x y) c)), some (aI (c : Int))] [aI (mGn h x c)] h Q
      refine w_aload_n dX7_votersFor_27 rfl ?_
      refine w_iload_n dX7_votersFor_28 rfl ?_
      refine w_iload dX7_votersFor_29 rfl ?_
      refine w_callV (d := d + 0) (S := [aI (mGn h x c)]) [aI (y : Int), aI (c : Int)] dX7_votersFor_31 ml_X7_65 ok_X7_weightOf vi_X7_weightOf rfl rfl (by decide) rfl (Nat.le_of_ble_eq_true rfl) ?_
      refine c_X7_weightOfE (d := d) y c (mGn h y c) (by first | assumption | omega | decide) (by first | assumption | omega | decide) (hW y c (by omega) (by omega) (by omega)) ?_
      show fwWP mX7_votersFor (d + 1) 34 [some (aR 8 0), some (aI (x : Int)), some (aI (y : Int)), some (aI (mBits (mVoB h x y) c)), some (aI (c : Int))] [aI (mGn h y c), aI (mGn h x c)] h Q
      have hr1 := mGn_rng hP hG x (by omega) hx2 c (by omega)
      have hr2 := mGn_rng hP hG y (by omega) hy2 c (by omega)
      refine w_icmp_le 44 dX7_votersFor_34 (by decide) (by omega) (by omega) (fun c34 => ?_) (fun c34 => ?_)
      · refine w_iinc [some (aR 8 0), some (aI (x : Int)), some (aI (y : Int)), some (aI (mBits (mVoB h x y) c)), some (aI ((c : Int) + 1))] dX7_votersFor_44 rfl rfl (by decide) ?_
        refine w_goto 5 dX7_votersFor_47 (by decide) ?_
        refine ih5 (by omega) _ _ ?_ ?_
        · exact (by omega)
        · exact (by rw [mBits]; first | rw [if_pos (by unfold mVoB; simp only [decide_eq_true_eq]; omega)] | rw [if_neg (by unfold mVoB; simp only [decide_eq_true_eq]; omega)])
      · refine w_iload_n dX7_votersFor_37 rfl ?_
        refine w_iconst dX7_votersFor_38 ?_
        refine w_iload dX7_votersFor_39 rfl ?_
        refine w_ishl dX7_votersFor_41 ?_
        refine w_ior dX7_votersFor_42 ?_
        refine w_istore_n [some (aR 8 0), some (aI (x : Int)), some (aI (y : Int)), some (aI (fwOr (mBits (mVoB h x y) c) (fwShl 1 (c : Int)))), some (aI (c : Int))] dX7_votersFor_43 rfl (by decide) ?_
        refine w_iinc [some (aR 8 0), some (aI (x : Int)), some (aI (y : Int)), some (aI (fwOr (mBits (mVoB h x y) c) (fwShl 1 (c : Int)))), some (aI ((c : Int) + 1))] dX7_votersFor_44 rfl rfl (by decide) ?_
        refine w_goto 5 dX7_votersFor_47 (by decide) ?_
        refine ih5 (by omega) _ _ ?_ ?_
        · exact (by omega)
        · exact (by rw [mBits]; first | rw [if_pos (by unfold mVoB; simp only [decide_eq_true_eq]; omega)] | rw [if_neg (by unfold mVoB; simp only [decide_eq_true_eq]; omega)])
  refine lp5 0 (Nat.zero_le _) _ _ ?_ ?_
  · exact (by omega)
  · exact rfl
def mVoN (h : fwH) (x y : Nat) : Int := mNames (h 18 0) (mVo h x y) (h 5 0 3).toNat
def mUnB (h : fwH) (x y : Nat) : Bool := decide (0 < h 17 0 y → mVoN h y x ≤ mVoN h x y)
abbrev mUnb (h : fwH) (x : Nat) : Prop := mAll (mUnB h x) (h 4 0 1).toNat = true
set_option maxRecDepth 100000 in
set_option maxHeartbeats 4000000 in
theorem c_X7_isUnbeaten {d : Nat} {h : fwH} {Q : Option fwV → fwH → Prop} (x : Nat) (hP : pOk h 0) (hG : gOk h 0) (hW : mWok h) (hx : (x : Int) < h 4 0 1) (hx2 : 0 < h 17 0 x) (k : Q (some (aI (fwB (mUnb h x)))) h) : fwCt mX7_isUnbeaten (d + 2) [aR 8 0, aI (x : Int)] h Q := by
  refine fwCt_of [some (aR 8 0), some (aI (x : Int)), none, none] rfl rfl rfl ?_
  obtain ⟨⟨g1, g2⟩, ⟨g3, g4⟩, ⟨g5, g6⟩, g7, g8⟩ := id hG
  have hpz := hP.1
  refine w_iconst dX7_isUnbeaten_0 ?_
  refine w_istore_n [some (aR 8 0), some (aI (x : Int)), some (aI 0), none] dX7_isUnbeaten_1 rfl (by decide) ?_
  have lp2 : ∀ c : Nat, c ≤ (h 4 0 1).toNat → ∀ (y2  : Int), y2 = (c : Int) → (mAll (mUnB h x) c = true) → fwWP mX7_isUnbeaten (d + 2) 2 [some (aR 8 0), some (aI (x : Int)), some (aI y2), none] [] h Q := by
    refine fw_up (fun c hc2 ih2 => ?_)
    intro y2  ey2 iv2_0
    subst ey2
    show fwWP mX7_isUnbeaten (d + 2) 2 [some (aR 8 0), some (aI (x : Int)), some (aI (c : Int)), none] [] h Q
    refine w_iload_n dX7_isUnbeaten_2 rfl ?_
    refine w_aload_n dX7_isUnbeaten_3 rfl ?_
    refine w_getr 3 0 dX7_isUnbeaten_4 fl_X7_21 rfl (by decide) ?_
    refine w_getr 4 0 dX7_isUnbeaten_7 fl_X7_29 rfl (by decide) ?_
    refine w_geti dX7_isUnbeaten_10 fl_X7_40 rfl (by decide) ?_
    refine w_icmp_ge 75 dX7_isUnbeaten_13 (by decide) (by omega) (by omega) (fun c13 => ?_) (fun c13 => ?_)
    · have ec2 : (h 4 0 1).toNat = c := by omega
      subst ec2
      refine w_iconst dX7_isUnbeaten_75 ?_
      exact w_zretE (P := mUnb h x) dX7_isUnbeaten_76 rfl (by rw [fwB_t iv2_0]) k
    · refine w_aload_n dX7_isUnbeaten_16 rfl ?_
      refine w_getr 3 0 dX7_isUnbeaten_17 fl_X7_21 rfl (by decide) ?_
      refine w_getr 4 0 dX7_isUnbeaten_20 fl_X7_29 rfl (by decide) ?_
      refine w_iload_n dX7_isUnbeaten_23 rfl ?_
      refine w_callV (d := d + 1) (S := []) [aI (c : Int)] dX7_isUnbeaten_24 ml_X7_44 ok_X1_heightOf vi_X1_heightOf rfl rfl (by decide) rfl (Nat.le_of_ble_eq_true rfl) ?_
      refine c_X1_heightOfE (d := (d + 1)) 0 (c : Int) (h 17 0 c) (by decide) (by first | assumption | omega | decide) (by first | assumption | omega | decide) (hOf_in (by omega)) ?_
      show fwWP mX7_isUnbeaten (d + 2) 27 [some (aR 8 0), some (aI (x : Int)), some (aI (c : Int)), none] [aI (h 17 0 c)] h Q
      have hc1 := g8 c (by omega)
      refine w_if_le 69 dX7_isUnbeaten_27 (by decide) (by omega) (fun c27 => ?_) (fun c27 => ?_)
      · refine w_iinc [some (aR 8 0), some (aI (x : Int)), some (aI ((c : Int) + 1)), none] dX7_isUnbeaten_69 rfl rfl (by decide) ?_
        refine w_goto 2 dX7_isUnbeaten_72 (by decide) ?_
        refine ih2 (by omega) _ ?_ ?_
        · exact (by omega)
        · exact (by rw [mAll, iv2_0, Bool.true_and]; unfold mUnB; simp only [decide_eq_true_eq]; omega)
      · refine w_aload_n dX7_isUnbeaten_30 rfl ?_
        refine w_getr 3 0 dX7_isUnbeaten_31 fl_X7_21 rfl (by decide) ?_
        refine w_getr 5 0 dX7_isUnbeaten_34 fl_X7_52 rfl (by decide) ?_
        refine w_aload_n dX7_isUnbeaten_37 rfl ?_
        refine w_iload_n dX7_isUnbeaten_38 rfl ?_
        refine w_iload_n dX7_isUnbeaten_39 rfl ?_
        refine w_callV (d := d + 1) (S := [aR 5 0]) [aI (x : Int), aI (c : Int)] dX7_isUnbeaten_40 ml_X7_76 ok_X7_votersFor vi_X7_votersFor rfl rfl (by decide) rfl (Nat.le_of_ble_eq_true rfl) ?_
        refine c_X7_votersFor (d := d) x c (by first | assumption | omega | decide) (by first | assumption | omega | decide) (by first | assumption | omega | decide) (by first | assumption | omega | decide) (by first | assumption | omega | decide) (by first | assumption | omega | decide) (by first | assumption | omega | decide) ?_
        show fwWP mX7_isUnbeaten (d + 2) 43 [some (aR 8 0), some (aI (x : Int)), some (aI (c : Int)), none] [aI (mVo h x c), aR 5 0] h Q
        refine w_callV (d := d + 1) (S := []) [aI (mVo h x c)] dX7_isUnbeaten_43 ml_X7_79 ok_X3_namesOf vi_X3_namesOf rfl rfl (by decide) rfl (Nat.le_of_ble_eq_true rfl) ?_
        refine c_X3_namesOf (d := d) 0 (mVo h x c) (by decide) (by first | assumption | omega | decide) ?_
        show fwWP mX7_isUnbeaten (d + 2) 46 [some (aR 8 0), some (aI (x : Int)), some (aI (c : Int)), none] [aI (mNames (h 18 0) (mVo h x c) (h 5 0 3).toNat)] h Q
        refine w_istore_n [some (aR 8 0), some (aI (x : Int)), some (aI (c : Int)), some (aI (mNames (h 18 0) (mVo h x c) (h 5 0 3).toNat))] dX7_isUnbeaten_46 rfl (by decide) ?_
        refine w_iload_n dX7_isUnbeaten_47 rfl ?_
        refine w_aload_n dX7_isUnbeaten_48 rfl ?_
        refine w_getr 3 0 dX7_isUnbeaten_49 fl_X7_21 rfl (by decide) ?_
        refine w_getr 5 0 dX7_isUnbeaten_52 fl_X7_52 rfl (by decide) ?_
        refine w_aload_n dX7_isUnbeaten_55 rfl ?_
        refine w_iload_n dX7_isUnbeaten_56 rfl ?_
        refine w_iload_n dX7_isUnbeaten_57 rfl ?_
        refine w_callV (d := d + 1) (S := [aR 5 0, aI (mNames (h 18 0) (mVo h x c) (h 5 0 3).toNat)]) [aI (c : Int), aI (x : Int)] dX7_isUnbeaten_58 ml_X7_76 ok_X7_votersFor vi_X7_votersFor rfl rfl (by decide) rfl (Nat.le_of_ble_eq_true rfl) ?_
        refine c_X7_votersFor (d := d) c x (by first | assumption | omega | decide) (by first | assumption | omega | decide) (by first | assumption | omega | decide) (by first | assumption | omega | decide) (by first | assumption | omega | decide) (by first | assumption | omega | decide) (by first | assumption | omega | decide) ?_
        show fwWP mX7_isUnbeaten (d + 2) 61 [some (aR 8 0), some (aI (x : Int)), some (aI (c : Int)), some (aI (mNames (h 18 0) (mVo h x c) (h 5 0 3).toNat))] [aI (mVo h c x), aR 5 0, aI (mNames (h 18 0) (mVo h x c) (h 5 0 3).toNat)] h Q
        refine w_callV (d := d + 1) (S := [aI (mNames (h 18 0) (mVo h x c) (h 5 0 3).toNat)]) [aI (mVo h c x)] dX7_isUnbeaten_61 ml_X7_79 ok_X3_namesOf vi_X3_namesOf rfl rfl (by decide) rfl (Nat.le_of_ble_eq_true rfl) ?_
        refine c_X3_namesOf (d := d) 0 (mVo h c x) (by decide) (by first | assumption | omega | decide) ?_
        show fwWP mX7_isUnbeaten (d + 2) 64 [some (aR 8 0), some (aI (x : Int)), some (aI (c : Int)), some (aI (mNames (h 18 0) (mVo h x c) (h 5 0 3).toNat))] [aI (mNames (h 18 0) (mVo h c x) (h 5 0 3).toNat), aI (mNames (h 18 0) (mVo h x c) (h 5 0 3).toNat)] h Q
        have hn1 : 0 ≤ mVoN h x c ∧ mVoN h x c ≤ 792 := mNames_r2 hP _
        have hn2 : 0 ≤ mVoN h c x ∧ mVoN h c x ≤ 792 := mNames_r2 hP _
        change fwWP mX7_isUnbeaten (d + 2) 64 [some (aR 8 0), some (aI (x : Int)), some (aI (c : Int)), some (aI (mVoN h x c))] [aI (mVoN h c x), aI (mVoN h x c)] h Q
        refine w_icmp_ge 69 dX7_isUnbeaten_64 (by decide) (by omega) (by omega) (fun c64 => ?_) (fun c64 => ?_)
        · refine w_iinc [some (aR 8 0), some (aI (x : Int)), some (aI ((c : Int) + 1)), some (aI (mVoN h x c))] dX7_isUnbeaten_69 rfl rfl (by decide) ?_
          refine w_goto 2 dX7_isUnbeaten_72 (by decide) ?_
          refine w_drop [3] [some (aR 8 0), some (aI (x : Int)), some (aI ((c : Int) + 1)), none] rfl ?_
          refine ih2 (by omega) _ ?_ ?_
          · exact (by omega)
          · exact (by rw [mAll, iv2_0, Bool.true_and]; unfold mUnB; simp only [decide_eq_true_eq]; omega)
        · refine w_iconst dX7_isUnbeaten_67 ?_
          exact w_zretE (P := mUnb h x) dX7_isUnbeaten_68 rfl (by rw [fwB_f (fun q => by have := (mAll_iff _ _).mp q c (by omega); unfold mUnB at this; simp only [decide_eq_true_eq] at this; omega)]) k
  refine lp2 0 (Nat.zero_le _) _ ?_ ?_
  · exact (by omega)
  · exact rfl
def mElB (h : fwH) (c : Nat) : Bool := decide (¬ (0 < h 17 0 c ∧ mUnb h c))
def mEl (h : fwH) : Int := if mFst (mElB h) (h 4 0 1).toNat = (h 4 0 1).toNat then -1 else (mFst (mElB h) (h 4 0 1).toNat : Int)
set_option maxRecDepth 100000 in
set_option maxHeartbeats 4000000 in
theorem c_X7_electedCell {d : Nat} {h : fwH} {Q : Option fwV → fwH → Prop}  (hP : pOk h 0) (hG : gOk h 0) (hn : 1 ≤ h 4 0 1) (hM : ∀ c : Nat, c < 10 → h 17 0 c ≤ 999) (k : Q (some (aI (mEl h))) (fwUc (fwUc (fwUc h 4 5 (h 4 0)) 17 5 (h 17 0)) 26 0 (mWt h (h 4 0 1).toNat))) : fwCt mX7_electedCell (d + 4) [aR 8 0] h Q := by
  refine fwCt_of [some (aR 8 0), none] rfl rfl rfl ?_
  obtain ⟨⟨g1, g2⟩, ⟨g3, g4⟩, ⟨g5, g6⟩, g7, g8⟩ := id hG
  have hpz := hP.1
  refine w_aload_n dX7_electedCell_0 rfl ?_
  refine w_callV (d := d + 3) (S := []) [] dX7_electedCell_1 ml_X7_69 ok_X7_weighCells vi_X7_weighCells rfl rfl (by decide) rfl (Nat.le_of_ble_eq_true rfl) ?_
  refine c_X7_weighCells (d := d) (by first | assumption | omega | decide) (by first | assumption | omega | decide) (by first | assumption | omega | decide) (by first | assumption | omega | decide) ?_
  show fwWP mX7_electedCell (d + 4) 4 [some (aR 8 0), none] [] (fwUc (fwUc (fwUc h 4 5 (h 4 0)) 17 5 (h 17 0)) 26 0 (mWt h (h 4 0 1).toNat)) Q
  have hW : mWok (fwUc (fwUc (fwUc h 4 5 (h 4 0)) 17 5 (h 17 0)) 26 0 (mWt h (h 4 0 1).toNat)) := fun c f hc h0 hf => mWt_at (by omega) _ c f hc h0 hf
  refine w_iconst dX7_electedCell_4 ?_
  refine w_istore_n [some (aR 8 0), some (aI 0)] dX7_electedCell_5 rfl (by decide) ?_
  have lp6 : ∀ c : Nat, c ≤ (h 4 0 1).toNat → ∀ (y6  : Int), y6 = (c : Int) → (mFst (mElB h) c = c) → fwWP mX7_electedCell (d + 4) 6 [some (aR 8 0), some (aI y6)] [] (fwUc (fwUc (fwUc h 4 5 (h 4 0)) 17 5 (h 17 0)) 26 0 (mWt h (h 4 0 1).toNat)) Q := by
    refine fw_up (fun c hc6 ih6 => ?_)
    intro y6  ey6 iv6_0
    subst ey6
    show fwWP mX7_electedCell (d + 4) 6 [some (aR 8 0), some (aI (c : Int))] [] (fwUc (fwUc (fwUc h 4 5 (h 4 0)) 17 5 (h 17 0)) 26 0 (mWt h (h 4 0 1).toNat)) Q
    refine w_iload_n dX7_electedCell_6 rfl ?_
    refine w_aload_n dX7_electedCell_7 rfl ?_
    refine w_getr 3 0 dX7_electedCell_8 fl_X7_21 rfl (by decide) ?_
    refine w_getr 4 0 dX7_electedCell_11 fl_X7_29 rfl (by decide) ?_
    refine w_getiE (v := h 4 0 1) dX7_electedCell_14 fl_X7_40 rfl (by decide) (by first | rfl | simp [fwUp, fwUc]) ?_
    refine w_icmp_ge 50 dX7_electedCell_17 (by decide) (by omega) (by omega) (fun c17 => ?_) (fun c17 => ?_)
    · have ec6 : (h 4 0 1).toNat = c := by omega
      subst ec6
      refine w_iconst dX7_electedCell_50 ?_
      exact w_iretE dX7_electedCell_51 rfl (by rw [mEl, if_pos iv6_0]) k
    · refine w_aload_n dX7_electedCell_20 rfl ?_
      refine w_getr 3 0 dX7_electedCell_21 fl_X7_21 rfl (by decide) ?_
      refine w_getr 4 0 dX7_electedCell_24 fl_X7_29 rfl (by decide) ?_
      refine w_iload_n dX7_electedCell_27 rfl ?_
      refine w_callV (d := d + 3) (S := []) [aI (c : Int)] dX7_electedCell_28 ml_X7_44 ok_X1_heightOf vi_X1_heightOf rfl rfl (by decide) rfl (Nat.le_of_ble_eq_true rfl) ?_
      refine c_X1_heightOfE (d := (d + 3)) 0 (c : Int) (h 17 0 c) (by decide) (by first | assumption | omega | decide) (by first | assumption | omega | decide) (hOf_in (n := h 4 0 1) (H := h 17 0) (by omega)) ?_
      show fwWP mX7_electedCell (d + 4) 31 [some (aR 8 0), some (aI (c : Int))] [aI (h 17 0 c)] (fwUc (fwUc (fwUc h 4 5 (h 4 0)) 17 5 (h 17 0)) 26 0 (mWt h (h 4 0 1).toNat)) Q
      have hc1 := g8 c (by omega)
      refine w_if_le 44 dX7_electedCell_31 (by decide) (by omega) (fun ch => ?_) (fun ch => ?_)
      · refine w_iinc [some (aR 8 0), some (aI ((c : Int) + 1))] dX7_electedCell_44 rfl rfl (by decide) ?_
        refine w_goto 6 dX7_electedCell_47 (by decide) ?_
        refine ih6 (by omega) _ ?_ ?_
        · exact (by omega)
        · exact (mFst_go iv6_0 (decide_eq_true (fun q => by first | omega | exact cu q.2)))
      · refine w_aload_n dX7_electedCell_34 rfl ?_
        refine w_iload_n dX7_electedCell_35 rfl ?_
        refine w_callV (d := d + 3) (S := []) [aI (c : Int)] dX7_electedCell_36 ml_X7_72 ok_X7_isUnbeaten vi_X7_isUnbeaten rfl rfl (by decide) rfl (Nat.le_of_ble_eq_true rfl) ?_
        refine c_X7_isUnbeaten (d := (d + 1)) c (by first | assumption | omega | decide) (by first | assumption | omega | decide) (by first | assumption | omega | decide) (by first | assumption | omega | decide) (by first | assumption | omega | decide) ?_
        show fwWP mX7_electedCell (d + 4) 39 [some (aR 8 0), some (aI (c : Int))] [aI (fwB (mUnb (fwUc (fwUc (fwUc h 4 5 (h 4 0)) 17 5 (h 17 0)) 26 0 (mWt h (h 4 0 1).toNat)) c))] (fwUc (fwUc (fwUc h 4 5 (h 4 0)) 17 5 (h 17 0)) 26 0 (mWt h (h 4 0 1).toNat)) Q
        refine w_ifB_eq 44 dX7_electedCell_39 (by decide) (fun cu => ?_) (fun cu => ?_)
        · refine w_iinc [some (aR 8 0), some (aI ((c : Int) + 1))] dX7_electedCell_44 rfl rfl (by decide) ?_
          refine w_goto 6 dX7_electedCell_47 (by decide) ?_
          refine ih6 (by omega) _ ?_ ?_
          · exact (by omega)
          · exact (mFst_go iv6_0 (decide_eq_true (fun q => by first | omega | exact cu q.2)))
        · refine w_iload_n dX7_electedCell_42 rfl ?_
          have est := mFst_stop iv6_0 (show ¬ mElB h c = true from fun q => (of_decide_eq_true q) ⟨by omega, cu⟩) ((h 4 0 1).toNat - c)
          rw [show c + ((h 4 0 1).toNat - c) = (h 4 0 1).toNat by omega] at est
          exact w_iretE dX7_electedCell_43 rfl (by rw [mEl, if_neg (by omega), est]) k
  refine lp6 0 (Nat.zero_le _) _ ?_ ?_
  · exact (by omega)
  · exact rfl
theorem mSum_rng {H : Nat → Int} {b : Int} : ∀ c : Nat, (∀ j, j < c → 0 ≤ H j ∧ H j ≤ b) → 0 ≤ mSum H c ∧ mSum H c ≤ b * c := by
  intro c
  induction c with
  | zero => intro _; simp [mSum]
  | succ c ih =>
    intro hj
    have h1 := ih (fun j hj2 => hj j (by omega))
    have h2 := hj c (by omega)
    rw [mSum, show b * ((c + 1 : Nat) : Int) = b * c + b by rw [Int.natCast_add, Int.mul_add]; simp]
    omega
set_option maxRecDepth 100000 in
set_option maxHeartbeats 4000000 in
theorem c_X7_canShape {d : Nat} {h : fwH} {Q : Option fwV → fwH → Prop} (x : Int) (hl : 0 ≤ h 3 0 6 ∧ h 3 0 6 ≤ 1000) (hP : pOk h 0) (hG : gOk h 0) (hx : -2147483648 ≤ x ∧ x < 2147483648) (k : Q (some (aI (fwB (0 < h 3 0 6 ∧ 0 ≤ x ∧ x ≤ 3 ∧ x ≤ mSum (h 17 0) (h 4 0 1).toNat)))) h) : fwCt mX7_canShape (d + 2) [aR 8 0, aI x] h Q := by
  refine fwCt_of [some (aR 8 0), some (aI x)] rfl rfl rfl ?_
  obtain ⟨⟨g1, g2⟩, ⟨g3, g4⟩, ⟨g5, g6⟩, g7, g8⟩ := id hG
  have hpz := hP.1
  refine w_aload_n dX7_canShape_0 rfl ?_
  refine w_getr 3 0 dX7_canShape_1 fl_X7_21 rfl (by decide) ?_
  refine w_callV (d := d + 1) (S := []) [] dX7_canShape_4 ml_X7_82 ok_X2_isTold vi_X2_isTold rfl rfl (by decide) rfl (Nat.le_of_ble_eq_true rfl) ?_
  refine c_X2_isTold (d := (d + 1)) (show 0 ≤ h 3 0 6 ∧ h 3 0 6 ≤ 1000 by first | assumption | omega | decide) ?_
  show fwWP mX7_canShape (d + 2) 7 [some (aR 8 0), some (aI x)] [aI (fwB (0 < h 3 0 6))] h Q
  refine w_ifB_eq 37 dX7_canShape_7 (by decide) (fun c7 => ?_) (fun c7 => ?_)
  · refine w_iconst dX7_canShape_37 ?_
    exact w_zretE dX7_canShape_38 rfl (by first | (exfalso; omega) | (rw [fwB_t (by omega)]) | (rw [fwB_f (by omega)])) k
  · refine w_iload_n dX7_canShape_10 rfl ?_
    refine w_if_lt 37 dX7_canShape_11 (by decide) (by omega) (fun c11 => ?_) (fun c11 => ?_)
    · refine w_iconst dX7_canShape_37 ?_
      exact w_zretE dX7_canShape_38 rfl (by first | (exfalso; omega) | (rw [fwB_t (by omega)]) | (rw [fwB_f (by omega)])) k
    · refine w_iload_n dX7_canShape_14 rfl ?_
      refine w_iconst dX7_canShape_15 ?_
      refine w_icmp_gt 37 dX7_canShape_16 (by decide) (by omega) (by omega) (fun c16 => ?_) (fun c16 => ?_)
      · refine w_iconst dX7_canShape_37 ?_
        exact w_zretE dX7_canShape_38 rfl (by first | (exfalso; omega) | (rw [fwB_t (by omega)]) | (rw [fwB_f (by omega)])) k
      · refine w_aload_n dX7_canShape_19 rfl ?_
        refine w_getr 3 0 dX7_canShape_20 fl_X7_21 rfl (by decide) ?_
        refine w_getr 4 0 dX7_canShape_23 fl_X7_29 rfl (by decide) ?_
        refine w_callV (d := d + 1) (S := []) [] dX7_canShape_26 ml_X7_86 ok_X1_feetInAll vi_X1_feetInAll rfl rfl (by decide) rfl (Nat.le_of_ble_eq_true rfl) ?_
        refine c_X1_feetInAll (d := d) 0  (by decide) (by first | assumption | omega | decide) ?_
        show fwWP mX7_canShape (d + 2) 29 [some (aR 8 0), some (aI x)] [aI (mSum (h 17 0) (h 4 0 1).toNat)] h Q
        have hsm := mSum_rng (H := h 17 0) (b := 1000) (h 4 0 1).toNat (fun j hj => g8 j (by omega))
        refine w_iload_n dX7_canShape_29 rfl ?_
        refine w_icmp_lt 37 dX7_canShape_30 (by decide) (by omega) (by omega) (fun c30 => ?_) (fun c30 => ?_)
        · refine w_iconst dX7_canShape_37 ?_
          exact w_zretE dX7_canShape_38 rfl (by first | (exfalso; omega) | (rw [fwB_t (by omega)]) | (rw [fwB_f (by omega)])) k
        · refine w_iconst dX7_canShape_33 ?_
          refine w_goto 38 dX7_canShape_34 (by decide) ?_
          exact w_zretE dX7_canShape_38 rfl (by first | (exfalso; omega) | (rw [fwB_t (by omega)]) | (rw [fwB_f (by omega)])) k
set_option maxRecDepth 100000 in
set_option maxHeartbeats 4000000 in
theorem c_X7_shapedCell {d : Nat} {h : fwH} {Q : Option fwV → fwH → Prop} (x : Int) (hx : 0 ≤ x ∧ x < 3) (k : Q (some (aI (h 28 0 x.toNat))) h) : fwCt mX7_shapedCell (d + 0) [aR 8 0, aI x] h Q := by
  refine fwCt_of [some (aR 8 0), some (aI x)] rfl rfl rfl ?_
  refine w_iload_n dX7_shapedCell_0 rfl ?_
  refine w_if_lt 22 dX7_shapedCell_1 (by decide) (by omega) (fun c1 => ?_) (fun c1 => ?_)
  · (exfalso; omega)
  · refine w_iload_n dX7_shapedCell_4 rfl ?_
    refine w_aload_n dX7_shapedCell_5 rfl ?_
    refine w_getr 28 0 dX7_shapedCell_6 fl_X7_18 rfl (by decide) ?_
    refine w_alen dX7_shapedCell_9 rfl (by decide) (by decide) ?_
    refine w_icmp_ge 22 dX7_shapedCell_10 (by decide) (by omega) (by omega) (fun c10 => ?_) (fun c10 => ?_)
    · (exfalso; omega)
    · refine w_aload_n dX7_shapedCell_13 rfl ?_
      refine w_getr 28 0 dX7_shapedCell_14 fl_X7_18 rfl (by decide) ?_
      refine w_iload_n dX7_shapedCell_17 rfl ?_
      refine w_iald dX7_shapedCell_18 rfl (by decide) (by omega) (by omega) ?_
      refine w_goto 23 dX7_shapedCell_19 (by decide) ?_
      exact w_iretE dX7_shapedCell_23 rfl (by rfl) k
abbrev fwSt := (Nat → Int) × Int × Int × (Nat → Int)
/-- the way, whether one was found, its GAINS, the best way -/
def mKeep (g : Int) (s : fwSt) : fwSt := if s.2.1 ≠ 0 ∧ g ≤ s.2.2.1 then s else (s.1, 1, g, s.1)
def mSeL (R : Nat → (Nat → Int) → fwSt → fwSt) (d fr : Nat) (H : Nat → Int) (s0 : fwSt) : Nat → fwSt
  | 0 => s0
  | j + 1 => if 0 < H (fr + j) then R (fr + j) (fwFu H (fr + j) (H (fr + j) + -1)) (fwFu (mSeL R d fr H s0 j).1 d ((fr + j : Nat) : Int), (mSeL R d fr H s0 j).2) else mSeL R d fr H s0 j
def mSe (G : (Nat → Int) → Int) (nc : Nat) : Nat → Nat → Nat → (Nat → Int) → fwSt → fwSt
  | 0, _, _, H, s => mKeep (G H) s
  | k + 1, d, fr, H, s => mSeL (mSe G nc k (d + 1)) d fr H s (nc - fr)
def seF (g : Nat → Int) (bg fd : Int) : Nat → Int := fwFu (fwFu g 5 bg) 6 fd
theorem seF_seF (g : Nat → Int) (a b c d : Int) : seF (seF g a b) c d = seF g c d := by
  funext s
  unfold seF fwFu
  by_cases e6 : s = 6
  · simp [e6]
  · by_cases e5 : s = 5
    · simp [e5]
    · simp [e5, e6]
theorem seF_self (g : Nat → Int) : seF g (g 5) (g 6) = g := by
  funext s
  unfold seF fwFu
  by_cases e6 : s = 6
  · subst e6; simp
  · by_cases e5 : s = 5
    · subst e5; simp
    · simp [e5, e6]
abbrev stOk (s : fwSt) : Prop := (s.2.1 = 0 ∨ s.2.1 = 1) ∧ 0 ≤ s.2.2.1 ∧ s.2.2.1 ≤ 300000
theorem mKeep_ok {g : Int} {s : fwSt} (hg : 0 ≤ g ∧ g ≤ 300000) (hs : stOk s) : stOk (mKeep g s) := by
  unfold mKeep
  split
  · exact hs
  · exact ⟨Or.inr rfl, hg⟩
theorem mSe_ok {G : (Nat → Int) → Int} {nc : Nat} (hnc : nc ≤ 10) (hG : ∀ H : Nat → Int, (∀ c : Nat, c < 10 → 0 ≤ H c ∧ H c ≤ 1000) → 0 ≤ G H ∧ G H ≤ 300000) : ∀ (k d fr : Nat) (H : Nat → Int) (s : fwSt), (∀ c : Nat, c < 10 → 0 ≤ H c ∧ H c ≤ 1000) → stOk s → stOk (mSe G nc k d fr H s) := by
  intro k
  induction k with
  | zero => intro d fr H s hH hs; exact mKeep_ok (hG H hH) hs
  | succ k ih =>
    intro d fr H s hH hs
    rw [mSe]
    have key : ∀ j, fr + j ≤ 10 → stOk (mSeL (mSe G nc k (d + 1)) d fr H s j) := by
      intro j
      induction j with
      | zero => intro _; exact hs
      | succ j ihj =>
        intro hj
        have h1 := ihj (by omega)
        rw [mSeL]
        split
        · rename_i q
          have h2 := hH (fr + j) (by omega)
          exact ih _ _ _ _ (fwFu_rng hH (by omega)) h1
        · exact h1
    rcases Nat.lt_or_ge nc fr with q | q
    · rw [show nc - fr = 0 by omega]; exact hs
    · exact key _ (by omega)
theorem mSeL_ok {G : (Nat → Int) → Int} {nc : Nat} (hnc : nc ≤ 10) (hG : ∀ H : Nat → Int, (∀ c : Nat, c < 10 → 0 ≤ H c ∧ H c ≤ 1000) → 0 ≤ G H ∧ G H ≤ 300000) (k d fr : Nat) (H : Nat → Int) (s : fwSt) (hH : ∀ c : Nat, c < 10 → 0 ≤ H c ∧ H c ≤ 1000) (hs : stOk s) : ∀ j, fr + j ≤ 10 → stOk (mSeL (mSe G nc k (d + 1)) d fr H s j) := by
  intro j
  induction j with
  | zero => intro _; exact hs
  | succ j ihj =>
    intro hj
    have h1 := ihj (by omega)
    rw [mSeL]
    split
    · rename_i q
      have h2 := hH (fr + j) (by omega)
      exact mSe_ok hnc hG _ _ _ _ _ (fwFu_rng hH (by omega)) h1
    · exact h1
/-- GAINS of all FOLK with the heights H -/
def mGt (h : fwH) (H : Nat → Int) : Int := mSum (mGain (h 4 0 1) H (h 4 0 2) (h 18 0)) (h 5 0 3).toNat
/-- the same on the trial ground -/
def mGt5 (h : fwH) (H : Nat → Int) : Int := mSum (mGain (h 4 5 1) H (h 4 5 2) (h 18 0)) (h 5 0 3).toNat
theorem mGt5_rng {h : fwH} (hP : pOk h 0) (hn : h 4 5 1 ≤ 10) : ∀ H : Nat → Int, (∀ c : Nat, c < 10 → 0 ≤ H c ∧ H c ≤ 1000) → 0 ≤ mGt5 h H ∧ mGt5 h H ≤ 300000 := by
  intro H hH
  have := mSum_rng (H := mGain (h 4 5 1) H (h 4 5 2) (h 18 0)) (b := 27000) (h 5 0 3).toNat (fun f hf => by
    have hp := hP.1
    have h1 := hP.2 f (by omega)
    exact mGain_rng hn hH h1.2.2.1 h1.2.2.2.1 h1.2.2.2.2.1)
  have hp := hP.1
  unfold mGt5
  omega
theorem mGt_rng {h : fwH} (hP : pOk h 0) (hn : h 4 0 1 ≤ 10) : ∀ H : Nat → Int, (∀ c : Nat, c < 10 → 0 ≤ H c ∧ H c ≤ 1000) → 0 ≤ mGt h H ∧ mGt h H ≤ 300000 := by
  intro H hH
  have := mSum_rng (H := mGain (h 4 0 1) H (h 4 0 2) (h 18 0)) (b := 27000) (h 5 0 3).toNat (fun f hf => by
    have hp := hP.1
    have h1 := hP.2 f (by omega)
    exact mGain_rng hn hH h1.2.2.1 h1.2.2.2.1 h1.2.2.2.2.1)
  have hp := hP.1
  unfold mGt
  omega
abbrev stOf (h : fwH) : fwSt := (h 27 0, h 8 0 6, h 8 0 5, h 28 0)
/-- the heap with a state of the search -/
def seH (h : fwH) (H : Nat → Int) (s : fwSt) (A : Nat → Int) : fwH := fwUc (fwUc (fwUc (fwUc (fwUc h 8 0 (seF (h 8 0) s.2.2.1 s.2.1)) 17 5 H) 20 0 A) 27 0 s.1) 28 0 s.2.2.2
theorem seH_self (h : fwH) (A : Nat → Int) : seH h (h 17 5) (stOf h) A = fwUc h 20 0 A := by
  unfold seH stOf
  dsimp only
  rw [seF_self, fwUc_self, fwUc_self]
  rw [show fwUc (fwUc h 20 0 A) 27 0 (h 27 0) = fwUc h 20 0 A from fwUc_self (fwUc h 20 0 A) 27 0]
  exact fwUc_self (fwUc h 20 0 A) 28 0
theorem seH_self' (h : fwH) : seH h (h 17 5) (stOf h) (h 20 0) = h := by rw [seH_self, fwUc_self]
theorem fwKeepE (h : fwH) (A : Nat → Int) (g : Int) : fwUc (fwUp (fwUp (fwUc h 20 0 A) 8 0 6 1) 8 0 5 g) 28 0 (h 27 0) = seH h (h 17 5) (h 27 0, 1, g, h 27 0) A := by
  have e1 : fwUp (fwUp (fwUc h 20 0 A) 8 0 6 1) 8 0 5 g = fwUc (fwUc h 20 0 A) 8 0 (seF (h 8 0) g 1) := by
    rw [fwUp_fu (fwUc h 20 0 A) 8 0 6 1, fwUp_uc]
    refine congrArg (fwUc (fwUc h 20 0 A) 8 0) ?_
    funext s
    show fwFu (fwFu (h 8 0) 6 1) 5 g s = seF (h 8 0) g 1 s
    unfold seF fwFu
    by_cases e5 : s = 5
    · simp [e5]
    · by_cases e6 : s = 6
      · simp [e6]
      · simp [e5, e6]
  rw [e1]
  unfold seH
  dsimp only
  rw [show fwUc (fwUc h 8 0 (seF (h 8 0) g 1)) 17 5 (h 17 5) = fwUc h 8 0 (seF (h 8 0) g 1) from fwUc_self (fwUc h 8 0 (seF (h 8 0) g 1)) 17 5]
  rw [show fwUc (fwUc (fwUc h 8 0 (seF (h 8 0) g 1)) 20 0 A) 27 0 (h 27 0) = fwUc (fwUc h 8 0 (seF (h 8 0) g 1)) 20 0 A from fwUc_self (fwUc (fwUc h 8 0 (seF (h 8 0) g 1)) 20 0 A) 27 0]
  rw [fwUc_comm h (k := 20) (i := 0) (k' := 8) (i' := 0) A _ (by decide)]
set_option maxRecDepth 100000 in
set_option maxHeartbeats 4000000 in
theorem c_X7_keepIfBetter {d : Nat} {h : fwH} {Q : Option fwV → fwH → Prop}  (hP : pOk h 0) (hG : gOk h 5) (hS : stOk (stOf h)) (k : ∀ A, Q none (seH h (h 17 5) (mKeep (mGt5 h (h 17 5)) (stOf h)) A)) : fwCt mX7_keepIfBetter (d + 4) [aR 8 0] h Q := by
  refine fwCt_of [some (aR 8 0), none, none] rfl rfl rfl ?_
  obtain ⟨⟨g1, g2⟩, ⟨g3, g4⟩, ⟨g5, g6⟩, g7, g8⟩ := id hG
  obtain ⟨s1, s2, s3⟩ := id hS
  dsimp only [stOf] at s1 s2 s3
  refine w_aload_n dX7_keepIfBetter_0 rfl ?_
  refine w_getr 3 0 dX7_keepIfBetter_1 fl_X7_21 rfl (by decide) ?_
  refine w_getr 5 0 dX7_keepIfBetter_4 fl_X7_52 rfl (by decide) ?_
  refine w_aload_n dX7_keepIfBetter_7 rfl ?_
  refine w_getr 4 5 dX7_keepIfBetter_8 fl_X7_25 rfl (by decide) ?_
  refine w_callV (d := d + 3) (S := []) [aR 4 5] dX7_keepIfBetter_11 ml_X7_104 ok_X3_gainsOn vi_X3_gainsOn rfl rfl (by decide) rfl (Nat.le_of_ble_eq_true rfl) ?_
  refine c_X3_gainsOn (d := d) 0 5 (by decide) (by decide) (by first | assumption | omega | decide) (by first | assumption | omega | decide) ?_
  intro A1
  show fwWP mX7_keepIfBetter (d + 4) 14 [some (aR 8 0), none, none] [aI (mSum (mGain (h 4 5 1) (h 17 5) (h 4 5 2) (h 18 0)) (h 5 0 3).toNat)] (fwUc h 20 0 A1) Q
  have hgr : 0 ≤ mGt5 h (h 17 5) ∧ mGt5 h (h 17 5) ≤ 300000 := mGt5_rng hP g2 _ g8
  change fwWP mX7_keepIfBetter (d + 4) 14 [some (aR 8 0), none, none] [aI (mGt5 h (h 17 5))] (fwUc h 20 0 A1) Q
  refine w_istore_n [some (aR 8 0), some (aI (mGt5 h (h 17 5))), none] dX7_keepIfBetter_14 rfl (by decide) ?_
  refine w_aload_n dX7_keepIfBetter_15 rfl ?_
  refine w_getiE (v := h 8 0 6) dX7_keepIfBetter_16 fl_X7_90 rfl (by decide) rfl ?_
  refine w_if_eq 31 dX7_keepIfBetter_19 (by decide) (by omega) (fun c19 => ?_) (fun c19 => ?_)
  · refine w_aload_n dX7_keepIfBetter_31 rfl ?_
    refine w_iconst dX7_keepIfBetter_32 ?_
    refine w_putz dX7_keepIfBetter_33 fl_X7_90 fp_8_6 rfl (by first | omega | exact fwB_01 _) (by decide) ?_
    refine w_aload_n dX7_keepIfBetter_36 rfl ?_
    refine w_iload_n dX7_keepIfBetter_37 rfl ?_
    refine w_puti dX7_keepIfBetter_38 fl_X7_98 fp_8_5 rfl (by decide) ?_
    refine w_iconst dX7_keepIfBetter_41 ?_
    refine w_istore_n [some (aR 8 0), some (aI (mGt5 h (h 17 5))), some (aI 0)] dX7_keepIfBetter_42 rfl (by decide) ?_
    have lp43 : ∀ c : Nat, c ≤ 3 → ∀ (y43  : Int) (hh43 : fwH), y43 = (c : Int) → hh43 = (fwUc (fwUp (fwUp (fwUc h 20 0 A1) 8 0 6 1) 8 0 5 (mGt5 h (h 17 5))) 28 0 (fwFl (h 27 0) (h 28 0) c)) → fwWP mX7_keepIfBetter (d + 4) 43 [some (aR 8 0), some (aI (mGt5 h (h 17 5))), some (aI y43)] [] hh43 Q := by
      refine fw_up (fun c hc43 ih43 => ?_)
      intro y43  hh43 ey43 eh43
      subst ey43
      subst eh43
      show fwWP mX7_keepIfBetter (d + 4) 43 [some (aR 8 0), some (aI (mGt5 h (h 17 5))), some (aI (c : Int))] [] (fwUc (fwUp (fwUp (fwUc h 20 0 A1) 8 0 6 1) 8 0 5 (mGt5 h (h 17 5))) 28 0 (fwFl (h 27 0) (h 28 0) c)) Q
      refine w_iload_n dX7_keepIfBetter_43 rfl ?_
      refine w_iconst dX7_keepIfBetter_44 ?_
      refine w_icmp_ge 66 dX7_keepIfBetter_45 (by decide) (by omega) (by omega) (fun c45 => ?_) (fun c45 => ?_)
      · have ec43 : 3 = c := by omega
        subst ec43
        have k9 := k A1
        rw [show mKeep (mGt5 h (h 17 5)) (stOf h) = (h 27 0, 1, mGt5 h (h 17 5), h 27 0) from by rw [mKeep, if_neg (by intro q; have q1 : h 8 0 6 ≠ 0 := q.1; have q2 : mGt5 h (h 17 5) ≤ h 8 0 5 := q.2; omega)]] at k9
        refine w_heq _ (fwFl_all (by decide)) ?_
        rw [show (fwUc (fwUp (fwUp (fwUc h 20 0 A1) 8 0 6 1) 8 0 5 (mGt5 h (h 17 5))) 28 0 (h 27 0)) = seH h (h 17 5) (h 27 0, 1, mGt5 h (h 17 5), h 27 0) A1 from fwKeepE h A1 _]
        exact w_vret dX7_keepIfBetter_66 rfl k9
      · refine w_aload_n dX7_keepIfBetter_48 rfl ?_
        refine w_getr 28 0 dX7_keepIfBetter_49 fl_X7_18 rfl (by decide) ?_
        refine w_iload_n dX7_keepIfBetter_52 rfl ?_
        refine w_aload_n dX7_keepIfBetter_53 rfl ?_
        refine w_getr 27 0 dX7_keepIfBetter_54 fl_X7_15 rfl (by decide) ?_
        refine w_iload_n dX7_keepIfBetter_57 rfl ?_
        refine w_ialdE (v := h 27 0 c) dX7_keepIfBetter_58 rfl (by decide) (by omega) (by omega) rfl ?_
        refine w_iast dX7_keepIfBetter_59 rfl (by decide) (by omega) (by omega) ?_
        refine w_iinc [some (aR 8 0), some (aI (mGt5 h (h 17 5))), some (aI ((c : Int) + 1))] dX7_keepIfBetter_60 rfl rfl (by decide) ?_
        refine w_goto 43 dX7_keepIfBetter_63 (by decide) ?_
        refine ih43 (by omega) _ _ ?_ ?_
        · exact (by omega)
        · exact (by rw [fwUp_uc, Int.toNat_natCast]; exact congrArg _ (fwFl_succ (h 27 0) (h 28 0) c))
    refine lp43 0 (Nat.zero_le _) _ _ ?_ ?_
    · exact (by omega)
    · exact (by rw [fwFl_0]; exact (fwUc_self _ 28 0).symm)
  · refine w_iload_n dX7_keepIfBetter_22 rfl ?_
    refine w_aload_n dX7_keepIfBetter_23 rfl ?_
    refine w_getiE (v := h 8 0 5) dX7_keepIfBetter_24 fl_X7_98 rfl (by decide) rfl ?_
    refine w_icmp_gt 31 dX7_keepIfBetter_27 (by decide) (by omega) (by omega) (fun c27 => ?_) (fun c27 => ?_)
    · refine w_aload_n dX7_keepIfBetter_31 rfl ?_
      refine w_iconst dX7_keepIfBetter_32 ?_
      refine w_putz dX7_keepIfBetter_33 fl_X7_90 fp_8_6 rfl (by first | omega | exact fwB_01 _) (by decide) ?_
      refine w_aload_n dX7_keepIfBetter_36 rfl ?_
      refine w_iload_n dX7_keepIfBetter_37 rfl ?_
      refine w_puti dX7_keepIfBetter_38 fl_X7_98 fp_8_5 rfl (by decide) ?_
      refine w_iconst dX7_keepIfBetter_41 ?_
      refine w_istore_n [some (aR 8 0), some (aI (mGt5 h (h 17 5))), some (aI 0)] dX7_keepIfBetter_42 rfl (by decide) ?_
      have lp43 : ∀ c : Nat, c ≤ 3 → ∀ (y43  : Int) (hh43 : fwH), y43 = (c : Int) → hh43 = (fwUc (fwUp (fwUp (fwUc h 20 0 A1) 8 0 6 1) 8 0 5 (mGt5 h (h 17 5))) 28 0 (fwFl (h 27 0) (h 28 0) c)) → fwWP mX7_keepIfBetter (d + 4) 43 [some (aR 8 0), some (aI (mGt5 h (h 17 5))), some (aI y43)] [] hh43 Q := by
        refine fw_up (fun c hc43 ih43 => ?_)
        intro y43  hh43 ey43 eh43
        subst ey43
        subst eh43
        show fwWP mX7_keepIfBetter (d + 4) 43 [some (aR 8 0), some (aI (mGt5 h (h 17 5))), some (aI (c : Int))] [] (fwUc (fwUp (fwUp (fwUc h 20 0 A1) 8 0 6 1) 8 0 5 (mGt5 h (h 17 5))) 28 0 (fwFl (h 27 0) (h 28 0) c)) Q
        refine w_iload_n dX7_keepIfBetter_43 rfl ?_
        refine w_iconst dX7_keepIfBetter_44 ?_
        refine w_icmp_ge 66 dX7_keepIfBetter_45 (by decide) (by omega) (by omega) (fun c45 => ?_) (fun c45 => ?_)
        · have ec43 : 3 = c := by omega
          subst ec43
          have k9 := k A1
          rw [show mKeep (mGt5 h (h 17 5)) (stOf h) = (h 27 0, 1, mGt5 h (h 17 5), h 27 0) from by rw [mKeep, if_neg (by intro q; have q1 : h 8 0 6 ≠ 0 := q.1; have q2 : mGt5 h (h 17 5) ≤ h 8 0 5 := q.2; omega)]] at k9
          refine w_heq _ (fwFl_all (by decide)) ?_
          rw [show (fwUc (fwUp (fwUp (fwUc h 20 0 A1) 8 0 6 1) 8 0 5 (mGt5 h (h 17 5))) 28 0 (h 27 0)) = seH h (h 17 5) (h 27 0, 1, mGt5 h (h 17 5), h 27 0) A1 from fwKeepE h A1 _]
          exact w_vret dX7_keepIfBetter_66 rfl k9
        · refine w_aload_n dX7_keepIfBetter_48 rfl ?_
          refine w_getr 28 0 dX7_keepIfBetter_49 fl_X7_18 rfl (by decide) ?_
          refine w_iload_n dX7_keepIfBetter_52 rfl ?_
          refine w_aload_n dX7_keepIfBetter_53 rfl ?_
          refine w_getr 27 0 dX7_keepIfBetter_54 fl_X7_15 rfl (by decide) ?_
          refine w_iload_n dX7_keepIfBetter_57 rfl ?_
          refine w_ialdE (v := h 27 0 c) dX7_keepIfBetter_58 rfl (by decide) (by omega) (by omega) rfl ?_
          refine w_iast dX7_keepIfBetter_59 rfl (by decide) (by omega) (by omega) ?_
          refine w_iinc [some (aR 8 0), some (aI (mGt5 h (h 17 5))), some (aI ((c : Int) + 1))] dX7_keepIfBetter_60 rfl rfl (by decide) ?_
          refine w_goto 43 dX7_keepIfBetter_63 (by decide) ?_
          refine ih43 (by omega) _ _ ?_ ?_
          · exact (by omega)
          · exact (by rw [fwUp_uc, Int.toNat_natCast]; exact congrArg _ (fwFl_succ (h 27 0) (h 28 0) c))
      refine lp43 0 (Nat.zero_le _) _ _ ?_ ?_
      · exact (by omega)
      · exact (by rw [fwFl_0]; exact (fwUc_self _ 28 0).symm)
    · have k9 := k A1
      rw [show mKeep (mGt5 h (h 17 5)) (stOf h) = stOf h from by rw [mKeep, if_pos ⟨by assumption, by omega⟩], seH_self] at k9
      exact w_vret dX7_keepIfBetter_30 rfl k9
set_option maxRecDepth 100000 in
set_option maxHeartbeats 4000000 in
theorem c_search0 {d : Nat} {h : fwH} {Q : Option fwV → fwH → Prop} (dp fr : Nat) (hP : pOk h 0) (hG : gOk h 5) (hS : stOk (stOf h)) (hd : dp + 0 ≤ 3) (hfr : (fr : Int) ≤ h 4 5 1) (k : ∀ A, Q none (seH h (h 17 5) (mSe (mGt5 h) (h 4 5 1).toNat 0 dp fr (h 17 5) (stOf h)) A)) : fwCt mX7_search (d + 5) [aR 8 0, aI ((dp : Int) + 0), aI (dp : Int), aI (fr : Int)] h Q := by
  refine fwCt_of [some (aR 8 0), some (aI ((dp : Int) + 0)), some (aI (dp : Int)), some (aI (fr : Int)), none] rfl rfl rfl ?_
  refine w_iload_n dX7_search_0 rfl ?_
  refine w_iload_n dX7_search_1 rfl ?_
  refine w_icmp_ge 10 dX7_search_2 (by decide) (by omega) (by omega) (fun c2 => ?_) (fun c2 => ?_)
  · refine w_aload_n dX7_search_10 rfl ?_
    refine w_callV (d := d + 4) (S := []) [] dX7_search_11 ml_X7_101 ok_X7_keepIfBetter vi_X7_keepIfBetter rfl rfl (by decide) rfl (Nat.le_of_ble_eq_true rfl) ?_
    refine c_X7_keepIfBetter (d := d) (by first | assumption | omega | decide) (by first | assumption | omega | decide) (by first | assumption | omega | decide) ?_
    intro A1
    show fwWP mX7_search (d + 5) 14 [some (aR 8 0), some (aI ((dp : Int) + 0)), some (aI (dp : Int)), some (aI (fr : Int)), none] [] (seH h (h 17 5) (mKeep (mGt5 h (h 17 5)) (stOf h)) A1) Q
    exact w_vret dX7_search_14 rfl (k _)
  · (exfalso; omega)
theorem c_search0E {d : Nat} {h : fwH} {Q : Option fwV → fwH → Prop} (dp fr : Nat) (n x y : Int) (en : n = (dp : Int) + 0) (ex : x = (dp : Int)) (ey : y = (fr : Int)) (hP : pOk h 0) (hG : gOk h 5) (hS : stOk (stOf h)) (hd : dp + 0 ≤ 3) (hfr : (fr : Int) ≤ h 4 5 1) (k : ∀ A, Q none (seH h (h 17 5) (mSe (mGt5 h) (h 4 5 1).toNat 0 dp fr (h 17 5) (stOf h)) A)) : fwCt mX7_search (d + 5) [aR 8 0, aI n, aI x, aI y] h Q := by
  subst en ex ey
  exact c_search0 dp fr hP hG hS hd hfr k
set_option maxRecDepth 100000 in
set_option maxHeartbeats 4000000 in
theorem c_search1 {d : Nat} {h : fwH} {Q : Option fwV → fwH → Prop} (dp fr : Nat) (hP : pOk h 0) (hG : gOk h 5) (hS : stOk (stOf h)) (hd : dp + 1 ≤ 3) (hfr : (fr : Int) ≤ h 4 5 1) (k : ∀ A, Q none (seH h (h 17 5) (mSe (mGt5 h) (h 4 5 1).toNat 1 dp fr (h 17 5) (stOf h)) A)) : fwCt mX7_search (d + 6) [aR 8 0, aI ((dp : Int) + 1), aI (dp : Int), aI (fr : Int)] h Q := by
  refine fwCt_of [some (aR 8 0), some (aI ((dp : Int) + 1)), some (aI (dp : Int)), some (aI (fr : Int)), none] rfl rfl rfl ?_
  obtain ⟨⟨g1, g2⟩, ⟨g3, g4⟩, ⟨g5, g6⟩, g7, g8⟩ := id hG
  refine w_iload_n dX7_search_0 rfl ?_
  refine w_iload_n dX7_search_1 rfl ?_
  refine w_icmp_ge 10 dX7_search_2 (by decide) (by omega) (by omega) (fun c2 => ?_) (fun c2 => ?_)
  · (exfalso; omega)
  · refine w_iload_n dX7_search_5 rfl ?_
    refine w_iconst dX7_search_6 ?_
    refine w_icmp_lt 15 dX7_search_7 (by decide) (by omega) (by omega) (fun c7 => ?_) (fun c7 => ?_)
    · refine w_iload_n dX7_search_15 rfl ?_
      refine w_istore [some (aR 8 0), some (aI ((dp : Int) + 1)), some (aI (dp : Int)), some (aI (fr : Int)), some (aI (fr : Int))] dX7_search_16 rfl (by decide) ?_
      have lp18 : ∀ j : Nat, j ≤ ((h 4 5 1).toNat - fr) → ∀ (y18  : Int) (hh18 : fwH), y18 = (fr : Int) + (j : Int) → (∃ A : Nat → Int, hh18 = (fwUc (fwUc (fwUc (fwUc (fwUc h 8 0 (seF (h 8 0) (mSeL (mSe (mGt5 h) (h 4 5 1).toNat 0 (dp + 1)) dp fr (h 17 5) (stOf h) j).2.2.1 (mSeL (mSe (mGt5 h) (h 4 5 1).toNat 0 (dp + 1)) dp fr (h 17 5) (stOf h) j).2.1)) 17 5 (h 17 5)) 20 0 A) 27 0 (mSeL (mSe (mGt5 h) (h 4 5 1).toNat 0 (dp + 1)) dp fr (h 17 5) (stOf h) j).1) 28 0 (mSeL (mSe (mGt5 h) (h 4 5 1).toNat 0 (dp + 1)) dp fr (h 17 5) (stOf h) j).2.2.2)) → fwWP mX7_search (d + 6) 18 [some (aR 8 0), some (aI ((dp : Int) + 1)), some (aI (dp : Int)), some (aI (fr : Int)), some (aI y18)] [] hh18 Q := by
        refine fw_up (fun j hc18 ih18 => ?_)
        intro y18  hh18 ey18 eh18
        subst ey18
        obtain ⟨A_18, eh18⟩ := eh18
        subst eh18
        have hSj := mSeL_ok (nc := (h 4 5 1).toNat) (by omega) (mGt5_rng hP g2) 0 dp fr (h 17 5) (stOf h) g8 hS j (by omega)
        show fwWP mX7_search (d + 6) 18 [some (aR 8 0), some (aI ((dp : Int) + 1)), some (aI (dp : Int)), some (aI (fr : Int)), some (aI ((fr : Int) + (j : Int)))] [] (fwUc (fwUc (fwUc (fwUc (fwUc h 8 0 (seF (h 8 0) (mSeL (mSe (mGt5 h) (h 4 5 1).toNat 0 (dp + 1)) dp fr (h 17 5) (stOf h) j).2.2.1 (mSeL (mSe (mGt5 h) (h 4 5 1).toNat 0 (dp + 1)) dp fr (h 17 5) (stOf h) j).2.1)) 17 5 (h 17 5)) 20 0 A_18) 27 0 (mSeL (mSe (mGt5 h) (h 4 5 1).toNat 0 (dp + 1)) dp fr (h 17 5) (stOf h) j).1) 28 0 (mSeL (mSe (mGt5 h) (h 4 5 1).toNat 0 (dp + 1)) dp fr (h 17 5) (stOf h) j).2.2.2) Q
        refine w_iload dX7_search_18 rfl ?_
        refine w_aload_n dX7_search_20 rfl ?_
        refine w_getr 4 5 dX7_search_21 fl_X7_25 rfl (by decide) ?_
        refine w_getiE (v := h 4 5 1) dX7_search_24 fl_X7_40 rfl (by decide) (by first | rfl | simp [fwUp, fwUc]) ?_
        refine w_icmp_ge 86 dX7_search_27 (by decide) (by omega) (by omega) (fun c27 => ?_) (fun c27 => ?_)
        · have ec18 : ((h 4 5 1).toNat - fr) = j := by omega
          subst ec18
          exact w_vret dX7_search_86 rfl (k _)
        · have hG6 : gOk (fwUc (fwUc (fwUc (fwUc (fwUc h 8 0 (seF (h 8 0) (mSeL (mSe (mGt5 h) (h 4 5 1).toNat 0 (dp + 1)) dp fr (h 17 5) (stOf h) j).2.2.1 (mSeL (mSe (mGt5 h) (h 4 5 1).toNat 0 (dp + 1)) dp fr (h 17 5) (stOf h) j).2.1)) 17 5 (h 17 5)) 20 0 A_18) 27 0 (mSeL (mSe (mGt5 h) (h 4 5 1).toNat 0 (dp + 1)) dp fr (h 17 5) (stOf h) j).1) 28 0 (mSeL (mSe (mGt5 h) (h 4 5 1).toNat 0 (dp + 1)) dp fr (h 17 5) (stOf h) j).2.2.2) 5 := ⟨hG.1, hG.2.1, hG.2.2.1, hG.2.2.2.1, hG.2.2.2.2⟩
          refine w_aload_n dX7_search_30 rfl ?_
          refine w_getr 4 5 dX7_search_31 fl_X7_25 rfl (by decide) ?_
          refine w_iload dX7_search_34 rfl ?_
          refine w_callV (d := d + 5) (S := []) [aI ((fr : Int) + (j : Int))] dX7_search_36 ml_X7_44 ok_X1_heightOf vi_X1_heightOf rfl rfl (by decide) rfl (Nat.le_of_ble_eq_true rfl) ?_
          refine c_X1_heightOfE (d := (d + 5)) 5 ((fr : Int) + (j : Int)) (h 17 5 (fr + j)) (by decide) (by first | assumption | omega | decide) (by first | assumption | omega | decide) (hOf_in (n := h 4 5 1) (H := h 17 5) (c := fr + j) (by omega)) ?_
          show fwWP mX7_search (d + 6) 39 [some (aR 8 0), some (aI ((dp : Int) + 1)), some (aI (dp : Int)), some (aI (fr : Int)), some (aI ((fr : Int) + (j : Int)))] [aI (h 17 5 (fr + j))] (fwUc (fwUc (fwUc (fwUc (fwUc h 8 0 (seF (h 8 0) (mSeL (mSe (mGt5 h) (h 4 5 1).toNat 0 (dp + 1)) dp fr (h 17 5) (stOf h) j).2.2.1 (mSeL (mSe (mGt5 h) (h 4 5 1).toNat 0 (dp + 1)) dp fr (h 17 5) (stOf h) j).2.1)) 17 5 (h 17 5)) 20 0 A_18) 27 0 (mSeL (mSe (mGt5 h) (h 4 5 1).toNat 0 (dp + 1)) dp fr (h 17 5) (stOf h) j).1) 28 0 (mSeL (mSe (mGt5 h) (h 4 5 1).toNat 0 (dp + 1)) dp fr (h 17 5) (stOf h) j).2.2.2) Q
          have hc1 := g8 (fr + j) (by omega)
          refine w_if_le 80 dX7_search_39 (by decide) (by omega) (fun c39 => ?_) (fun c39 => ?_)
          · refine w_iinc [some (aR 8 0), some (aI ((dp : Int) + 1)), some (aI (dp : Int)), some (aI (fr : Int)), some (aI (((fr : Int) + (j : Int)) + 1))] dX7_search_80 rfl rfl (by decide) ?_
            refine w_goto 18 dX7_search_83 (by decide) ?_
            refine ih18 (by omega) _ _ ?_ ?_
            · exact (by omega)
            · exact ⟨_, by rw [mSeL, if_neg (by omega)]⟩
          · refine w_aload_n dX7_search_42 rfl ?_
            refine w_getr 4 5 dX7_search_43 fl_X7_25 rfl (by decide) ?_
            refine w_iload dX7_search_46 rfl ?_
            refine w_iconst dX7_search_48 ?_
            refine w_callV (d := d + 5) (S := []) [aI ((fr : Int) + (j : Int)), aI (-1)] dX7_search_49 ml_X7_48 ok_X1_change vi_X1_change rfl rfl (by decide) rfl (Nat.le_of_ble_eq_true rfl) ?_
            refine c_X1_changeE (d := (d + 4)) 5 ((fr : Int) + (j : Int)) (-1) (by decide) (by first | assumption | omega | decide) (by first | assumption | omega | decide) (show (fr : Int) + (j : Int) < h 4 5 1 by first | assumption | omega | decide) ?_
            show fwWP mX7_search (d + 6) 52 [some (aR 8 0), some (aI ((dp : Int) + 1)), some (aI (dp : Int)), some (aI (fr : Int)), some (aI ((fr : Int) + (j : Int)))] [] (fwUc (fwUc (fwUc (fwUc (fwUc (fwUc h 8 0 (seF (h 8 0) (mSeL (mSe (mGt5 h) (h 4 5 1).toNat 0 (dp + 1)) dp fr (h 17 5) (stOf h) j).2.2.1 (mSeL (mSe (mGt5 h) (h 4 5 1).toNat 0 (dp + 1)) dp fr (h 17 5) (stOf h) j).2.1)) 17 5 (h 17 5)) 20 0 A_18) 27 0 (mSeL (mSe (mGt5 h) (h 4 5 1).toNat 0 (dp + 1)) dp fr (h 17 5) (stOf h) j).1) 28 0 (mSeL (mSe (mGt5 h) (h 4 5 1).toNat 0 (dp + 1)) dp fr (h 17 5) (stOf h) j).2.2.2) 17 5 (fwFu ((h 17 5)) ((fr : Int) + (j : Int)).toNat ((h 17 5) ((fr : Int) + (j : Int)).toNat + (-1)))) Q
            rw [show fwUc (fwUc (fwUc (fwUc (fwUc (fwUc h 8 0 (seF (h 8 0) (mSeL (mSe (mGt5 h) (h 4 5 1).toNat 0 (dp + 1)) dp fr (h 17 5) (stOf h) j).2.2.1 (mSeL (mSe (mGt5 h) (h 4 5 1).toNat 0 (dp + 1)) dp fr (h 17 5) (stOf h) j).2.1)) 17 5 (h 17 5)) 20 0 A_18) 27 0 (mSeL (mSe (mGt5 h) (h 4 5 1).toNat 0 (dp + 1)) dp fr (h 17 5) (stOf h) j).1) 28 0 (mSeL (mSe (mGt5 h) (h 4 5 1).toNat 0 (dp + 1)) dp fr (h 17 5) (stOf h) j).2.2.2) 17 5 (fwFu ((h 17 5)) ((fr : Int) + (j : Int)).toNat ((h 17 5) ((fr : Int) + (j : Int)).toNat + (-1))) = (fwUc (fwUc (fwUc (fwUc (fwUc h 8 0 (seF (h 8 0) (mSeL (mSe (mGt5 h) (h 4 5 1).toNat 0 (dp + 1)) dp fr (h 17 5) (stOf h) j).2.2.1 (mSeL (mSe (mGt5 h) (h 4 5 1).toNat 0 (dp + 1)) dp fr (h 17 5) (stOf h) j).2.1)) 17 5 (fwFu ((h 17 5)) ((fr : Int) + (j : Int)).toNat ((h 17 5) ((fr : Int) + (j : Int)).toNat + (-1)))) 20 0 A_18) 27 0 ((mSeL (mSe (mGt5 h) (h 4 5 1).toNat 0 (dp + 1)) dp fr (h 17 5) (stOf h) j).1)) 28 0 ((mSeL (mSe (mGt5 h) (h 4 5 1).toNat 0 (dp + 1)) dp fr (h 17 5) (stOf h) j).2.2.2)) from by funext a b; simp only [fwUc]; (repeat' split); all_goals first | rfl | (exfalso; omega)]
            rw [show (fwUc (fwUc (fwUc (fwUc (fwUc h 8 0 (seF (h 8 0) (mSeL (mSe (mGt5 h) (h 4 5 1).toNat 0 (dp + 1)) dp fr (h 17 5) (stOf h) j).2.2.1 (mSeL (mSe (mGt5 h) (h 4 5 1).toNat 0 (dp + 1)) dp fr (h 17 5) (stOf h) j).2.1)) 17 5 (fwFu ((h 17 5)) ((fr : Int) + (j : Int)).toNat ((h 17 5) ((fr : Int) + (j : Int)).toNat + (-1)))) 20 0 A_18) 27 0 ((mSeL (mSe (mGt5 h) (h 4 5 1).toNat 0 (dp + 1)) dp fr (h 17 5) (stOf h) j).1)) 28 0 ((mSeL (mSe (mGt5 h) (h 4 5 1).toNat 0 (dp + 1)) dp fr (h 17 5) (stOf h) j).2.2.2)) = (fwUc (fwUc (fwUc (fwUc (fwUc h 8 0 (seF (h 8 0) (mSeL (mSe (mGt5 h) (h 4 5 1).toNat 0 (dp + 1)) dp fr (h 17 5) (stOf h) j).2.2.1 (mSeL (mSe (mGt5 h) (h 4 5 1).toNat 0 (dp + 1)) dp fr (h 17 5) (stOf h) j).2.1)) 17 5 ((fwFu (h 17 5) (fr + j) (h 17 5 (fr + j) + -1)))) 20 0 A_18) 27 0 (mSeL (mSe (mGt5 h) (h 4 5 1).toNat 0 (dp + 1)) dp fr (h 17 5) (stOf h) j).1) 28 0 (mSeL (mSe (mGt5 h) (h 4 5 1).toNat 0 (dp + 1)) dp fr (h 17 5) (stOf h) j).2.2.2) from by rw [show ((fr : Int) + (j : Int)).toNat = fr + j by omega]]
            refine w_aload_n dX7_search_52 rfl ?_
            refine w_getr 27 0 dX7_search_53 fl_X7_15 rfl (by decide) ?_
            refine w_iload_n dX7_search_56 rfl ?_
            refine w_iload dX7_search_57 rfl ?_
            refine w_iast dX7_search_59 rfl (by decide) (by omega) (by omega) ?_
            rw [show (fwUp (fwUc (fwUc (fwUc (fwUc (fwUc h 8 0 (seF (h 8 0) (mSeL (mSe (mGt5 h) (h 4 5 1).toNat 0 (dp + 1)) dp fr (h 17 5) (stOf h) j).2.2.1 (mSeL (mSe (mGt5 h) (h 4 5 1).toNat 0 (dp + 1)) dp fr (h 17 5) (stOf h) j).2.1)) 17 5 ((fwFu (h 17 5) (fr + j) (h 17 5 (fr + j) + -1)))) 20 0 A_18) 27 0 (mSeL (mSe (mGt5 h) (h 4 5 1).toNat 0 (dp + 1)) dp fr (h 17 5) (stOf h) j).1) 28 0 (mSeL (mSe (mGt5 h) (h 4 5 1).toNat 0 (dp + 1)) dp fr (h 17 5) (stOf h) j).2.2.2) 27 0 ((dp : Int)).toNat ((fr : Int) + (j : Int))) = (fwUc (fwUc (fwUc (fwUc (fwUc (fwUc h 8 0 (seF (h 8 0) (mSeL (mSe (mGt5 h) (h 4 5 1).toNat 0 (dp + 1)) dp fr (h 17 5) (stOf h) j).2.2.1 (mSeL (mSe (mGt5 h) (h 4 5 1).toNat 0 (dp + 1)) dp fr (h 17 5) (stOf h) j).2.1)) 17 5 ((fwFu (h 17 5) (fr + j) (h 17 5 (fr + j) + -1)))) 20 0 A_18) 27 0 (mSeL (mSe (mGt5 h) (h 4 5 1).toNat 0 (dp + 1)) dp fr (h 17 5) (stOf h) j).1) 28 0 (mSeL (mSe (mGt5 h) (h 4 5 1).toNat 0 (dp + 1)) dp fr (h 17 5) (stOf h) j).2.2.2) 27 0 (fwFu (((mSeL (mSe (mGt5 h) (h 4 5 1).toNat 0 (dp + 1)) dp fr (h 17 5) (stOf h) j).1)) ((dp : Int)).toNat ((fr : Int) + (j : Int)))) from fwUp_fu _ _ _ _ _]
            rw [show (fwUc (fwUc (fwUc (fwUc (fwUc (fwUc h 8 0 (seF (h 8 0) (mSeL (mSe (mGt5 h) (h 4 5 1).toNat 0 (dp + 1)) dp fr (h 17 5) (stOf h) j).2.2.1 (mSeL (mSe (mGt5 h) (h 4 5 1).toNat 0 (dp + 1)) dp fr (h 17 5) (stOf h) j).2.1)) 17 5 ((fwFu (h 17 5) (fr + j) (h 17 5 (fr + j) + -1)))) 20 0 A_18) 27 0 (mSeL (mSe (mGt5 h) (h 4 5 1).toNat 0 (dp + 1)) dp fr (h 17 5) (stOf h) j).1) 28 0 (mSeL (mSe (mGt5 h) (h 4 5 1).toNat 0 (dp + 1)) dp fr (h 17 5) (stOf h) j).2.2.2) 27 0 (fwFu (((mSeL (mSe (mGt5 h) (h 4 5 1).toNat 0 (dp + 1)) dp fr (h 17 5) (stOf h) j).1)) ((dp : Int)).toNat ((fr : Int) + (j : Int)))) = (fwUc (fwUc (fwUc (fwUc (fwUc h 8 0 (seF (h 8 0) (mSeL (mSe (mGt5 h) (h 4 5 1).toNat 0 (dp + 1)) dp fr (h 17 5) (stOf h) j).2.2.1 (mSeL (mSe (mGt5 h) (h 4 5 1).toNat 0 (dp + 1)) dp fr (h 17 5) (stOf h) j).2.1)) 17 5 ((fwFu (h 17 5) (fr + j) (h 17 5 (fr + j) + -1)))) 20 0 A_18) 27 0 (fwFu (((mSeL (mSe (mGt5 h) (h 4 5 1).toNat 0 (dp + 1)) dp fr (h 17 5) (stOf h) j).1)) ((dp : Int)).toNat ((fr : Int) + (j : Int)))) 28 0 ((mSeL (mSe (mGt5 h) (h 4 5 1).toNat 0 (dp + 1)) dp fr (h 17 5) (stOf h) j).2.2.2)) from by funext a b; simp only [fwUc]; (repeat' split); all_goals first | rfl | (exfalso; omega)]
            rw [show (fwUc (fwUc (fwUc (fwUc (fwUc h 8 0 (seF (h 8 0) (mSeL (mSe (mGt5 h) (h 4 5 1).toNat 0 (dp + 1)) dp fr (h 17 5) (stOf h) j).2.2.1 (mSeL (mSe (mGt5 h) (h 4 5 1).toNat 0 (dp + 1)) dp fr (h 17 5) (stOf h) j).2.1)) 17 5 ((fwFu (h 17 5) (fr + j) (h 17 5 (fr + j) + -1)))) 20 0 A_18) 27 0 (fwFu (((mSeL (mSe (mGt5 h) (h 4 5 1).toNat 0 (dp + 1)) dp fr (h 17 5) (stOf h) j).1)) ((dp : Int)).toNat ((fr : Int) + (j : Int)))) 28 0 ((mSeL (mSe (mGt5 h) (h 4 5 1).toNat 0 (dp + 1)) dp fr (h 17 5) (stOf h) j).2.2.2)) = (fwUc (fwUc (fwUc (fwUc (fwUc h 8 0 (seF (h 8 0) (mSeL (mSe (mGt5 h) (h 4 5 1).toNat 0 (dp + 1)) dp fr (h 17 5) (stOf h) j).2.2.1 (mSeL (mSe (mGt5 h) (h 4 5 1).toNat 0 (dp + 1)) dp fr (h 17 5) (stOf h) j).2.1)) 17 5 (fwFu (h 17 5) (fr + j) (h 17 5 (fr + j) + -1))) 20 0 A_18) 27 0 (fwFu (mSeL (mSe (mGt5 h) (h 4 5 1).toNat 0 (dp + 1)) dp fr (h 17 5) (stOf h) j).1 dp ((fr + j : Nat) : Int))) 28 0 (mSeL (mSe (mGt5 h) (h 4 5 1).toNat 0 (dp + 1)) dp fr (h 17 5) (stOf h) j).2.2.2) from rfl]
            have hG7 : gOk (fwUc (fwUc (fwUc (fwUc (fwUc h 8 0 (seF (h 8 0) (mSeL (mSe (mGt5 h) (h 4 5 1).toNat 0 (dp + 1)) dp fr (h 17 5) (stOf h) j).2.2.1 (mSeL (mSe (mGt5 h) (h 4 5 1).toNat 0 (dp + 1)) dp fr (h 17 5) (stOf h) j).2.1)) 17 5 (fwFu (h 17 5) (fr + j) (h 17 5 (fr + j) + -1))) 20 0 A_18) 27 0 (fwFu (mSeL (mSe (mGt5 h) (h 4 5 1).toNat 0 (dp + 1)) dp fr (h 17 5) (stOf h) j).1 dp ((fr + j : Nat) : Int))) 28 0 (mSeL (mSe (mGt5 h) (h 4 5 1).toNat 0 (dp + 1)) dp fr (h 17 5) (stOf h) j).2.2.2) 5 := ⟨hG.1, hG.2.1, hG.2.2.1, hG.2.2.2.1, fwFu_rng g8 (by omega)⟩
            have hS7 : stOk (stOf (fwUc (fwUc (fwUc (fwUc (fwUc h 8 0 (seF (h 8 0) (mSeL (mSe (mGt5 h) (h 4 5 1).toNat 0 (dp + 1)) dp fr (h 17 5) (stOf h) j).2.2.1 (mSeL (mSe (mGt5 h) (h 4 5 1).toNat 0 (dp + 1)) dp fr (h 17 5) (stOf h) j).2.1)) 17 5 (fwFu (h 17 5) (fr + j) (h 17 5 (fr + j) + -1))) 20 0 A_18) 27 0 (fwFu (mSeL (mSe (mGt5 h) (h 4 5 1).toNat 0 (dp + 1)) dp fr (h 17 5) (stOf h) j).1 dp ((fr + j : Nat) : Int))) 28 0 (mSeL (mSe (mGt5 h) (h 4 5 1).toNat 0 (dp + 1)) dp fr (h 17 5) (stOf h) j).2.2.2)) := hSj
            refine w_aload_n dX7_search_60 rfl ?_
            refine w_iload_n dX7_search_61 rfl ?_
            refine w_iload_n dX7_search_62 rfl ?_
            refine w_iconst dX7_search_63 ?_
            refine w_iadd dX7_search_64 ?_
            refine w_iload dX7_search_65 rfl ?_
            refine w_callV (d := d + 5) (S := []) [aI ((dp : Int) + 1), aI ((dp : Int) + 1), aI ((fr : Int) + (j : Int))] dX7_search_67 ml_X7_94 ok_X7_search vi_X7_search rfl rfl (by decide) rfl (Nat.le_of_ble_eq_true rfl) ?_
            refine c_search0E (d := d) (dp + 1) (fr + j) ((dp : Int) + 1) ((dp : Int) + 1) ((fr : Int) + (j : Int)) (by omega) (by omega) (by omega) (by first | assumption | omega | decide) (by first | assumption | omega | decide) (by first | assumption | omega | decide) (by omega) (show ((fr + j : Nat) : Int) ≤ h 4 5 1 by omega) ?_
            intro A1
            show fwWP mX7_search (d + 6) 70 [some (aR 8 0), some (aI ((dp : Int) + 1)), some (aI (dp : Int)), some (aI (fr : Int)), some (aI ((fr : Int) + (j : Int)))] [] (fwUc (fwUc (fwUc (fwUc (fwUc (fwUc (fwUc (fwUc (fwUc (fwUc h 8 0 (seF (h 8 0) (mSeL (mSe (mGt5 h) (h 4 5 1).toNat 0 (dp + 1)) dp fr (h 17 5) (stOf h) j).2.2.1 (mSeL (mSe (mGt5 h) (h 4 5 1).toNat 0 (dp + 1)) dp fr (h 17 5) (stOf h) j).2.1)) 17 5 (fwFu (h 17 5) (fr + j) (h 17 5 (fr + j) + -1))) 20 0 A_18) 27 0 (fwFu (mSeL (mSe (mGt5 h) (h 4 5 1).toNat 0 (dp + 1)) dp fr (h 17 5) (stOf h) j).1 dp ((fr + j : Nat) : Int))) 28 0 (mSeL (mSe (mGt5 h) (h 4 5 1).toNat 0 (dp + 1)) dp fr (h 17 5) (stOf h) j).2.2.2) 8 0 (seF ((seF (h 8 0) (mSeL (mSe (mGt5 h) (h 4 5 1).toNat 0 (dp + 1)) dp fr (h 17 5) (stOf h) j).2.2.1 (mSeL (mSe (mGt5 h) (h 4 5 1).toNat 0 (dp + 1)) dp fr (h 17 5) (stOf h) j).2.1)) (mSe (mGt5 h) (h 4 5 1).toNat 0 (dp + 1) (fr + j) (fwFu (h 17 5) (fr + j) (h 17 5 (fr + j) + -1)) (fwFu (mSeL (mSe (mGt5 h) (h 4 5 1).toNat 0 (dp + 1)) dp fr (h 17 5) (stOf h) j).1 dp ((fr + j : Nat) : Int), (mSeL (mSe (mGt5 h) (h 4 5 1).toNat 0 (dp + 1)) dp fr (h 17 5) (stOf h) j).2)).2.2.1 (mSe (mGt5 h) (h 4 5 1).toNat 0 (dp + 1) (fr + j) (fwFu (h 17 5) (fr + j) (h 17 5 (fr + j) + -1)) (fwFu (mSeL (mSe (mGt5 h) (h 4 5 1).toNat 0 (dp + 1)) dp fr (h 17 5) (stOf h) j).1 dp ((fr + j : Nat) : Int), (mSeL (mSe (mGt5 h) (h 4 5 1).toNat 0 (dp + 1)) dp fr (h 17 5) (stOf h) j).2)).2.1)) 17 5 (fwFu (h 17 5) (fr + j) (h 17 5 (fr + j) + -1))) 20 0 A1) 27 0 (mSe (mGt5 h) (h 4 5 1).toNat 0 (dp + 1) (fr + j) (fwFu (h 17 5) (fr + j) (h 17 5 (fr + j) + -1)) (fwFu (mSeL (mSe (mGt5 h) (h 4 5 1).toNat 0 (dp + 1)) dp fr (h 17 5) (stOf h) j).1 dp ((fr + j : Nat) : Int), (mSeL (mSe (mGt5 h) (h 4 5 1).toNat 0 (dp + 1)) dp fr (h 17 5) (stOf h) j).2)).1) 28 0 (mSe (mGt5 h) (h 4 5 1).toNat 0 (dp + 1) (fr + j) (fwFu (h 17 5) (fr + j) (h 17 5 (fr + j) + -1)) (fwFu (mSeL (mSe (mGt5 h) (h 4 5 1).toNat 0 (dp + 1)) dp fr (h 17 5) (stOf h) j).1 dp ((fr + j : Nat) : Int), (mSeL (mSe (mGt5 h) (h 4 5 1).toNat 0 (dp + 1)) dp fr (h 17 5) (stOf h) j).2)).2.2.2) Q
            rw [show fwUc (fwUc (fwUc (fwUc (fwUc (fwUc (fwUc (fwUc (fwUc (fwUc h 8 0 (seF (h 8 0) (mSeL (mSe (mGt5 h) (h 4 5 1).toNat 0 (dp + 1)) dp fr (h 17 5) (stOf h) j).2.2.1 (mSeL (mSe (mGt5 h) (h 4 5 1).toNat 0 (dp + 1)) dp fr (h 17 5) (stOf h) j).2.1)) 17 5 (fwFu (h 17 5) (fr + j) (h 17 5 (fr + j) + -1))) 20 0 A_18) 27 0 (fwFu (mSeL (mSe (mGt5 h) (h 4 5 1).toNat 0 (dp + 1)) dp fr (h 17 5) (stOf h) j).1 dp ((fr + j : Nat) : Int))) 28 0 (mSeL (mSe (mGt5 h) (h 4 5 1).toNat 0 (dp + 1)) dp fr (h 17 5) (stOf h) j).2.2.2) 8 0 (seF ((seF (h 8 0) (mSeL (mSe (mGt5 h) (h 4 5 1).toNat 0 (dp + 1)) dp fr (h 17 5) (stOf h) j).2.2.1 (mSeL (mSe (mGt5 h) (h 4 5 1).toNat 0 (dp + 1)) dp fr (h 17 5) (stOf h) j).2.1)) (mSe (mGt5 h) (h 4 5 1).toNat 0 (dp + 1) (fr + j) (fwFu (h 17 5) (fr + j) (h 17 5 (fr + j) + -1)) (fwFu (mSeL (mSe (mGt5 h) (h 4 5 1).toNat 0 (dp + 1)) dp fr (h 17 5) (stOf h) j).1 dp ((fr + j : Nat) : Int), (mSeL (mSe (mGt5 h) (h 4 5 1).toNat 0 (dp + 1)) dp fr (h 17 5) (stOf h) j).2)).2.2.1 (mSe (mGt5 h) (h 4 5 1).toNat 0 (dp + 1) (fr + j) (fwFu (h 17 5) (fr + j) (h 17 5 (fr + j) + -1)) (fwFu (mSeL (mSe (mGt5 h) (h 4 5 1).toNat 0 (dp + 1)) dp fr (h 17 5) (stOf h) j).1 dp ((fr + j : Nat) : Int), (mSeL (mSe (mGt5 h) (h 4 5 1).toNat 0 (dp + 1)) dp fr (h 17 5) (stOf h) j).2)).2.1)) 17 5 (fwFu (h 17 5) (fr + j) (h 17 5 (fr + j) + -1))) 20 0 A1) 27 0 (mSe (mGt5 h) (h 4 5 1).toNat 0 (dp + 1) (fr + j) (fwFu (h 17 5) (fr + j) (h 17 5 (fr + j) + -1)) (fwFu (mSeL (mSe (mGt5 h) (h 4 5 1).toNat 0 (dp + 1)) dp fr (h 17 5) (stOf h) j).1 dp ((fr + j : Nat) : Int), (mSeL (mSe (mGt5 h) (h 4 5 1).toNat 0 (dp + 1)) dp fr (h 17 5) (stOf h) j).2)).1) 28 0 (mSe (mGt5 h) (h 4 5 1).toNat 0 (dp + 1) (fr + j) (fwFu (h 17 5) (fr + j) (h 17 5 (fr + j) + -1)) (fwFu (mSeL (mSe (mGt5 h) (h 4 5 1).toNat 0 (dp + 1)) dp fr (h 17 5) (stOf h) j).1 dp ((fr + j : Nat) : Int), (mSeL (mSe (mGt5 h) (h 4 5 1).toNat 0 (dp + 1)) dp fr (h 17 5) (stOf h) j).2)).2.2.2 = (fwUc (fwUc (fwUc (fwUc (fwUc h 8 0 (seF ((seF (h 8 0) (mSeL (mSe (mGt5 h) (h 4 5 1).toNat 0 (dp + 1)) dp fr (h 17 5) (stOf h) j).2.2.1 (mSeL (mSe (mGt5 h) (h 4 5 1).toNat 0 (dp + 1)) dp fr (h 17 5) (stOf h) j).2.1)) (mSe (mGt5 h) (h 4 5 1).toNat 0 (dp + 1) (fr + j) (fwFu (h 17 5) (fr + j) (h 17 5 (fr + j) + -1)) (fwFu (mSeL (mSe (mGt5 h) (h 4 5 1).toNat 0 (dp + 1)) dp fr (h 17 5) (stOf h) j).1 dp ((fr + j : Nat) : Int), (mSeL (mSe (mGt5 h) (h 4 5 1).toNat 0 (dp + 1)) dp fr (h 17 5) (stOf h) j).2)).2.2.1 (mSe (mGt5 h) (h 4 5 1).toNat 0 (dp + 1) (fr + j) (fwFu (h 17 5) (fr + j) (h 17 5 (fr + j) + -1)) (fwFu (mSeL (mSe (mGt5 h) (h 4 5 1).toNat 0 (dp + 1)) dp fr (h 17 5) (stOf h) j).1 dp ((fr + j : Nat) : Int), (mSeL (mSe (mGt5 h) (h 4 5 1).toNat 0 (dp + 1)) dp fr (h 17 5) (stOf h) j).2)).2.1)) 17 5 (fwFu (h 17 5) (fr + j) (h 17 5 (fr + j) + -1))) 20 0 A1) 27 0 ((mSe (mGt5 h) (h 4 5 1).toNat 0 (dp + 1) (fr + j) (fwFu (h 17 5) (fr + j) (h 17 5 (fr + j) + -1)) (fwFu (mSeL (mSe (mGt5 h) (h 4 5 1).toNat 0 (dp + 1)) dp fr (h 17 5) (stOf h) j).1 dp ((fr + j : Nat) : Int), (mSeL (mSe (mGt5 h) (h 4 5 1).toNat 0 (dp + 1)) dp fr (h 17 5) (stOf h) j).2)).1)) 28 0 ((mSe (mGt5 h) (h 4 5 1).toNat 0 (dp + 1) (fr + j) (fwFu (h 17 5) (fr + j) (h 17 5 (fr + j) + -1)) (fwFu (mSeL (mSe (mGt5 h) (h 4 5 1).toNat 0 (dp + 1)) dp fr (h 17 5) (stOf h) j).1 dp ((fr + j : Nat) : Int), (mSeL (mSe (mGt5 h) (h 4 5 1).toNat 0 (dp + 1)) dp fr (h 17 5) (stOf h) j).2)).2.2.2)) from by funext a b; simp only [fwUc]; (repeat' split); all_goals first | rfl | (exfalso; omega)]
            rw [seF_seF]
            have hG8 : gOk (fwUc (fwUc (fwUc (fwUc (fwUc h 8 0 (seF (h 8 0) (mSe (mGt5 h) (h 4 5 1).toNat 0 (dp + 1) (fr + j) (fwFu (h 17 5) (fr + j) (h 17 5 (fr + j) + -1)) (fwFu (mSeL (mSe (mGt5 h) (h 4 5 1).toNat 0 (dp + 1)) dp fr (h 17 5) (stOf h) j).1 dp ((fr + j : Nat) : Int), (mSeL (mSe (mGt5 h) (h 4 5 1).toNat 0 (dp + 1)) dp fr (h 17 5) (stOf h) j).2)).2.2.1 (mSe (mGt5 h) (h 4 5 1).toNat 0 (dp + 1) (fr + j) (fwFu (h 17 5) (fr + j) (h 17 5 (fr + j) + -1)) (fwFu (mSeL (mSe (mGt5 h) (h 4 5 1).toNat 0 (dp + 1)) dp fr (h 17 5) (stOf h) j).1 dp ((fr + j : Nat) : Int), (mSeL (mSe (mGt5 h) (h 4 5 1).toNat 0 (dp + 1)) dp fr (h 17 5) (stOf h) j).2)).2.1)) 17 5 ((fwFu (h 17 5) (fr + j) (h 17 5 (fr + j) + -1)))) 20 0 A1) 27 0 (mSe (mGt5 h) (h 4 5 1).toNat 0 (dp + 1) (fr + j) (fwFu (h 17 5) (fr + j) (h 17 5 (fr + j) + -1)) (fwFu (mSeL (mSe (mGt5 h) (h 4 5 1).toNat 0 (dp + 1)) dp fr (h 17 5) (stOf h) j).1 dp ((fr + j : Nat) : Int), (mSeL (mSe (mGt5 h) (h 4 5 1).toNat 0 (dp + 1)) dp fr (h 17 5) (stOf h) j).2)).1) 28 0 (mSe (mGt5 h) (h 4 5 1).toNat 0 (dp + 1) (fr + j) (fwFu (h 17 5) (fr + j) (h 17 5 (fr + j) + -1)) (fwFu (mSeL (mSe (mGt5 h) (h 4 5 1).toNat 0 (dp + 1)) dp fr (h 17 5) (stOf h) j).1 dp ((fr + j : Nat) : Int), (mSeL (mSe (mGt5 h) (h 4 5 1).toNat 0 (dp + 1)) dp fr (h 17 5) (stOf h) j).2)).2.2.2) 5 := ⟨hG.1, hG.2.1, hG.2.2.1, hG.2.2.2.1, fwFu_rng g8 (by omega)⟩
            refine w_aload_n dX7_search_70 rfl ?_
            refine w_getr 4 5 dX7_search_71 fl_X7_25 rfl (by decide) ?_
            refine w_iload dX7_search_74 rfl ?_
            refine w_iconst dX7_search_76 ?_
            refine w_callV (d := d + 5) (S := []) [aI ((fr : Int) + (j : Int)), aI 1] dX7_search_77 ml_X7_48 ok_X1_change vi_X1_change rfl rfl (by decide) rfl (Nat.le_of_ble_eq_true rfl) ?_
            refine c_X1_changeE (d := (d + 4)) 5 ((fr : Int) + (j : Int)) 1 (by decide) (by first | assumption | omega | decide) (by first | assumption | omega | decide) (show (fr : Int) + (j : Int) < h 4 5 1 by first | assumption | omega | decide) ?_
            show fwWP mX7_search (d + 6) 80 [some (aR 8 0), some (aI ((dp : Int) + 1)), some (aI (dp : Int)), some (aI (fr : Int)), some (aI ((fr : Int) + (j : Int)))] [] (fwUc (fwUc (fwUc (fwUc (fwUc (fwUc h 8 0 (seF (h 8 0) (mSe (mGt5 h) (h 4 5 1).toNat 0 (dp + 1) (fr + j) (fwFu (h 17 5) (fr + j) (h 17 5 (fr + j) + -1)) (fwFu (mSeL (mSe (mGt5 h) (h 4 5 1).toNat 0 (dp + 1)) dp fr (h 17 5) (stOf h) j).1 dp ((fr + j : Nat) : Int), (mSeL (mSe (mGt5 h) (h 4 5 1).toNat 0 (dp + 1)) dp fr (h 17 5) (stOf h) j).2)).2.2.1 (mSe (mGt5 h) (h 4 5 1).toNat 0 (dp + 1) (fr + j) (fwFu (h 17 5) (fr + j) (h 17 5 (fr + j) + -1)) (fwFu (mSeL (mSe (mGt5 h) (h 4 5 1).toNat 0 (dp + 1)) dp fr (h 17 5) (stOf h) j).1 dp ((fr + j : Nat) : Int), (mSeL (mSe (mGt5 h) (h 4 5 1).toNat 0 (dp + 1)) dp fr (h 17 5) (stOf h) j).2)).2.1)) 17 5 ((fwFu (h 17 5) (fr + j) (h 17 5 (fr + j) + -1)))) 20 0 A1) 27 0 (mSe (mGt5 h) (h 4 5 1).toNat 0 (dp + 1) (fr + j) (fwFu (h 17 5) (fr + j) (h 17 5 (fr + j) + -1)) (fwFu (mSeL (mSe (mGt5 h) (h 4 5 1).toNat 0 (dp + 1)) dp fr (h 17 5) (stOf h) j).1 dp ((fr + j : Nat) : Int), (mSeL (mSe (mGt5 h) (h 4 5 1).toNat 0 (dp + 1)) dp fr (h 17 5) (stOf h) j).2)).1) 28 0 (mSe (mGt5 h) (h 4 5 1).toNat 0 (dp + 1) (fr + j) (fwFu (h 17 5) (fr + j) (h 17 5 (fr + j) + -1)) (fwFu (mSeL (mSe (mGt5 h) (h 4 5 1).toNat 0 (dp + 1)) dp fr (h 17 5) (stOf h) j).1 dp ((fr + j : Nat) : Int), (mSeL (mSe (mGt5 h) (h 4 5 1).toNat 0 (dp + 1)) dp fr (h 17 5) (stOf h) j).2)).2.2.2) 17 5 (fwFu (((fwFu (h 17 5) (fr + j) (h 17 5 (fr + j) + -1)))) ((fr : Int) + (j : Int)).toNat (((fwFu (h 17 5) (fr + j) (h 17 5 (fr + j) + -1))) ((fr : Int) + (j : Int)).toNat + 1))) Q
            rw [show fwUc (fwUc (fwUc (fwUc (fwUc (fwUc h 8 0 (seF (h 8 0) (mSe (mGt5 h) (h 4 5 1).toNat 0 (dp + 1) (fr + j) (fwFu (h 17 5) (fr + j) (h 17 5 (fr + j) + -1)) (fwFu (mSeL (mSe (mGt5 h) (h 4 5 1).toNat 0 (dp + 1)) dp fr (h 17 5) (stOf h) j).1 dp ((fr + j : Nat) : Int), (mSeL (mSe (mGt5 h) (h 4 5 1).toNat 0 (dp + 1)) dp fr (h 17 5) (stOf h) j).2)).2.2.1 (mSe (mGt5 h) (h 4 5 1).toNat 0 (dp + 1) (fr + j) (fwFu (h 17 5) (fr + j) (h 17 5 (fr + j) + -1)) (fwFu (mSeL (mSe (mGt5 h) (h 4 5 1).toNat 0 (dp + 1)) dp fr (h 17 5) (stOf h) j).1 dp ((fr + j : Nat) : Int), (mSeL (mSe (mGt5 h) (h 4 5 1).toNat 0 (dp + 1)) dp fr (h 17 5) (stOf h) j).2)).2.1)) 17 5 ((fwFu (h 17 5) (fr + j) (h 17 5 (fr + j) + -1)))) 20 0 A1) 27 0 (mSe (mGt5 h) (h 4 5 1).toNat 0 (dp + 1) (fr + j) (fwFu (h 17 5) (fr + j) (h 17 5 (fr + j) + -1)) (fwFu (mSeL (mSe (mGt5 h) (h 4 5 1).toNat 0 (dp + 1)) dp fr (h 17 5) (stOf h) j).1 dp ((fr + j : Nat) : Int), (mSeL (mSe (mGt5 h) (h 4 5 1).toNat 0 (dp + 1)) dp fr (h 17 5) (stOf h) j).2)).1) 28 0 (mSe (mGt5 h) (h 4 5 1).toNat 0 (dp + 1) (fr + j) (fwFu (h 17 5) (fr + j) (h 17 5 (fr + j) + -1)) (fwFu (mSeL (mSe (mGt5 h) (h 4 5 1).toNat 0 (dp + 1)) dp fr (h 17 5) (stOf h) j).1 dp ((fr + j : Nat) : Int), (mSeL (mSe (mGt5 h) (h 4 5 1).toNat 0 (dp + 1)) dp fr (h 17 5) (stOf h) j).2)).2.2.2) 17 5 (fwFu (((fwFu (h 17 5) (fr + j) (h 17 5 (fr + j) + -1)))) ((fr : Int) + (j : Int)).toNat (((fwFu (h 17 5) (fr + j) (h 17 5 (fr + j) + -1))) ((fr : Int) + (j : Int)).toNat + 1)) = (fwUc (fwUc (fwUc (fwUc (fwUc h 8 0 (seF (h 8 0) (mSe (mGt5 h) (h 4 5 1).toNat 0 (dp + 1) (fr + j) (fwFu (h 17 5) (fr + j) (h 17 5 (fr + j) + -1)) (fwFu (mSeL (mSe (mGt5 h) (h 4 5 1).toNat 0 (dp + 1)) dp fr (h 17 5) (stOf h) j).1 dp ((fr + j : Nat) : Int), (mSeL (mSe (mGt5 h) (h 4 5 1).toNat 0 (dp + 1)) dp fr (h 17 5) (stOf h) j).2)).2.2.1 (mSe (mGt5 h) (h 4 5 1).toNat 0 (dp + 1) (fr + j) (fwFu (h 17 5) (fr + j) (h 17 5 (fr + j) + -1)) (fwFu (mSeL (mSe (mGt5 h) (h 4 5 1).toNat 0 (dp + 1)) dp fr (h 17 5) (stOf h) j).1 dp ((fr + j : Nat) : Int), (mSeL (mSe (mGt5 h) (h 4 5 1).toNat 0 (dp + 1)) dp fr (h 17 5) (stOf h) j).2)).2.1)) 17 5 (fwFu (((fwFu (h 17 5) (fr + j) (h 17 5 (fr + j) + -1)))) ((fr : Int) + (j : Int)).toNat (((fwFu (h 17 5) (fr + j) (h 17 5 (fr + j) + -1))) ((fr : Int) + (j : Int)).toNat + 1))) 20 0 A1) 27 0 ((mSe (mGt5 h) (h 4 5 1).toNat 0 (dp + 1) (fr + j) (fwFu (h 17 5) (fr + j) (h 17 5 (fr + j) + -1)) (fwFu (mSeL (mSe (mGt5 h) (h 4 5 1).toNat 0 (dp + 1)) dp fr (h 17 5) (stOf h) j).1 dp ((fr + j : Nat) : Int), (mSeL (mSe (mGt5 h) (h 4 5 1).toNat 0 (dp + 1)) dp fr (h 17 5) (stOf h) j).2)).1)) 28 0 ((mSe (mGt5 h) (h 4 5 1).toNat 0 (dp + 1) (fr + j) (fwFu (h 17 5) (fr + j) (h 17 5 (fr + j) + -1)) (fwFu (mSeL (mSe (mGt5 h) (h 4 5 1).toNat 0 (dp + 1)) dp fr (h 17 5) (stOf h) j).1 dp ((fr + j : Nat) : Int), (mSeL (mSe (mGt5 h) (h 4 5 1).toNat 0 (dp + 1)) dp fr (h 17 5) (stOf h) j).2)).2.2.2)) from by funext a b; simp only [fwUc]; (repeat' split); all_goals first | rfl | (exfalso; omega)]
            rw [show (fwUc (fwUc (fwUc (fwUc (fwUc h 8 0 (seF (h 8 0) (mSe (mGt5 h) (h 4 5 1).toNat 0 (dp + 1) (fr + j) (fwFu (h 17 5) (fr + j) (h 17 5 (fr + j) + -1)) (fwFu (mSeL (mSe (mGt5 h) (h 4 5 1).toNat 0 (dp + 1)) dp fr (h 17 5) (stOf h) j).1 dp ((fr + j : Nat) : Int), (mSeL (mSe (mGt5 h) (h 4 5 1).toNat 0 (dp + 1)) dp fr (h 17 5) (stOf h) j).2)).2.2.1 (mSe (mGt5 h) (h 4 5 1).toNat 0 (dp + 1) (fr + j) (fwFu (h 17 5) (fr + j) (h 17 5 (fr + j) + -1)) (fwFu (mSeL (mSe (mGt5 h) (h 4 5 1).toNat 0 (dp + 1)) dp fr (h 17 5) (stOf h) j).1 dp ((fr + j : Nat) : Int), (mSeL (mSe (mGt5 h) (h 4 5 1).toNat 0 (dp + 1)) dp fr (h 17 5) (stOf h) j).2)).2.1)) 17 5 (fwFu (((fwFu (h 17 5) (fr + j) (h 17 5 (fr + j) + -1)))) ((fr : Int) + (j : Int)).toNat (((fwFu (h 17 5) (fr + j) (h 17 5 (fr + j) + -1))) ((fr : Int) + (j : Int)).toNat + 1))) 20 0 A1) 27 0 ((mSe (mGt5 h) (h 4 5 1).toNat 0 (dp + 1) (fr + j) (fwFu (h 17 5) (fr + j) (h 17 5 (fr + j) + -1)) (fwFu (mSeL (mSe (mGt5 h) (h 4 5 1).toNat 0 (dp + 1)) dp fr (h 17 5) (stOf h) j).1 dp ((fr + j : Nat) : Int), (mSeL (mSe (mGt5 h) (h 4 5 1).toNat 0 (dp + 1)) dp fr (h 17 5) (stOf h) j).2)).1)) 28 0 ((mSe (mGt5 h) (h 4 5 1).toNat 0 (dp + 1) (fr + j) (fwFu (h 17 5) (fr + j) (h 17 5 (fr + j) + -1)) (fwFu (mSeL (mSe (mGt5 h) (h 4 5 1).toNat 0 (dp + 1)) dp fr (h 17 5) (stOf h) j).1 dp ((fr + j : Nat) : Int), (mSeL (mSe (mGt5 h) (h 4 5 1).toNat 0 (dp + 1)) dp fr (h 17 5) (stOf h) j).2)).2.2.2)) = (fwUc (fwUc (fwUc (fwUc (fwUc h 8 0 (seF (h 8 0) (mSe (mGt5 h) (h 4 5 1).toNat 0 (dp + 1) (fr + j) (fwFu (h 17 5) (fr + j) (h 17 5 (fr + j) + -1)) (fwFu (mSeL (mSe (mGt5 h) (h 4 5 1).toNat 0 (dp + 1)) dp fr (h 17 5) (stOf h) j).1 dp ((fr + j : Nat) : Int), (mSeL (mSe (mGt5 h) (h 4 5 1).toNat 0 (dp + 1)) dp fr (h 17 5) (stOf h) j).2)).2.2.1 (mSe (mGt5 h) (h 4 5 1).toNat 0 (dp + 1) (fr + j) (fwFu (h 17 5) (fr + j) (h 17 5 (fr + j) + -1)) (fwFu (mSeL (mSe (mGt5 h) (h 4 5 1).toNat 0 (dp + 1)) dp fr (h 17 5) (stOf h) j).1 dp ((fr + j : Nat) : Int), (mSeL (mSe (mGt5 h) (h 4 5 1).toNat 0 (dp + 1)) dp fr (h 17 5) (stOf h) j).2)).2.1)) 17 5 (h 17 5)) 20 0 A1) 27 0 (mSe (mGt5 h) (h 4 5 1).toNat 0 (dp + 1) (fr + j) (fwFu (h 17 5) (fr + j) (h 17 5 (fr + j) + -1)) (fwFu (mSeL (mSe (mGt5 h) (h 4 5 1).toNat 0 (dp + 1)) dp fr (h 17 5) (stOf h) j).1 dp ((fr + j : Nat) : Int), (mSeL (mSe (mGt5 h) (h 4 5 1).toNat 0 (dp + 1)) dp fr (h 17 5) (stOf h) j).2)).1) 28 0 (mSe (mGt5 h) (h 4 5 1).toNat 0 (dp + 1) (fr + j) (fwFu (h 17 5) (fr + j) (h 17 5 (fr + j) + -1)) (fwFu (mSeL (mSe (mGt5 h) (h 4 5 1).toNat 0 (dp + 1)) dp fr (h 17 5) (stOf h) j).1 dp ((fr + j : Nat) : Int), (mSeL (mSe (mGt5 h) (h 4 5 1).toNat 0 (dp + 1)) dp fr (h 17 5) (stOf h) j).2)).2.2.2) from by rw [show ((fr : Int) + (j : Int)).toNat = fr + j by omega, fwFu_dn]]
            refine w_iinc [some (aR 8 0), some (aI ((dp : Int) + 1)), some (aI (dp : Int)), some (aI (fr : Int)), some (aI (((fr : Int) + (j : Int)) + 1))] dX7_search_80 rfl rfl (by decide) ?_
            refine w_goto 18 dX7_search_83 (by decide) ?_
            refine ih18 (by omega) _ _ ?_ ?_
            · exact (by omega)
            · exact ⟨_, by rw [mSeL, if_pos (by omega)]⟩
      refine lp18 0 (Nat.zero_le _) _ _ ?_ ?_
      · exact (by omega)
      · exact ⟨h 20 0, (seH_self' h).symm⟩
    · (exfalso; omega)
theorem c_search1E {d : Nat} {h : fwH} {Q : Option fwV → fwH → Prop} (dp fr : Nat) (n x y : Int) (en : n = (dp : Int) + 1) (ex : x = (dp : Int)) (ey : y = (fr : Int)) (hP : pOk h 0) (hG : gOk h 5) (hS : stOk (stOf h)) (hd : dp + 1 ≤ 3) (hfr : (fr : Int) ≤ h 4 5 1) (k : ∀ A, Q none (seH h (h 17 5) (mSe (mGt5 h) (h 4 5 1).toNat 1 dp fr (h 17 5) (stOf h)) A)) : fwCt mX7_search (d + 6) [aR 8 0, aI n, aI x, aI y] h Q := by
  subst en ex ey
  exact c_search1 dp fr hP hG hS hd hfr k
set_option maxRecDepth 100000 in
set_option maxHeartbeats 4000000 in
theorem c_search2 {d : Nat} {h : fwH} {Q : Option fwV → fwH → Prop} (dp fr : Nat) (hP : pOk h 0) (hG : gOk h 5) (hS : stOk (stOf h)) (hd : dp + 2 ≤ 3) (hfr : (fr : Int) ≤ h 4 5 1) (k : ∀ A, Q none (seH h (h 17 5) (mSe (mGt5 h) (h 4 5 1).toNat 2 dp fr (h 17 5) (stOf h)) A)) : fwCt mX7_search (d + 7) [aR 8 0, aI ((dp : Int) + 2), aI (dp : Int), aI (fr : Int)] h Q := by
  refine fwCt_of [some (aR 8 0), some (aI ((dp : Int) + 2)), some (aI (dp : Int)), some (aI (fr : Int)), none] rfl rfl rfl ?_
  obtain ⟨⟨g1, g2⟩, ⟨g3, g4⟩, ⟨g5, g6⟩, g7, g8⟩ := id hG
  refine w_iload_n dX7_search_0 rfl ?_
  refine w_iload_n dX7_search_1 rfl ?_
  refine w_icmp_ge 10 dX7_search_2 (by decide) (by omega) (by omega) (fun c2 => ?_) (fun c2 => ?_)
  · (exfalso; omega)
  · refine w_iload_n dX7_search_5 rfl ?_
    refine w_iconst dX7_search_6 ?_
    refine w_icmp_lt 15 dX7_search_7 (by decide) (by omega) (by omega) (fun c7 => ?_) (fun c7 => ?_)
    · refine w_iload_n dX7_search_15 rfl ?_
      refine w_istore [some (aR 8 0), some (aI ((dp : Int) + 2)), some (aI (dp : Int)), some (aI (fr : Int)), some (aI (fr : Int))] dX7_search_16 rfl (by decide) ?_
      have lp18 : ∀ j : Nat, j ≤ ((h 4 5 1).toNat - fr) → ∀ (y18  : Int) (hh18 : fwH), y18 = (fr : Int) + (j : Int) → (∃ A : Nat → Int, hh18 = (fwUc (fwUc (fwUc (fwUc (fwUc h 8 0 (seF (h 8 0) (mSeL (mSe (mGt5 h) (h 4 5 1).toNat 1 (dp + 1)) dp fr (h 17 5) (stOf h) j).2.2.1 (mSeL (mSe (mGt5 h) (h 4 5 1).toNat 1 (dp + 1)) dp fr (h 17 5) (stOf h) j).2.1)) 17 5 (h 17 5)) 20 0 A) 27 0 (mSeL (mSe (mGt5 h) (h 4 5 1).toNat 1 (dp + 1)) dp fr (h 17 5) (stOf h) j).1) 28 0 (mSeL (mSe (mGt5 h) (h 4 5 1).toNat 1 (dp + 1)) dp fr (h 17 5) (stOf h) j).2.2.2)) → fwWP mX7_search (d + 7) 18 [some (aR 8 0), some (aI ((dp : Int) + 2)), some (aI (dp : Int)), some (aI (fr : Int)), some (aI y18)] [] hh18 Q := by
        refine fw_up (fun j hc18 ih18 => ?_)
        intro y18  hh18 ey18 eh18
        subst ey18
        obtain ⟨A_18, eh18⟩ := eh18
        subst eh18
        have hSj := mSeL_ok (nc := (h 4 5 1).toNat) (by omega) (mGt5_rng hP g2) 1 dp fr (h 17 5) (stOf h) g8 hS j (by omega)
        show fwWP mX7_search (d + 7) 18 [some (aR 8 0), some (aI ((dp : Int) + 2)), some (aI (dp : Int)), some (aI (fr : Int)), some (aI ((fr : Int) + (j : Int)))] [] (fwUc (fwUc (fwUc (fwUc (fwUc h 8 0 (seF (h 8 0) (mSeL (mSe (mGt5 h) (h 4 5 1).toNat 1 (dp + 1)) dp fr (h 17 5) (stOf h) j).2.2.1 (mSeL (mSe (mGt5 h) (h 4 5 1).toNat 1 (dp + 1)) dp fr (h 17 5) (stOf h) j).2.1)) 17 5 (h 17 5)) 20 0 A_18) 27 0 (mSeL (mSe (mGt5 h) (h 4 5 1).toNat 1 (dp + 1)) dp fr (h 17 5) (stOf h) j).1) 28 0 (mSeL (mSe (mGt5 h) (h 4 5 1).toNat 1 (dp + 1)) dp fr (h 17 5) (stOf h) j).2.2.2) Q
        refine w_iload dX7_search_18 rfl ?_
        refine w_aload_n dX7_search_20 rfl ?_
        refine w_getr 4 5 dX7_search_21 fl_X7_25 rfl (by decide) ?_
        refine w_getiE (v := h 4 5 1) dX7_search_24 fl_X7_40 rfl (by decide) (by first | rfl | simp [fwUp, fwUc]) ?_
        refine w_icmp_ge 86 dX7_search_27 (by decide) (by omega) (by omega) (fun c27 => ?_) (fun c27 => ?_)
        · have ec18 : ((h 4 5 1).toNat - fr) = j := by omega
          subst ec18
          exact w_vret dX7_search_86 rfl (k _)
        · have hG6 : gOk (fwUc (fwUc (fwUc (fwUc (fwUc h 8 0 (seF (h 8 0) (mSeL (mSe (mGt5 h) (h 4 5 1).toNat 1 (dp + 1)) dp fr (h 17 5) (stOf h) j).2.2.1 (mSeL (mSe (mGt5 h) (h 4 5 1).toNat 1 (dp + 1)) dp fr (h 17 5) (stOf h) j).2.1)) 17 5 (h 17 5)) 20 0 A_18) 27 0 (mSeL (mSe (mGt5 h) (h 4 5 1).toNat 1 (dp + 1)) dp fr (h 17 5) (stOf h) j).1) 28 0 (mSeL (mSe (mGt5 h) (h 4 5 1).toNat 1 (dp + 1)) dp fr (h 17 5) (stOf h) j).2.2.2) 5 := ⟨hG.1, hG.2.1, hG.2.2.1, hG.2.2.2.1, hG.2.2.2.2⟩
          refine w_aload_n dX7_search_30 rfl ?_
          refine w_getr 4 5 dX7_search_31 fl_X7_25 rfl (by decide) ?_
          refine w_iload dX7_search_34 rfl ?_
          refine w_callV (d := d + 6) (S := []) [aI ((fr : Int) + (j : Int))] dX7_search_36 ml_X7_44 ok_X1_heightOf vi_X1_heightOf rfl rfl (by decide) rfl (Nat.le_of_ble_eq_true rfl) ?_
          refine c_X1_heightOfE (d := (d + 6)) 5 ((fr : Int) + (j : Int)) (h 17 5 (fr + j)) (by decide) (by first | assumption | omega | decide) (by first | assumption | omega | decide) (hOf_in (n := h 4 5 1) (H := h 17 5) (c := fr + j) (by omega)) ?_
          show fwWP mX7_search (d + 7) 39 [some (aR 8 0), some (aI ((dp : Int) + 2)), some (aI (dp : Int)), some (aI (fr : Int)), some (aI ((fr : Int) + (j : Int)))] [aI (h 17 5 (fr + j))] (fwUc (fwUc (fwUc (fwUc (fwUc h 8 0 (seF (h 8 0) (mSeL (mSe (mGt5 h) (h 4 5 1).toNat 1 (dp + 1)) dp fr (h 17 5) (stOf h) j).2.2.1 (mSeL (mSe (mGt5 h) (h 4 5 1).toNat 1 (dp + 1)) dp fr (h 17 5) (stOf h) j).2.1)) 17 5 (h 17 5)) 20 0 A_18) 27 0 (mSeL (mSe (mGt5 h) (h 4 5 1).toNat 1 (dp + 1)) dp fr (h 17 5) (stOf h) j).1) 28 0 (mSeL (mSe (mGt5 h) (h 4 5 1).toNat 1 (dp + 1)) dp fr (h 17 5) (stOf h) j).2.2.2) Q
          have hc1 := g8 (fr + j) (by omega)
          refine w_if_le 80 dX7_search_39 (by decide) (by omega) (fun c39 => ?_) (fun c39 => ?_)
          · refine w_iinc [some (aR 8 0), some (aI ((dp : Int) + 2)), some (aI (dp : Int)), some (aI (fr : Int)), some (aI (((fr : Int) + (j : Int)) + 1))] dX7_search_80 rfl rfl (by decide) ?_
            refine w_goto 18 dX7_search_83 (by decide) ?_
            refine ih18 (by omega) _ _ ?_ ?_
            · exact (by omega)
            · exact ⟨_, by rw [mSeL, if_neg (by omega)]⟩
          · refine w_aload_n dX7_search_42 rfl ?_
            refine w_getr 4 5 dX7_search_43 fl_X7_25 rfl (by decide) ?_
            refine w_iload dX7_search_46 rfl ?_
            refine w_iconst dX7_search_48 ?_
            refine w_callV (d := d + 6) (S := []) [aI ((fr : Int) + (j : Int)), aI (-1)] dX7_search_49 ml_X7_48 ok_X1_change vi_X1_change rfl rfl (by decide) rfl (Nat.le_of_ble_eq_true rfl) ?_
            refine c_X1_changeE (d := (d + 5)) 5 ((fr : Int) + (j : Int)) (-1) (by decide) (by first | assumption | omega | decide) (by first | assumption | omega | decide) (show (fr : Int) + (j : Int) < h 4 5 1 by first | assumption | omega | decide) ?_
            show fwWP mX7_search (d + 7) 52 [some (aR 8 0), some (aI ((dp : Int) + 2)), some (aI (dp : Int)), some (aI (fr : Int)), some (aI ((fr : Int) + (j : Int)))] [] (fwUc (fwUc (fwUc (fwUc (fwUc (fwUc h 8 0 (seF (h 8 0) (mSeL (mSe (mGt5 h) (h 4 5 1).toNat 1 (dp + 1)) dp fr (h 17 5) (stOf h) j).2.2.1 (mSeL (mSe (mGt5 h) (h 4 5 1).toNat 1 (dp + 1)) dp fr (h 17 5) (stOf h) j).2.1)) 17 5 (h 17 5)) 20 0 A_18) 27 0 (mSeL (mSe (mGt5 h) (h 4 5 1).toNat 1 (dp + 1)) dp fr (h 17 5) (stOf h) j).1) 28 0 (mSeL (mSe (mGt5 h) (h 4 5 1).toNat 1 (dp + 1)) dp fr (h 17 5) (stOf h) j).2.2.2) 17 5 (fwFu ((h 17 5)) ((fr : Int) + (j : Int)).toNat ((h 17 5) ((fr : Int) + (j : Int)).toNat + (-1)))) Q
            rw [show fwUc (fwUc (fwUc (fwUc (fwUc (fwUc h 8 0 (seF (h 8 0) (mSeL (mSe (mGt5 h) (h 4 5 1).toNat 1 (dp + 1)) dp fr (h 17 5) (stOf h) j).2.2.1 (mSeL (mSe (mGt5 h) (h 4 5 1).toNat 1 (dp + 1)) dp fr (h 17 5) (stOf h) j).2.1)) 17 5 (h 17 5)) 20 0 A_18) 27 0 (mSeL (mSe (mGt5 h) (h 4 5 1).toNat 1 (dp + 1)) dp fr (h 17 5) (stOf h) j).1) 28 0 (mSeL (mSe (mGt5 h) (h 4 5 1).toNat 1 (dp + 1)) dp fr (h 17 5) (stOf h) j).2.2.2) 17 5 (fwFu ((h 17 5)) ((fr : Int) + (j : Int)).toNat ((h 17 5) ((fr : Int) + (j : Int)).toNat + (-1))) = (fwUc (fwUc (fwUc (fwUc (fwUc h 8 0 (seF (h 8 0) (mSeL (mSe (mGt5 h) (h 4 5 1).toNat 1 (dp + 1)) dp fr (h 17 5) (stOf h) j).2.2.1 (mSeL (mSe (mGt5 h) (h 4 5 1).toNat 1 (dp + 1)) dp fr (h 17 5) (stOf h) j).2.1)) 17 5 (fwFu ((h 17 5)) ((fr : Int) + (j : Int)).toNat ((h 17 5) ((fr : Int) + (j : Int)).toNat + (-1)))) 20 0 A_18) 27 0 ((mSeL (mSe (mGt5 h) (h 4 5 1).toNat 1 (dp + 1)) dp fr (h 17 5) (stOf h) j).1)) 28 0 ((mSeL (mSe (mGt5 h) (h 4 5 1).toNat 1 (dp + 1)) dp fr (h 17 5) (stOf h) j).2.2.2)) from by funext a b; simp only [fwUc]; (repeat' split); all_goals first | rfl | (exfalso; omega)]
            rw [show (fwUc (fwUc (fwUc (fwUc (fwUc h 8 0 (seF (h 8 0) (mSeL (mSe (mGt5 h) (h 4 5 1).toNat 1 (dp + 1)) dp fr (h 17 5) (stOf h) j).2.2.1 (mSeL (mSe (mGt5 h) (h 4 5 1).toNat 1 (dp + 1)) dp fr (h 17 5) (stOf h) j).2.1)) 17 5 (fwFu ((h 17 5)) ((fr : Int) + (j : Int)).toNat ((h 17 5) ((fr : Int) + (j : Int)).toNat + (-1)))) 20 0 A_18) 27 0 ((mSeL (mSe (mGt5 h) (h 4 5 1).toNat 1 (dp + 1)) dp fr (h 17 5) (stOf h) j).1)) 28 0 ((mSeL (mSe (mGt5 h) (h 4 5 1).toNat 1 (dp + 1)) dp fr (h 17 5) (stOf h) j).2.2.2)) = (fwUc (fwUc (fwUc (fwUc (fwUc h 8 0 (seF (h 8 0) (mSeL (mSe (mGt5 h) (h 4 5 1).toNat 1 (dp + 1)) dp fr (h 17 5) (stOf h) j).2.2.1 (mSeL (mSe (mGt5 h) (h 4 5 1).toNat 1 (dp + 1)) dp fr (h 17 5) (stOf h) j).2.1)) 17 5 ((fwFu (h 17 5) (fr + j) (h 17 5 (fr + j) + -1)))) 20 0 A_18) 27 0 (mSeL (mSe (mGt5 h) (h 4 5 1).toNat 1 (dp + 1)) dp fr (h 17 5) (stOf h) j).1) 28 0 (mSeL (mSe (mGt5 h) (h 4 5 1).toNat 1 (dp + 1)) dp fr (h 17 5) (stOf h) j).2.2.2) from by rw [show ((fr : Int) + (j : Int)).toNat = fr + j by omega]]
            refine w_aload_n dX7_search_52 rfl ?_
            refine w_getr 27 0 dX7_search_53 fl_X7_15 rfl (by decide) ?_
            refine w_iload_n dX7_search_56 rfl ?_
            refine w_iload dX7_search_57 rfl ?_
            refine w_iast dX7_search_59 rfl (by decide) (by omega) (by omega) ?_
            rw [show (fwUp (fwUc (fwUc (fwUc (fwUc (fwUc h 8 0 (seF (h 8 0) (mSeL (mSe (mGt5 h) (h 4 5 1).toNat 1 (dp + 1)) dp fr (h 17 5) (stOf h) j).2.2.1 (mSeL (mSe (mGt5 h) (h 4 5 1).toNat 1 (dp + 1)) dp fr (h 17 5) (stOf h) j).2.1)) 17 5 ((fwFu (h 17 5) (fr + j) (h 17 5 (fr + j) + -1)))) 20 0 A_18) 27 0 (mSeL (mSe (mGt5 h) (h 4 5 1).toNat 1 (dp + 1)) dp fr (h 17 5) (stOf h) j).1) 28 0 (mSeL (mSe (mGt5 h) (h 4 5 1).toNat 1 (dp + 1)) dp fr (h 17 5) (stOf h) j).2.2.2) 27 0 ((dp : Int)).toNat ((fr : Int) + (j : Int))) = (fwUc (fwUc (fwUc (fwUc (fwUc (fwUc h 8 0 (seF (h 8 0) (mSeL (mSe (mGt5 h) (h 4 5 1).toNat 1 (dp + 1)) dp fr (h 17 5) (stOf h) j).2.2.1 (mSeL (mSe (mGt5 h) (h 4 5 1).toNat 1 (dp + 1)) dp fr (h 17 5) (stOf h) j).2.1)) 17 5 ((fwFu (h 17 5) (fr + j) (h 17 5 (fr + j) + -1)))) 20 0 A_18) 27 0 (mSeL (mSe (mGt5 h) (h 4 5 1).toNat 1 (dp + 1)) dp fr (h 17 5) (stOf h) j).1) 28 0 (mSeL (mSe (mGt5 h) (h 4 5 1).toNat 1 (dp + 1)) dp fr (h 17 5) (stOf h) j).2.2.2) 27 0 (fwFu (((mSeL (mSe (mGt5 h) (h 4 5 1).toNat 1 (dp + 1)) dp fr (h 17 5) (stOf h) j).1)) ((dp : Int)).toNat ((fr : Int) + (j : Int)))) from fwUp_fu _ _ _ _ _]
            rw [show (fwUc (fwUc (fwUc (fwUc (fwUc (fwUc h 8 0 (seF (h 8 0) (mSeL (mSe (mGt5 h) (h 4 5 1).toNat 1 (dp + 1)) dp fr (h 17 5) (stOf h) j).2.2.1 (mSeL (mSe (mGt5 h) (h 4 5 1).toNat 1 (dp + 1)) dp fr (h 17 5) (stOf h) j).2.1)) 17 5 ((fwFu (h 17 5) (fr + j) (h 17 5 (fr + j) + -1)))) 20 0 A_18) 27 0 (mSeL (mSe (mGt5 h) (h 4 5 1).toNat 1 (dp + 1)) dp fr (h 17 5) (stOf h) j).1) 28 0 (mSeL (mSe (mGt5 h) (h 4 5 1).toNat 1 (dp + 1)) dp fr (h 17 5) (stOf h) j).2.2.2) 27 0 (fwFu (((mSeL (mSe (mGt5 h) (h 4 5 1).toNat 1 (dp + 1)) dp fr (h 17 5) (stOf h) j).1)) ((dp : Int)).toNat ((fr : Int) + (j : Int)))) = (fwUc (fwUc (fwUc (fwUc (fwUc h 8 0 (seF (h 8 0) (mSeL (mSe (mGt5 h) (h 4 5 1).toNat 1 (dp + 1)) dp fr (h 17 5) (stOf h) j).2.2.1 (mSeL (mSe (mGt5 h) (h 4 5 1).toNat 1 (dp + 1)) dp fr (h 17 5) (stOf h) j).2.1)) 17 5 ((fwFu (h 17 5) (fr + j) (h 17 5 (fr + j) + -1)))) 20 0 A_18) 27 0 (fwFu (((mSeL (mSe (mGt5 h) (h 4 5 1).toNat 1 (dp + 1)) dp fr (h 17 5) (stOf h) j).1)) ((dp : Int)).toNat ((fr : Int) + (j : Int)))) 28 0 ((mSeL (mSe (mGt5 h) (h 4 5 1).toNat 1 (dp + 1)) dp fr (h 17 5) (stOf h) j).2.2.2)) from by funext a b; simp only [fwUc]; (repeat' split); all_goals first | rfl | (exfalso; omega)]
            rw [show (fwUc (fwUc (fwUc (fwUc (fwUc h 8 0 (seF (h 8 0) (mSeL (mSe (mGt5 h) (h 4 5 1).toNat 1 (dp + 1)) dp fr (h 17 5) (stOf h) j).2.2.1 (mSeL (mSe (mGt5 h) (h 4 5 1).toNat 1 (dp + 1)) dp fr (h 17 5) (stOf h) j).2.1)) 17 5 ((fwFu (h 17 5) (fr + j) (h 17 5 (fr + j) + -1)))) 20 0 A_18) 27 0 (fwFu (((mSeL (mSe (mGt5 h) (h 4 5 1).toNat 1 (dp + 1)) dp fr (h 17 5) (stOf h) j).1)) ((dp : Int)).toNat ((fr : Int) + (j : Int)))) 28 0 ((mSeL (mSe (mGt5 h) (h 4 5 1).toNat 1 (dp + 1)) dp fr (h 17 5) (stOf h) j).2.2.2)) = (fwUc (fwUc (fwUc (fwUc (fwUc h 8 0 (seF (h 8 0) (mSeL (mSe (mGt5 h) (h 4 5 1).toNat 1 (dp + 1)) dp fr (h 17 5) (stOf h) j).2.2.1 (mSeL (mSe (mGt5 h) (h 4 5 1).toNat 1 (dp + 1)) dp fr (h 17 5) (stOf h) j).2.1)) 17 5 (fwFu (h 17 5) (fr + j) (h 17 5 (fr + j) + -1))) 20 0 A_18) 27 0 (fwFu (mSeL (mSe (mGt5 h) (h 4 5 1).toNat 1 (dp + 1)) dp fr (h 17 5) (stOf h) j).1 dp ((fr + j : Nat) : Int))) 28 0 (mSeL (mSe (mGt5 h) (h 4 5 1).toNat 1 (dp + 1)) dp fr (h 17 5) (stOf h) j).2.2.2) from rfl]
            have hG7 : gOk (fwUc (fwUc (fwUc (fwUc (fwUc h 8 0 (seF (h 8 0) (mSeL (mSe (mGt5 h) (h 4 5 1).toNat 1 (dp + 1)) dp fr (h 17 5) (stOf h) j).2.2.1 (mSeL (mSe (mGt5 h) (h 4 5 1).toNat 1 (dp + 1)) dp fr (h 17 5) (stOf h) j).2.1)) 17 5 (fwFu (h 17 5) (fr + j) (h 17 5 (fr + j) + -1))) 20 0 A_18) 27 0 (fwFu (mSeL (mSe (mGt5 h) (h 4 5 1).toNat 1 (dp + 1)) dp fr (h 17 5) (stOf h) j).1 dp ((fr + j : Nat) : Int))) 28 0 (mSeL (mSe (mGt5 h) (h 4 5 1).toNat 1 (dp + 1)) dp fr (h 17 5) (stOf h) j).2.2.2) 5 := ⟨hG.1, hG.2.1, hG.2.2.1, hG.2.2.2.1, fwFu_rng g8 (by omega)⟩
            have hS7 : stOk (stOf (fwUc (fwUc (fwUc (fwUc (fwUc h 8 0 (seF (h 8 0) (mSeL (mSe (mGt5 h) (h 4 5 1).toNat 1 (dp + 1)) dp fr (h 17 5) (stOf h) j).2.2.1 (mSeL (mSe (mGt5 h) (h 4 5 1).toNat 1 (dp + 1)) dp fr (h 17 5) (stOf h) j).2.1)) 17 5 (fwFu (h 17 5) (fr + j) (h 17 5 (fr + j) + -1))) 20 0 A_18) 27 0 (fwFu (mSeL (mSe (mGt5 h) (h 4 5 1).toNat 1 (dp + 1)) dp fr (h 17 5) (stOf h) j).1 dp ((fr + j : Nat) : Int))) 28 0 (mSeL (mSe (mGt5 h) (h 4 5 1).toNat 1 (dp + 1)) dp fr (h 17 5) (stOf h) j).2.2.2)) := hSj
            refine w_aload_n dX7_search_60 rfl ?_
            refine w_iload_n dX7_search_61 rfl ?_
            refine w_iload_n dX7_search_62 rfl ?_
            refine w_iconst dX7_search_63 ?_
            refine w_iadd dX7_search_64 ?_
            refine w_iload dX7_search_65 rfl ?_
            refine w_callV (d := d + 6) (S := []) [aI ((dp : Int) + 2), aI ((dp : Int) + 1), aI ((fr : Int) + (j : Int))] dX7_search_67 ml_X7_94 ok_X7_search vi_X7_search rfl rfl (by decide) rfl (Nat.le_of_ble_eq_true rfl) ?_
            refine c_search1E (d := d) (dp + 1) (fr + j) ((dp : Int) + 2) ((dp : Int) + 1) ((fr : Int) + (j : Int)) (by omega) (by omega) (by omega) (by first | assumption | omega | decide) (by first | assumption | omega | decide) (by first | assumption | omega | decide) (by omega) (show ((fr + j : Nat) : Int) ≤ h 4 5 1 by omega) ?_
            intro A1
            show fwWP mX7_search (d + 7) 70 [some (aR 8 0), some (aI ((dp : Int) + 2)), some (aI (dp : Int)), some (aI (fr : Int)), some (aI ((fr : Int) + (j : Int)))] [] (fwUc (fwUc (fwUc (fwUc (fwUc (fwUc (fwUc (fwUc (fwUc (fwUc h 8 0 (seF (h 8 0) (mSeL (mSe (mGt5 h) (h 4 5 1).toNat 1 (dp + 1)) dp fr (h 17 5) (stOf h) j).2.2.1 (mSeL (mSe (mGt5 h) (h 4 5 1).toNat 1 (dp + 1)) dp fr (h 17 5) (stOf h) j).2.1)) 17 5 (fwFu (h 17 5) (fr + j) (h 17 5 (fr + j) + -1))) 20 0 A_18) 27 0 (fwFu (mSeL (mSe (mGt5 h) (h 4 5 1).toNat 1 (dp + 1)) dp fr (h 17 5) (stOf h) j).1 dp ((fr + j : Nat) : Int))) 28 0 (mSeL (mSe (mGt5 h) (h 4 5 1).toNat 1 (dp + 1)) dp fr (h 17 5) (stOf h) j).2.2.2) 8 0 (seF ((seF (h 8 0) (mSeL (mSe (mGt5 h) (h 4 5 1).toNat 1 (dp + 1)) dp fr (h 17 5) (stOf h) j).2.2.1 (mSeL (mSe (mGt5 h) (h 4 5 1).toNat 1 (dp + 1)) dp fr (h 17 5) (stOf h) j).2.1)) (mSe (mGt5 h) (h 4 5 1).toNat 1 (dp + 1) (fr + j) (fwFu (h 17 5) (fr + j) (h 17 5 (fr + j) + -1)) (fwFu (mSeL (mSe (mGt5 h) (h 4 5 1).toNat 1 (dp + 1)) dp fr (h 17 5) (stOf h) j).1 dp ((fr + j : Nat) : Int), (mSeL (mSe (mGt5 h) (h 4 5 1).toNat 1 (dp + 1)) dp fr (h 17 5) (stOf h) j).2)).2.2.1 (mSe (mGt5 h) (h 4 5 1).toNat 1 (dp + 1) (fr + j) (fwFu (h 17 5) (fr + j) (h 17 5 (fr + j) + -1)) (fwFu (mSeL (mSe (mGt5 h) (h 4 5 1).toNat 1 (dp + 1)) dp fr (h 17 5) (stOf h) j).1 dp ((fr + j : Nat) : Int), (mSeL (mSe (mGt5 h) (h 4 5 1).toNat 1 (dp + 1)) dp fr (h 17 5) (stOf h) j).2)).2.1)) 17 5 (fwFu (h 17 5) (fr + j) (h 17 5 (fr + j) + -1))) 20 0 A1) 27 0 (mSe (mGt5 h) (h 4 5 1).toNat 1 (dp + 1) (fr + j) (fwFu (h 17 5) (fr + j) (h 17 5 (fr + j) + -1)) (fwFu (mSeL (mSe (mGt5 h) (h 4 5 1).toNat 1 (dp + 1)) dp fr (h 17 5) (stOf h) j).1 dp ((fr + j : Nat) : Int), (mSeL (mSe (mGt5 h) (h 4 5 1).toNat 1 (dp + 1)) dp fr (h 17 5) (stOf h) j).2)).1) 28 0 (mSe (mGt5 h) (h 4 5 1).toNat 1 (dp + 1) (fr + j) (fwFu (h 17 5) (fr + j) (h 17 5 (fr + j) + -1)) (fwFu (mSeL (mSe (mGt5 h) (h 4 5 1).toNat 1 (dp + 1)) dp fr (h 17 5) (stOf h) j).1 dp ((fr + j : Nat) : Int), (mSeL (mSe (mGt5 h) (h 4 5 1).toNat 1 (dp + 1)) dp fr (h 17 5) (stOf h) j).2)).2.2.2) Q
            rw [show fwUc (fwUc (fwUc (fwUc (fwUc (fwUc (fwUc (fwUc (fwUc (fwUc h 8 0 (seF (h 8 0) (mSeL (mSe (mGt5 h) (h 4 5 1).toNat 1 (dp + 1)) dp fr (h 17 5) (stOf h) j).2.2.1 (mSeL (mSe (mGt5 h) (h 4 5 1).toNat 1 (dp + 1)) dp fr (h 17 5) (stOf h) j).2.1)) 17 5 (fwFu (h 17 5) (fr + j) (h 17 5 (fr + j) + -1))) 20 0 A_18) 27 0 (fwFu (mSeL (mSe (mGt5 h) (h 4 5 1).toNat 1 (dp + 1)) dp fr (h 17 5) (stOf h) j).1 dp ((fr + j : Nat) : Int))) 28 0 (mSeL (mSe (mGt5 h) (h 4 5 1).toNat 1 (dp + 1)) dp fr (h 17 5) (stOf h) j).2.2.2) 8 0 (seF ((seF (h 8 0) (mSeL (mSe (mGt5 h) (h 4 5 1).toNat 1 (dp + 1)) dp fr (h 17 5) (stOf h) j).2.2.1 (mSeL (mSe (mGt5 h) (h 4 5 1).toNat 1 (dp + 1)) dp fr (h 17 5) (stOf h) j).2.1)) (mSe (mGt5 h) (h 4 5 1).toNat 1 (dp + 1) (fr + j) (fwFu (h 17 5) (fr + j) (h 17 5 (fr + j) + -1)) (fwFu (mSeL (mSe (mGt5 h) (h 4 5 1).toNat 1 (dp + 1)) dp fr (h 17 5) (stOf h) j).1 dp ((fr + j : Nat) : Int), (mSeL (mSe (mGt5 h) (h 4 5 1).toNat 1 (dp + 1)) dp fr (h 17 5) (stOf h) j).2)).2.2.1 (mSe (mGt5 h) (h 4 5 1).toNat 1 (dp + 1) (fr + j) (fwFu (h 17 5) (fr + j) (h 17 5 (fr + j) + -1)) (fwFu (mSeL (mSe (mGt5 h) (h 4 5 1).toNat 1 (dp + 1)) dp fr (h 17 5) (stOf h) j).1 dp ((fr + j : Nat) : Int), (mSeL (mSe (mGt5 h) (h 4 5 1).toNat 1 (dp + 1)) dp fr (h 17 5) (stOf h) j).2)).2.1)) 17 5 (fwFu (h 17 5) (fr + j) (h 17 5 (fr + j) + -1))) 20 0 A1) 27 0 (mSe (mGt5 h) (h 4 5 1).toNat 1 (dp + 1) (fr + j) (fwFu (h 17 5) (fr + j) (h 17 5 (fr + j) + -1)) (fwFu (mSeL (mSe (mGt5 h) (h 4 5 1).toNat 1 (dp + 1)) dp fr (h 17 5) (stOf h) j).1 dp ((fr + j : Nat) : Int), (mSeL (mSe (mGt5 h) (h 4 5 1).toNat 1 (dp + 1)) dp fr (h 17 5) (stOf h) j).2)).1) 28 0 (mSe (mGt5 h) (h 4 5 1).toNat 1 (dp + 1) (fr + j) (fwFu (h 17 5) (fr + j) (h 17 5 (fr + j) + -1)) (fwFu (mSeL (mSe (mGt5 h) (h 4 5 1).toNat 1 (dp + 1)) dp fr (h 17 5) (stOf h) j).1 dp ((fr + j : Nat) : Int), (mSeL (mSe (mGt5 h) (h 4 5 1).toNat 1 (dp + 1)) dp fr (h 17 5) (stOf h) j).2)).2.2.2 = (fwUc (fwUc (fwUc (fwUc (fwUc h 8 0 (seF ((seF (h 8 0) (mSeL (mSe (mGt5 h) (h 4 5 1).toNat 1 (dp + 1)) dp fr (h 17 5) (stOf h) j).2.2.1 (mSeL (mSe (mGt5 h) (h 4 5 1).toNat 1 (dp + 1)) dp fr (h 17 5) (stOf h) j).2.1)) (mSe (mGt5 h) (h 4 5 1).toNat 1 (dp + 1) (fr + j) (fwFu (h 17 5) (fr + j) (h 17 5 (fr + j) + -1)) (fwFu (mSeL (mSe (mGt5 h) (h 4 5 1).toNat 1 (dp + 1)) dp fr (h 17 5) (stOf h) j).1 dp ((fr + j : Nat) : Int), (mSeL (mSe (mGt5 h) (h 4 5 1).toNat 1 (dp + 1)) dp fr (h 17 5) (stOf h) j).2)).2.2.1 (mSe (mGt5 h) (h 4 5 1).toNat 1 (dp + 1) (fr + j) (fwFu (h 17 5) (fr + j) (h 17 5 (fr + j) + -1)) (fwFu (mSeL (mSe (mGt5 h) (h 4 5 1).toNat 1 (dp + 1)) dp fr (h 17 5) (stOf h) j).1 dp ((fr + j : Nat) : Int), (mSeL (mSe (mGt5 h) (h 4 5 1).toNat 1 (dp + 1)) dp fr (h 17 5) (stOf h) j).2)).2.1)) 17 5 (fwFu (h 17 5) (fr + j) (h 17 5 (fr + j) + -1))) 20 0 A1) 27 0 ((mSe (mGt5 h) (h 4 5 1).toNat 1 (dp + 1) (fr + j) (fwFu (h 17 5) (fr + j) (h 17 5 (fr + j) + -1)) (fwFu (mSeL (mSe (mGt5 h) (h 4 5 1).toNat 1 (dp + 1)) dp fr (h 17 5) (stOf h) j).1 dp ((fr + j : Nat) : Int), (mSeL (mSe (mGt5 h) (h 4 5 1).toNat 1 (dp + 1)) dp fr (h 17 5) (stOf h) j).2)).1)) 28 0 ((mSe (mGt5 h) (h 4 5 1).toNat 1 (dp + 1) (fr + j) (fwFu (h 17 5) (fr + j) (h 17 5 (fr + j) + -1)) (fwFu (mSeL (mSe (mGt5 h) (h 4 5 1).toNat 1 (dp + 1)) dp fr (h 17 5) (stOf h) j).1 dp ((fr + j : Nat) : Int), (mSeL (mSe (mGt5 h) (h 4 5 1).toNat 1 (dp + 1)) dp fr (h 17 5) (stOf h) j).2)).2.2.2)) from by funext a b; simp only [fwUc]; (repeat' split); all_goals first | rfl | (exfalso; omega)]
            rw [seF_seF]
            have hG8 : gOk (fwUc (fwUc (fwUc (fwUc (fwUc h 8 0 (seF (h 8 0) (mSe (mGt5 h) (h 4 5 1).toNat 1 (dp + 1) (fr + j) (fwFu (h 17 5) (fr + j) (h 17 5 (fr + j) + -1)) (fwFu (mSeL (mSe (mGt5 h) (h 4 5 1).toNat 1 (dp + 1)) dp fr (h 17 5) (stOf h) j).1 dp ((fr + j : Nat) : Int), (mSeL (mSe (mGt5 h) (h 4 5 1).toNat 1 (dp + 1)) dp fr (h 17 5) (stOf h) j).2)).2.2.1 (mSe (mGt5 h) (h 4 5 1).toNat 1 (dp + 1) (fr + j) (fwFu (h 17 5) (fr + j) (h 17 5 (fr + j) + -1)) (fwFu (mSeL (mSe (mGt5 h) (h 4 5 1).toNat 1 (dp + 1)) dp fr (h 17 5) (stOf h) j).1 dp ((fr + j : Nat) : Int), (mSeL (mSe (mGt5 h) (h 4 5 1).toNat 1 (dp + 1)) dp fr (h 17 5) (stOf h) j).2)).2.1)) 17 5 ((fwFu (h 17 5) (fr + j) (h 17 5 (fr + j) + -1)))) 20 0 A1) 27 0 (mSe (mGt5 h) (h 4 5 1).toNat 1 (dp + 1) (fr + j) (fwFu (h 17 5) (fr + j) (h 17 5 (fr + j) + -1)) (fwFu (mSeL (mSe (mGt5 h) (h 4 5 1).toNat 1 (dp + 1)) dp fr (h 17 5) (stOf h) j).1 dp ((fr + j : Nat) : Int), (mSeL (mSe (mGt5 h) (h 4 5 1).toNat 1 (dp + 1)) dp fr (h 17 5) (stOf h) j).2)).1) 28 0 (mSe (mGt5 h) (h 4 5 1).toNat 1 (dp + 1) (fr + j) (fwFu (h 17 5) (fr + j) (h 17 5 (fr + j) + -1)) (fwFu (mSeL (mSe (mGt5 h) (h 4 5 1).toNat 1 (dp + 1)) dp fr (h 17 5) (stOf h) j).1 dp ((fr + j : Nat) : Int), (mSeL (mSe (mGt5 h) (h 4 5 1).toNat 1 (dp + 1)) dp fr (h 17 5) (stOf h) j).2)).2.2.2) 5 := ⟨hG.1, hG.2.1, hG.2.2.1, hG.2.2.2.1, fwFu_rng g8 (by omega)⟩
            refine w_aload_n dX7_search_70 rfl ?_
            refine w_getr 4 5 dX7_search_71 fl_X7_25 rfl (by decide) ?_
            refine w_iload dX7_search_74 rfl ?_
            refine w_iconst dX7_search_76 ?_
            refine w_callV (d := d + 6) (S := []) [aI ((fr : Int) + (j : Int)), aI 1] dX7_search_77 ml_X7_48 ok_X1_change vi_X1_change rfl rfl (by decide) rfl (Nat.le_of_ble_eq_true rfl) ?_
            refine c_X1_changeE (d := (d + 5)) 5 ((fr : Int) + (j : Int)) 1 (by decide) (by first | assumption | omega | decide) (by first | assumption | omega | decide) (show (fr : Int) + (j : Int) < h 4 5 1 by first | assumption | omega | decide) ?_
            show fwWP mX7_search (d + 7) 80 [some (aR 8 0), some (aI ((dp : Int) + 2)), some (aI (dp : Int)), some (aI (fr : Int)), some (aI ((fr : Int) + (j : Int)))] [] (fwUc (fwUc (fwUc (fwUc (fwUc (fwUc h 8 0 (seF (h 8 0) (mSe (mGt5 h) (h 4 5 1).toNat 1 (dp + 1) (fr + j) (fwFu (h 17 5) (fr + j) (h 17 5 (fr + j) + -1)) (fwFu (mSeL (mSe (mGt5 h) (h 4 5 1).toNat 1 (dp + 1)) dp fr (h 17 5) (stOf h) j).1 dp ((fr + j : Nat) : Int), (mSeL (mSe (mGt5 h) (h 4 5 1).toNat 1 (dp + 1)) dp fr (h 17 5) (stOf h) j).2)).2.2.1 (mSe (mGt5 h) (h 4 5 1).toNat 1 (dp + 1) (fr + j) (fwFu (h 17 5) (fr + j) (h 17 5 (fr + j) + -1)) (fwFu (mSeL (mSe (mGt5 h) (h 4 5 1).toNat 1 (dp + 1)) dp fr (h 17 5) (stOf h) j).1 dp ((fr + j : Nat) : Int), (mSeL (mSe (mGt5 h) (h 4 5 1).toNat 1 (dp + 1)) dp fr (h 17 5) (stOf h) j).2)).2.1)) 17 5 ((fwFu (h 17 5) (fr + j) (h 17 5 (fr + j) + -1)))) 20 0 A1) 27 0 (mSe (mGt5 h) (h 4 5 1).toNat 1 (dp + 1) (fr + j) (fwFu (h 17 5) (fr + j) (h 17 5 (fr + j) + -1)) (fwFu (mSeL (mSe (mGt5 h) (h 4 5 1).toNat 1 (dp + 1)) dp fr (h 17 5) (stOf h) j).1 dp ((fr + j : Nat) : Int), (mSeL (mSe (mGt5 h) (h 4 5 1).toNat 1 (dp + 1)) dp fr (h 17 5) (stOf h) j).2)).1) 28 0 (mSe (mGt5 h) (h 4 5 1).toNat 1 (dp + 1) (fr + j) (fwFu (h 17 5) (fr + j) (h 17 5 (fr + j) + -1)) (fwFu (mSeL (mSe (mGt5 h) (h 4 5 1).toNat 1 (dp + 1)) dp fr (h 17 5) (stOf h) j).1 dp ((fr + j : Nat) : Int), (mSeL (mSe (mGt5 h) (h 4 5 1).toNat 1 (dp + 1)) dp fr (h 17 5) (stOf h) j).2)).2.2.2) 17 5 (fwFu (((fwFu (h 17 5) (fr + j) (h 17 5 (fr + j) + -1)))) ((fr : Int) + (j : Int)).toNat (((fwFu (h 17 5) (fr + j) (h 17 5 (fr + j) + -1))) ((fr : Int) + (j : Int)).toNat + 1))) Q
            rw [show fwUc (fwUc (fwUc (fwUc (fwUc (fwUc h 8 0 (seF (h 8 0) (mSe (mGt5 h) (h 4 5 1).toNat 1 (dp + 1) (fr + j) (fwFu (h 17 5) (fr + j) (h 17 5 (fr + j) + -1)) (fwFu (mSeL (mSe (mGt5 h) (h 4 5 1).toNat 1 (dp + 1)) dp fr (h 17 5) (stOf h) j).1 dp ((fr + j : Nat) : Int), (mSeL (mSe (mGt5 h) (h 4 5 1).toNat 1 (dp + 1)) dp fr (h 17 5) (stOf h) j).2)).2.2.1 (mSe (mGt5 h) (h 4 5 1).toNat 1 (dp + 1) (fr + j) (fwFu (h 17 5) (fr + j) (h 17 5 (fr + j) + -1)) (fwFu (mSeL (mSe (mGt5 h) (h 4 5 1).toNat 1 (dp + 1)) dp fr (h 17 5) (stOf h) j).1 dp ((fr + j : Nat) : Int), (mSeL (mSe (mGt5 h) (h 4 5 1).toNat 1 (dp + 1)) dp fr (h 17 5) (stOf h) j).2)).2.1)) 17 5 ((fwFu (h 17 5) (fr + j) (h 17 5 (fr + j) + -1)))) 20 0 A1) 27 0 (mSe (mGt5 h) (h 4 5 1).toNat 1 (dp + 1) (fr + j) (fwFu (h 17 5) (fr + j) (h 17 5 (fr + j) + -1)) (fwFu (mSeL (mSe (mGt5 h) (h 4 5 1).toNat 1 (dp + 1)) dp fr (h 17 5) (stOf h) j).1 dp ((fr + j : Nat) : Int), (mSeL (mSe (mGt5 h) (h 4 5 1).toNat 1 (dp + 1)) dp fr (h 17 5) (stOf h) j).2)).1) 28 0 (mSe (mGt5 h) (h 4 5 1).toNat 1 (dp + 1) (fr + j) (fwFu (h 17 5) (fr + j) (h 17 5 (fr + j) + -1)) (fwFu (mSeL (mSe (mGt5 h) (h 4 5 1).toNat 1 (dp + 1)) dp fr (h 17 5) (stOf h) j).1 dp ((fr + j : Nat) : Int), (mSeL (mSe (mGt5 h) (h 4 5 1).toNat 1 (dp + 1)) dp fr (h 17 5) (stOf h) j).2)).2.2.2) 17 5 (fwFu (((fwFu (h 17 5) (fr + j) (h 17 5 (fr + j) + -1)))) ((fr : Int) + (j : Int)).toNat (((fwFu (h 17 5) (fr + j) (h 17 5 (fr + j) + -1))) ((fr : Int) + (j : Int)).toNat + 1)) = (fwUc (fwUc (fwUc (fwUc (fwUc h 8 0 (seF (h 8 0) (mSe (mGt5 h) (h 4 5 1).toNat 1 (dp + 1) (fr + j) (fwFu (h 17 5) (fr + j) (h 17 5 (fr + j) + -1)) (fwFu (mSeL (mSe (mGt5 h) (h 4 5 1).toNat 1 (dp + 1)) dp fr (h 17 5) (stOf h) j).1 dp ((fr + j : Nat) : Int), (mSeL (mSe (mGt5 h) (h 4 5 1).toNat 1 (dp + 1)) dp fr (h 17 5) (stOf h) j).2)).2.2.1 (mSe (mGt5 h) (h 4 5 1).toNat 1 (dp + 1) (fr + j) (fwFu (h 17 5) (fr + j) (h 17 5 (fr + j) + -1)) (fwFu (mSeL (mSe (mGt5 h) (h 4 5 1).toNat 1 (dp + 1)) dp fr (h 17 5) (stOf h) j).1 dp ((fr + j : Nat) : Int), (mSeL (mSe (mGt5 h) (h 4 5 1).toNat 1 (dp + 1)) dp fr (h 17 5) (stOf h) j).2)).2.1)) 17 5 (fwFu (((fwFu (h 17 5) (fr + j) (h 17 5 (fr + j) + -1)))) ((fr : Int) + (j : Int)).toNat (((fwFu (h 17 5) (fr + j) (h 17 5 (fr + j) + -1))) ((fr : Int) + (j : Int)).toNat + 1))) 20 0 A1) 27 0 ((mSe (mGt5 h) (h 4 5 1).toNat 1 (dp + 1) (fr + j) (fwFu (h 17 5) (fr + j) (h 17 5 (fr + j) + -1)) (fwFu (mSeL (mSe (mGt5 h) (h 4 5 1).toNat 1 (dp + 1)) dp fr (h 17 5) (stOf h) j).1 dp ((fr + j : Nat) : Int), (mSeL (mSe (mGt5 h) (h 4 5 1).toNat 1 (dp + 1)) dp fr (h 17 5) (stOf h) j).2)).1)) 28 0 ((mSe (mGt5 h) (h 4 5 1).toNat 1 (dp + 1) (fr + j) (fwFu (h 17 5) (fr + j) (h 17 5 (fr + j) + -1)) (fwFu (mSeL (mSe (mGt5 h) (h 4 5 1).toNat 1 (dp + 1)) dp fr (h 17 5) (stOf h) j).1 dp ((fr + j : Nat) : Int), (mSeL (mSe (mGt5 h) (h 4 5 1).toNat 1 (dp + 1)) dp fr (h 17 5) (stOf h) j).2)).2.2.2)) from by funext a b; simp only [fwUc]; (repeat' split); all_goals first | rfl | (exfalso; omega)]
            rw [show (fwUc (fwUc (fwUc (fwUc (fwUc h 8 0 (seF (h 8 0) (mSe (mGt5 h) (h 4 5 1).toNat 1 (dp + 1) (fr + j) (fwFu (h 17 5) (fr + j) (h 17 5 (fr + j) + -1)) (fwFu (mSeL (mSe (mGt5 h) (h 4 5 1).toNat 1 (dp + 1)) dp fr (h 17 5) (stOf h) j).1 dp ((fr + j : Nat) : Int), (mSeL (mSe (mGt5 h) (h 4 5 1).toNat 1 (dp + 1)) dp fr (h 17 5) (stOf h) j).2)).2.2.1 (mSe (mGt5 h) (h 4 5 1).toNat 1 (dp + 1) (fr + j) (fwFu (h 17 5) (fr + j) (h 17 5 (fr + j) + -1)) (fwFu (mSeL (mSe (mGt5 h) (h 4 5 1).toNat 1 (dp + 1)) dp fr (h 17 5) (stOf h) j).1 dp ((fr + j : Nat) : Int), (mSeL (mSe (mGt5 h) (h 4 5 1).toNat 1 (dp + 1)) dp fr (h 17 5) (stOf h) j).2)).2.1)) 17 5 (fwFu (((fwFu (h 17 5) (fr + j) (h 17 5 (fr + j) + -1)))) ((fr : Int) + (j : Int)).toNat (((fwFu (h 17 5) (fr + j) (h 17 5 (fr + j) + -1))) ((fr : Int) + (j : Int)).toNat + 1))) 20 0 A1) 27 0 ((mSe (mGt5 h) (h 4 5 1).toNat 1 (dp + 1) (fr + j) (fwFu (h 17 5) (fr + j) (h 17 5 (fr + j) + -1)) (fwFu (mSeL (mSe (mGt5 h) (h 4 5 1).toNat 1 (dp + 1)) dp fr (h 17 5) (stOf h) j).1 dp ((fr + j : Nat) : Int), (mSeL (mSe (mGt5 h) (h 4 5 1).toNat 1 (dp + 1)) dp fr (h 17 5) (stOf h) j).2)).1)) 28 0 ((mSe (mGt5 h) (h 4 5 1).toNat 1 (dp + 1) (fr + j) (fwFu (h 17 5) (fr + j) (h 17 5 (fr + j) + -1)) (fwFu (mSeL (mSe (mGt5 h) (h 4 5 1).toNat 1 (dp + 1)) dp fr (h 17 5) (stOf h) j).1 dp ((fr + j : Nat) : Int), (mSeL (mSe (mGt5 h) (h 4 5 1).toNat 1 (dp + 1)) dp fr (h 17 5) (stOf h) j).2)).2.2.2)) = (fwUc (fwUc (fwUc (fwUc (fwUc h 8 0 (seF (h 8 0) (mSe (mGt5 h) (h 4 5 1).toNat 1 (dp + 1) (fr + j) (fwFu (h 17 5) (fr + j) (h 17 5 (fr + j) + -1)) (fwFu (mSeL (mSe (mGt5 h) (h 4 5 1).toNat 1 (dp + 1)) dp fr (h 17 5) (stOf h) j).1 dp ((fr + j : Nat) : Int), (mSeL (mSe (mGt5 h) (h 4 5 1).toNat 1 (dp + 1)) dp fr (h 17 5) (stOf h) j).2)).2.2.1 (mSe (mGt5 h) (h 4 5 1).toNat 1 (dp + 1) (fr + j) (fwFu (h 17 5) (fr + j) (h 17 5 (fr + j) + -1)) (fwFu (mSeL (mSe (mGt5 h) (h 4 5 1).toNat 1 (dp + 1)) dp fr (h 17 5) (stOf h) j).1 dp ((fr + j : Nat) : Int), (mSeL (mSe (mGt5 h) (h 4 5 1).toNat 1 (dp + 1)) dp fr (h 17 5) (stOf h) j).2)).2.1)) 17 5 (h 17 5)) 20 0 A1) 27 0 (mSe (mGt5 h) (h 4 5 1).toNat 1 (dp + 1) (fr + j) (fwFu (h 17 5) (fr + j) (h 17 5 (fr + j) + -1)) (fwFu (mSeL (mSe (mGt5 h) (h 4 5 1).toNat 1 (dp + 1)) dp fr (h 17 5) (stOf h) j).1 dp ((fr + j : Nat) : Int), (mSeL (mSe (mGt5 h) (h 4 5 1).toNat 1 (dp + 1)) dp fr (h 17 5) (stOf h) j).2)).1) 28 0 (mSe (mGt5 h) (h 4 5 1).toNat 1 (dp + 1) (fr + j) (fwFu (h 17 5) (fr + j) (h 17 5 (fr + j) + -1)) (fwFu (mSeL (mSe (mGt5 h) (h 4 5 1).toNat 1 (dp + 1)) dp fr (h 17 5) (stOf h) j).1 dp ((fr + j : Nat) : Int), (mSeL (mSe (mGt5 h) (h 4 5 1).toNat 1 (dp + 1)) dp fr (h 17 5) (stOf h) j).2)).2.2.2) from by rw [show ((fr : Int) + (j : Int)).toNat = fr + j by omega, fwFu_dn]]
            refine w_iinc [some (aR 8 0), some (aI ((dp : Int) + 2)), some (aI (dp : Int)), some (aI (fr : Int)), some (aI (((fr : Int) + (j : Int)) + 1))] dX7_search_80 rfl rfl (by decide) ?_
            refine w_goto 18 dX7_search_83 (by decide) ?_
            refine ih18 (by omega) _ _ ?_ ?_
            · exact (by omega)
            · exact ⟨_, by rw [mSeL, if_pos (by omega)]⟩
      refine lp18 0 (Nat.zero_le _) _ _ ?_ ?_
      · exact (by omega)
      · exact ⟨h 20 0, (seH_self' h).symm⟩
    · (exfalso; omega)
theorem c_search2E {d : Nat} {h : fwH} {Q : Option fwV → fwH → Prop} (dp fr : Nat) (n x y : Int) (en : n = (dp : Int) + 2) (ex : x = (dp : Int)) (ey : y = (fr : Int)) (hP : pOk h 0) (hG : gOk h 5) (hS : stOk (stOf h)) (hd : dp + 2 ≤ 3) (hfr : (fr : Int) ≤ h 4 5 1) (k : ∀ A, Q none (seH h (h 17 5) (mSe (mGt5 h) (h 4 5 1).toNat 2 dp fr (h 17 5) (stOf h)) A)) : fwCt mX7_search (d + 7) [aR 8 0, aI n, aI x, aI y] h Q := by
  subst en ex ey
  exact c_search2 dp fr hP hG hS hd hfr k
set_option maxRecDepth 100000 in
set_option maxHeartbeats 4000000 in
theorem c_search3 {d : Nat} {h : fwH} {Q : Option fwV → fwH → Prop} (dp fr : Nat) (hP : pOk h 0) (hG : gOk h 5) (hS : stOk (stOf h)) (hd : dp + 3 ≤ 3) (hfr : (fr : Int) ≤ h 4 5 1) (k : ∀ A, Q none (seH h (h 17 5) (mSe (mGt5 h) (h 4 5 1).toNat 3 dp fr (h 17 5) (stOf h)) A)) : fwCt mX7_search (d + 8) [aR 8 0, aI ((dp : Int) + 3), aI (dp : Int), aI (fr : Int)] h Q := by
  refine fwCt_of [some (aR 8 0), some (aI ((dp : Int) + 3)), some (aI (dp : Int)), some (aI (fr : Int)), none] rfl rfl rfl ?_
  obtain ⟨⟨g1, g2⟩, ⟨g3, g4⟩, ⟨g5, g6⟩, g7, g8⟩ := id hG
  refine w_iload_n dX7_search_0 rfl ?_
  refine w_iload_n dX7_search_1 rfl ?_
  refine w_icmp_ge 10 dX7_search_2 (by decide) (by omega) (by omega) (fun c2 => ?_) (fun c2 => ?_)
  · (exfalso; omega)
  · refine w_iload_n dX7_search_5 rfl ?_
    refine w_iconst dX7_search_6 ?_
    refine w_icmp_lt 15 dX7_search_7 (by decide) (by omega) (by omega) (fun c7 => ?_) (fun c7 => ?_)
    · refine w_iload_n dX7_search_15 rfl ?_
      refine w_istore [some (aR 8 0), some (aI ((dp : Int) + 3)), some (aI (dp : Int)), some (aI (fr : Int)), some (aI (fr : Int))] dX7_search_16 rfl (by decide) ?_
      have lp18 : ∀ j : Nat, j ≤ ((h 4 5 1).toNat - fr) → ∀ (y18  : Int) (hh18 : fwH), y18 = (fr : Int) + (j : Int) → (∃ A : Nat → Int, hh18 = (fwUc (fwUc (fwUc (fwUc (fwUc h 8 0 (seF (h 8 0) (mSeL (mSe (mGt5 h) (h 4 5 1).toNat 2 (dp + 1)) dp fr (h 17 5) (stOf h) j).2.2.1 (mSeL (mSe (mGt5 h) (h 4 5 1).toNat 2 (dp + 1)) dp fr (h 17 5) (stOf h) j).2.1)) 17 5 (h 17 5)) 20 0 A) 27 0 (mSeL (mSe (mGt5 h) (h 4 5 1).toNat 2 (dp + 1)) dp fr (h 17 5) (stOf h) j).1) 28 0 (mSeL (mSe (mGt5 h) (h 4 5 1).toNat 2 (dp + 1)) dp fr (h 17 5) (stOf h) j).2.2.2)) → fwWP mX7_search (d + 8) 18 [some (aR 8 0), some (aI ((dp : Int) + 3)), some (aI (dp : Int)), some (aI (fr : Int)), some (aI y18)] [] hh18 Q := by
        refine fw_up (fun j hc18 ih18 => ?_)
        intro y18  hh18 ey18 eh18
        subst ey18
        obtain ⟨A_18, eh18⟩ := eh18
        subst eh18
        have hSj := mSeL_ok (nc := (h 4 5 1).toNat) (by omega) (mGt5_rng hP g2) 2 dp fr (h 17 5) (stOf h) g8 hS j (by omega)
        show fwWP mX7_search (d + 8) 18 [some (aR 8 0), some (aI ((dp : Int) + 3)), some (aI (dp : Int)), some (aI (fr : Int)), some (aI ((fr : Int) + (j : Int)))] [] (fwUc (fwUc (fwUc (fwUc (fwUc h 8 0 (seF (h 8 0) (mSeL (mSe (mGt5 h) (h 4 5 1).toNat 2 (dp + 1)) dp fr (h 17 5) (stOf h) j).2.2.1 (mSeL (mSe (mGt5 h) (h 4 5 1).toNat 2 (dp + 1)) dp fr (h 17 5) (stOf h) j).2.1)) 17 5 (h 17 5)) 20 0 A_18) 27 0 (mSeL (mSe (mGt5 h) (h 4 5 1).toNat 2 (dp + 1)) dp fr (h 17 5) (stOf h) j).1) 28 0 (mSeL (mSe (mGt5 h) (h 4 5 1).toNat 2 (dp + 1)) dp fr (h 17 5) (stOf h) j).2.2.2) Q
        refine w_iload dX7_search_18 rfl ?_
        refine w_aload_n dX7_search_20 rfl ?_
        refine w_getr 4 5 dX7_search_21 fl_X7_25 rfl (by decide) ?_
        refine w_getiE (v := h 4 5 1) dX7_search_24 fl_X7_40 rfl (by decide) (by first | rfl | simp [fwUp, fwUc]) ?_
        refine w_icmp_ge 86 dX7_search_27 (by decide) (by omega) (by omega) (fun c27 => ?_) (fun c27 => ?_)
        · have ec18 : ((h 4 5 1).toNat - fr) = j := by omega
          subst ec18
          exact w_vret dX7_search_86 rfl (k _)
        · have hG6 : gOk (fwUc (fwUc (fwUc (fwUc (fwUc h 8 0 (seF (h 8 0) (mSeL (mSe (mGt5 h) (h 4 5 1).toNat 2 (dp + 1)) dp fr (h 17 5) (stOf h) j).2.2.1 (mSeL (mSe (mGt5 h) (h 4 5 1).toNat 2 (dp + 1)) dp fr (h 17 5) (stOf h) j).2.1)) 17 5 (h 17 5)) 20 0 A_18) 27 0 (mSeL (mSe (mGt5 h) (h 4 5 1).toNat 2 (dp + 1)) dp fr (h 17 5) (stOf h) j).1) 28 0 (mSeL (mSe (mGt5 h) (h 4 5 1).toNat 2 (dp + 1)) dp fr (h 17 5) (stOf h) j).2.2.2) 5 := ⟨hG.1, hG.2.1, hG.2.2.1, hG.2.2.2.1, hG.2.2.2.2⟩
          refine w_aload_n dX7_search_30 rfl ?_
          refine w_getr 4 5 dX7_search_31 fl_X7_25 rfl (by decide) ?_
          refine w_iload dX7_search_34 rfl ?_
          refine w_callV (d := d + 7) (S := []) [aI ((fr : Int) + (j : Int))] dX7_search_36 ml_X7_44 ok_X1_heightOf vi_X1_heightOf rfl rfl (by decide) rfl (Nat.le_of_ble_eq_true rfl) ?_
          refine c_X1_heightOfE (d := (d + 7)) 5 ((fr : Int) + (j : Int)) (h 17 5 (fr + j)) (by decide) (by first | assumption | omega | decide) (by first | assumption | omega | decide) (hOf_in (n := h 4 5 1) (H := h 17 5) (c := fr + j) (by omega)) ?_
          show fwWP mX7_search (d + 8) 39 [some (aR 8 0), some (aI ((dp : Int) + 3)), some (aI (dp : Int)), some (aI (fr : Int)), some (aI ((fr : Int) + (j : Int)))] [aI (h 17 5 (fr + j))] (fwUc (fwUc (fwUc (fwUc (fwUc h 8 0 (seF (h 8 0) (mSeL (mSe (mGt5 h) (h 4 5 1).toNat 2 (dp + 1)) dp fr (h 17 5) (stOf h) j).2.2.1 (mSeL (mSe (mGt5 h) (h 4 5 1).toNat 2 (dp + 1)) dp fr (h 17 5) (stOf h) j).2.1)) 17 5 (h 17 5)) 20 0 A_18) 27 0 (mSeL (mSe (mGt5 h) (h 4 5 1).toNat 2 (dp + 1)) dp fr (h 17 5) (stOf h) j).1) 28 0 (mSeL (mSe (mGt5 h) (h 4 5 1).toNat 2 (dp + 1)) dp fr (h 17 5) (stOf h) j).2.2.2) Q
          have hc1 := g8 (fr + j) (by omega)
          refine w_if_le 80 dX7_search_39 (by decide) (by omega) (fun c39 => ?_) (fun c39 => ?_)
          · refine w_iinc [some (aR 8 0), some (aI ((dp : Int) + 3)), some (aI (dp : Int)), some (aI (fr : Int)), some (aI (((fr : Int) + (j : Int)) + 1))] dX7_search_80 rfl rfl (by decide) ?_
            refine w_goto 18 dX7_search_83 (by decide) ?_
            refine ih18 (by omega) _ _ ?_ ?_
            · exact (by omega)
            · exact ⟨_, by rw [mSeL, if_neg (by omega)]⟩
          · refine w_aload_n dX7_search_42 rfl ?_
            refine w_getr 4 5 dX7_search_43 fl_X7_25 rfl (by decide) ?_
            refine w_iload dX7_search_46 rfl ?_
            refine w_iconst dX7_search_48 ?_
            refine w_callV (d := d + 7) (S := []) [aI ((fr : Int) + (j : Int)), aI (-1)] dX7_search_49 ml_X7_48 ok_X1_change vi_X1_change rfl rfl (by decide) rfl (Nat.le_of_ble_eq_true rfl) ?_
            refine c_X1_changeE (d := (d + 6)) 5 ((fr : Int) + (j : Int)) (-1) (by decide) (by first | assumption | omega | decide) (by first | assumption | omega | decide) (show (fr : Int) + (j : Int) < h 4 5 1 by first | assumption | omega | decide) ?_
            show fwWP mX7_search (d + 8) 52 [some (aR 8 0), some (aI ((dp : Int) + 3)), some (aI (dp : Int)), some (aI (fr : Int)), some (aI ((fr : Int) + (j : Int)))] [] (fwUc (fwUc (fwUc (fwUc (fwUc (fwUc h 8 0 (seF (h 8 0) (mSeL (mSe (mGt5 h) (h 4 5 1).toNat 2 (dp + 1)) dp fr (h 17 5) (stOf h) j).2.2.1 (mSeL (mSe (mGt5 h) (h 4 5 1).toNat 2 (dp + 1)) dp fr (h 17 5) (stOf h) j).2.1)) 17 5 (h 17 5)) 20 0 A_18) 27 0 (mSeL (mSe (mGt5 h) (h 4 5 1).toNat 2 (dp + 1)) dp fr (h 17 5) (stOf h) j).1) 28 0 (mSeL (mSe (mGt5 h) (h 4 5 1).toNat 2 (dp + 1)) dp fr (h 17 5) (stOf h) j).2.2.2) 17 5 (fwFu ((h 17 5)) ((fr : Int) + (j : Int)).toNat ((h 17 5) ((fr : Int) + (j : Int)).toNat + (-1)))) Q
            rw [show fwUc (fwUc (fwUc (fwUc (fwUc (fwUc h 8 0 (seF (h 8 0) (mSeL (mSe (mGt5 h) (h 4 5 1).toNat 2 (dp + 1)) dp fr (h 17 5) (stOf h) j).2.2.1 (mSeL (mSe (mGt5 h) (h 4 5 1).toNat 2 (dp + 1)) dp fr (h 17 5) (stOf h) j).2.1)) 17 5 (h 17 5)) 20 0 A_18) 27 0 (mSeL (mSe (mGt5 h) (h 4 5 1).toNat 2 (dp + 1)) dp fr (h 17 5) (stOf h) j).1) 28 0 (mSeL (mSe (mGt5 h) (h 4 5 1).toNat 2 (dp + 1)) dp fr (h 17 5) (stOf h) j).2.2.2) 17 5 (fwFu ((h 17 5)) ((fr : Int) + (j : Int)).toNat ((h 17 5) ((fr : Int) + (j : Int)).toNat + (-1))) = (fwUc (fwUc (fwUc (fwUc (fwUc h 8 0 (seF (h 8 0) (mSeL (mSe (mGt5 h) (h 4 5 1).toNat 2 (dp + 1)) dp fr (h 17 5) (stOf h) j).2.2.1 (mSeL (mSe (mGt5 h) (h 4 5 1).toNat 2 (dp + 1)) dp fr (h 17 5) (stOf h) j).2.1)) 17 5 (fwFu ((h 17 5)) ((fr : Int) + (j : Int)).toNat ((h 17 5) ((fr : Int) + (j : Int)).toNat + (-1)))) 20 0 A_18) 27 0 ((mSeL (mSe (mGt5 h) (h 4 5 1).toNat 2 (dp + 1)) dp fr (h 17 5) (stOf h) j).1)) 28 0 ((mSeL (mSe (mGt5 h) (h 4 5 1).toNat 2 (dp + 1)) dp fr (h 17 5) (stOf h) j).2.2.2)) from by funext a b; simp only [fwUc]; (repeat' split); all_goals first | rfl | (exfalso; omega)]
            rw [show (fwUc (fwUc (fwUc (fwUc (fwUc h 8 0 (seF (h 8 0) (mSeL (mSe (mGt5 h) (h 4 5 1).toNat 2 (dp + 1)) dp fr (h 17 5) (stOf h) j).2.2.1 (mSeL (mSe (mGt5 h) (h 4 5 1).toNat 2 (dp + 1)) dp fr (h 17 5) (stOf h) j).2.1)) 17 5 (fwFu ((h 17 5)) ((fr : Int) + (j : Int)).toNat ((h 17 5) ((fr : Int) + (j : Int)).toNat + (-1)))) 20 0 A_18) 27 0 ((mSeL (mSe (mGt5 h) (h 4 5 1).toNat 2 (dp + 1)) dp fr (h 17 5) (stOf h) j).1)) 28 0 ((mSeL (mSe (mGt5 h) (h 4 5 1).toNat 2 (dp + 1)) dp fr (h 17 5) (stOf h) j).2.2.2)) = (fwUc (fwUc (fwUc (fwUc (fwUc h 8 0 (seF (h 8 0) (mSeL (mSe (mGt5 h) (h 4 5 1).toNat 2 (dp + 1)) dp fr (h 17 5) (stOf h) j).2.2.1 (mSeL (mSe (mGt5 h) (h 4 5 1).toNat 2 (dp + 1)) dp fr (h 17 5) (stOf h) j).2.1)) 17 5 ((fwFu (h 17 5) (fr + j) (h 17 5 (fr + j) + -1)))) 20 0 A_18) 27 0 (mSeL (mSe (mGt5 h) (h 4 5 1).toNat 2 (dp + 1)) dp fr (h 17 5) (stOf h) j).1) 28 0 (mSeL (mSe (mGt5 h) (h 4 5 1).toNat 2 (dp + 1)) dp fr (h 17 5) (stOf h) j).2.2.2) from by rw [show ((fr : Int) + (j : Int)).toNat = fr + j by omega]]
            refine w_aload_n dX7_search_52 rfl ?_
            refine w_getr 27 0 dX7_search_53 fl_X7_15 rfl (by decide) ?_
            refine w_iload_n dX7_search_56 rfl ?_
            refine w_iload dX7_search_57 rfl ?_
            refine w_iast dX7_search_59 rfl (by decide) (by omega) (by omega) ?_
            rw [show (fwUp (fwUc (fwUc (fwUc (fwUc (fwUc h 8 0 (seF (h 8 0) (mSeL (mSe (mGt5 h) (h 4 5 1).toNat 2 (dp + 1)) dp fr (h 17 5) (stOf h) j).2.2.1 (mSeL (mSe (mGt5 h) (h 4 5 1).toNat 2 (dp + 1)) dp fr (h 17 5) (stOf h) j).2.1)) 17 5 ((fwFu (h 17 5) (fr + j) (h 17 5 (fr + j) + -1)))) 20 0 A_18) 27 0 (mSeL (mSe (mGt5 h) (h 4 5 1).toNat 2 (dp + 1)) dp fr (h 17 5) (stOf h) j).1) 28 0 (mSeL (mSe (mGt5 h) (h 4 5 1).toNat 2 (dp + 1)) dp fr (h 17 5) (stOf h) j).2.2.2) 27 0 ((dp : Int)).toNat ((fr : Int) + (j : Int))) = (fwUc (fwUc (fwUc (fwUc (fwUc (fwUc h 8 0 (seF (h 8 0) (mSeL (mSe (mGt5 h) (h 4 5 1).toNat 2 (dp + 1)) dp fr (h 17 5) (stOf h) j).2.2.1 (mSeL (mSe (mGt5 h) (h 4 5 1).toNat 2 (dp + 1)) dp fr (h 17 5) (stOf h) j).2.1)) 17 5 ((fwFu (h 17 5) (fr + j) (h 17 5 (fr + j) + -1)))) 20 0 A_18) 27 0 (mSeL (mSe (mGt5 h) (h 4 5 1).toNat 2 (dp + 1)) dp fr (h 17 5) (stOf h) j).1) 28 0 (mSeL (mSe (mGt5 h) (h 4 5 1).toNat 2 (dp + 1)) dp fr (h 17 5) (stOf h) j).2.2.2) 27 0 (fwFu (((mSeL (mSe (mGt5 h) (h 4 5 1).toNat 2 (dp + 1)) dp fr (h 17 5) (stOf h) j).1)) ((dp : Int)).toNat ((fr : Int) + (j : Int)))) from fwUp_fu _ _ _ _ _]
            rw [show (fwUc (fwUc (fwUc (fwUc (fwUc (fwUc h 8 0 (seF (h 8 0) (mSeL (mSe (mGt5 h) (h 4 5 1).toNat 2 (dp + 1)) dp fr (h 17 5) (stOf h) j).2.2.1 (mSeL (mSe (mGt5 h) (h 4 5 1).toNat 2 (dp + 1)) dp fr (h 17 5) (stOf h) j).2.1)) 17 5 ((fwFu (h 17 5) (fr + j) (h 17 5 (fr + j) + -1)))) 20 0 A_18) 27 0 (mSeL (mSe (mGt5 h) (h 4 5 1).toNat 2 (dp + 1)) dp fr (h 17 5) (stOf h) j).1) 28 0 (mSeL (mSe (mGt5 h) (h 4 5 1).toNat 2 (dp + 1)) dp fr (h 17 5) (stOf h) j).2.2.2) 27 0 (fwFu (((mSeL (mSe (mGt5 h) (h 4 5 1).toNat 2 (dp + 1)) dp fr (h 17 5) (stOf h) j).1)) ((dp : Int)).toNat ((fr : Int) + (j : Int)))) = (fwUc (fwUc (fwUc (fwUc (fwUc h 8 0 (seF (h 8 0) (mSeL (mSe (mGt5 h) (h 4 5 1).toNat 2 (dp + 1)) dp fr (h 17 5) (stOf h) j).2.2.1 (mSeL (mSe (mGt5 h) (h 4 5 1).toNat 2 (dp + 1)) dp fr (h 17 5) (stOf h) j).2.1)) 17 5 ((fwFu (h 17 5) (fr + j) (h 17 5 (fr + j) + -1)))) 20 0 A_18) 27 0 (fwFu (((mSeL (mSe (mGt5 h) (h 4 5 1).toNat 2 (dp + 1)) dp fr (h 17 5) (stOf h) j).1)) ((dp : Int)).toNat ((fr : Int) + (j : Int)))) 28 0 ((mSeL (mSe (mGt5 h) (h 4 5 1).toNat 2 (dp + 1)) dp fr (h 17 5) (stOf h) j).2.2.2)) from by funext a b; simp only [fwUc]; (repeat' split); all_goals first | rfl | (exfalso; omega)]
            rw [show (fwUc (fwUc (fwUc (fwUc (fwUc h 8 0 (seF (h 8 0) (mSeL (mSe (mGt5 h) (h 4 5 1).toNat 2 (dp + 1)) dp fr (h 17 5) (stOf h) j).2.2.1 (mSeL (mSe (mGt5 h) (h 4 5 1).toNat 2 (dp + 1)) dp fr (h 17 5) (stOf h) j).2.1)) 17 5 ((fwFu (h 17 5) (fr + j) (h 17 5 (fr + j) + -1)))) 20 0 A_18) 27 0 (fwFu (((mSeL (mSe (mGt5 h) (h 4 5 1).toNat 2 (dp + 1)) dp fr (h 17 5) (stOf h) j).1)) ((dp : Int)).toNat ((fr : Int) + (j : Int)))) 28 0 ((mSeL (mSe (mGt5 h) (h 4 5 1).toNat 2 (dp + 1)) dp fr (h 17 5) (stOf h) j).2.2.2)) = (fwUc (fwUc (fwUc (fwUc (fwUc h 8 0 (seF (h 8 0) (mSeL (mSe (mGt5 h) (h 4 5 1).toNat 2 (dp + 1)) dp fr (h 17 5) (stOf h) j).2.2.1 (mSeL (mSe (mGt5 h) (h 4 5 1).toNat 2 (dp + 1)) dp fr (h 17 5) (stOf h) j).2.1)) 17 5 (fwFu (h 17 5) (fr + j) (h 17 5 (fr + j) + -1))) 20 0 A_18) 27 0 (fwFu (mSeL (mSe (mGt5 h) (h 4 5 1).toNat 2 (dp + 1)) dp fr (h 17 5) (stOf h) j).1 dp ((fr + j : Nat) : Int))) 28 0 (mSeL (mSe (mGt5 h) (h 4 5 1).toNat 2 (dp + 1)) dp fr (h 17 5) (stOf h) j).2.2.2) from rfl]
            have hG7 : gOk (fwUc (fwUc (fwUc (fwUc (fwUc h 8 0 (seF (h 8 0) (mSeL (mSe (mGt5 h) (h 4 5 1).toNat 2 (dp + 1)) dp fr (h 17 5) (stOf h) j).2.2.1 (mSeL (mSe (mGt5 h) (h 4 5 1).toNat 2 (dp + 1)) dp fr (h 17 5) (stOf h) j).2.1)) 17 5 (fwFu (h 17 5) (fr + j) (h 17 5 (fr + j) + -1))) 20 0 A_18) 27 0 (fwFu (mSeL (mSe (mGt5 h) (h 4 5 1).toNat 2 (dp + 1)) dp fr (h 17 5) (stOf h) j).1 dp ((fr + j : Nat) : Int))) 28 0 (mSeL (mSe (mGt5 h) (h 4 5 1).toNat 2 (dp + 1)) dp fr (h 17 5) (stOf h) j).2.2.2) 5 := ⟨hG.1, hG.2.1, hG.2.2.1, hG.2.2.2.1, fwFu_rng g8 (by omega)⟩
            have hS7 : stOk (stOf (fwUc (fwUc (fwUc (fwUc (fwUc h 8 0 (seF (h 8 0) (mSeL (mSe (mGt5 h) (h 4 5 1).toNat 2 (dp + 1)) dp fr (h 17 5) (stOf h) j).2.2.1 (mSeL (mSe (mGt5 h) (h 4 5 1).toNat 2 (dp + 1)) dp fr (h 17 5) (stOf h) j).2.1)) 17 5 (fwFu (h 17 5) (fr + j) (h 17 5 (fr + j) + -1))) 20 0 A_18) 27 0 (fwFu (mSeL (mSe (mGt5 h) (h 4 5 1).toNat 2 (dp + 1)) dp fr (h 17 5) (stOf h) j).1 dp ((fr + j : Nat) : Int))) 28 0 (mSeL (mSe (mGt5 h) (h 4 5 1).toNat 2 (dp + 1)) dp fr (h 17 5) (stOf h) j).2.2.2)) := hSj
            refine w_aload_n dX7_search_60 rfl ?_
            refine w_iload_n dX7_search_61 rfl ?_
            refine w_iload_n dX7_search_62 rfl ?_
            refine w_iconst dX7_search_63 ?_
            refine w_iadd dX7_search_64 ?_
            refine w_iload dX7_search_65 rfl ?_
            refine w_callV (d := d + 7) (S := []) [aI ((dp : Int) + 3), aI ((dp : Int) + 1), aI ((fr : Int) + (j : Int))] dX7_search_67 ml_X7_94 ok_X7_search vi_X7_search rfl rfl (by decide) rfl (Nat.le_of_ble_eq_true rfl) ?_
            refine c_search2E (d := d) (dp + 1) (fr + j) ((dp : Int) + 3) ((dp : Int) + 1) ((fr : Int) + (j : Int)) (by omega) (by omega) (by omega) (by first | assumption | omega | decide) (by first | assumption | omega | decide) (by first | assumption | omega | decide) (by omega) (show ((fr + j : Nat) : Int) ≤ h 4 5 1 by omega) ?_
            intro A1
            show fwWP mX7_search (d + 8) 70 [some (aR 8 0), some (aI ((dp : Int) + 3)), some (aI (dp : Int)), some (aI (fr : Int)), some (aI ((fr : Int) + (j : Int)))] [] (fwUc (fwUc (fwUc (fwUc (fwUc (fwUc (fwUc (fwUc (fwUc (fwUc h 8 0 (seF (h 8 0) (mSeL (mSe (mGt5 h) (h 4 5 1).toNat 2 (dp + 1)) dp fr (h 17 5) (stOf h) j).2.2.1 (mSeL (mSe (mGt5 h) (h 4 5 1).toNat 2 (dp + 1)) dp fr (h 17 5) (stOf h) j).2.1)) 17 5 (fwFu (h 17 5) (fr + j) (h 17 5 (fr + j) + -1))) 20 0 A_18) 27 0 (fwFu (mSeL (mSe (mGt5 h) (h 4 5 1).toNat 2 (dp + 1)) dp fr (h 17 5) (stOf h) j).1 dp ((fr + j : Nat) : Int))) 28 0 (mSeL (mSe (mGt5 h) (h 4 5 1).toNat 2 (dp + 1)) dp fr (h 17 5) (stOf h) j).2.2.2) 8 0 (seF ((seF (h 8 0) (mSeL (mSe (mGt5 h) (h 4 5 1).toNat 2 (dp + 1)) dp fr (h 17 5) (stOf h) j).2.2.1 (mSeL (mSe (mGt5 h) (h 4 5 1).toNat 2 (dp + 1)) dp fr (h 17 5) (stOf h) j).2.1)) (mSe (mGt5 h) (h 4 5 1).toNat 2 (dp + 1) (fr + j) (fwFu (h 17 5) (fr + j) (h 17 5 (fr + j) + -1)) (fwFu (mSeL (mSe (mGt5 h) (h 4 5 1).toNat 2 (dp + 1)) dp fr (h 17 5) (stOf h) j).1 dp ((fr + j : Nat) : Int), (mSeL (mSe (mGt5 h) (h 4 5 1).toNat 2 (dp + 1)) dp fr (h 17 5) (stOf h) j).2)).2.2.1 (mSe (mGt5 h) (h 4 5 1).toNat 2 (dp + 1) (fr + j) (fwFu (h 17 5) (fr + j) (h 17 5 (fr + j) + -1)) (fwFu (mSeL (mSe (mGt5 h) (h 4 5 1).toNat 2 (dp + 1)) dp fr (h 17 5) (stOf h) j).1 dp ((fr + j : Nat) : Int), (mSeL (mSe (mGt5 h) (h 4 5 1).toNat 2 (dp + 1)) dp fr (h 17 5) (stOf h) j).2)).2.1)) 17 5 (fwFu (h 17 5) (fr + j) (h 17 5 (fr + j) + -1))) 20 0 A1) 27 0 (mSe (mGt5 h) (h 4 5 1).toNat 2 (dp + 1) (fr + j) (fwFu (h 17 5) (fr + j) (h 17 5 (fr + j) + -1)) (fwFu (mSeL (mSe (mGt5 h) (h 4 5 1).toNat 2 (dp + 1)) dp fr (h 17 5) (stOf h) j).1 dp ((fr + j : Nat) : Int), (mSeL (mSe (mGt5 h) (h 4 5 1).toNat 2 (dp + 1)) dp fr (h 17 5) (stOf h) j).2)).1) 28 0 (mSe (mGt5 h) (h 4 5 1).toNat 2 (dp + 1) (fr + j) (fwFu (h 17 5) (fr + j) (h 17 5 (fr + j) + -1)) (fwFu (mSeL (mSe (mGt5 h) (h 4 5 1).toNat 2 (dp + 1)) dp fr (h 17 5) (stOf h) j).1 dp ((fr + j : Nat) : Int), (mSeL (mSe (mGt5 h) (h 4 5 1).toNat 2 (dp + 1)) dp fr (h 17 5) (stOf h) j).2)).2.2.2) Q
            rw [show fwUc (fwUc (fwUc (fwUc (fwUc (fwUc (fwUc (fwUc (fwUc (fwUc h 8 0 (seF (h 8 0) (mSeL (mSe (mGt5 h) (h 4 5 1).toNat 2 (dp + 1)) dp fr (h 17 5) (stOf h) j).2.2.1 (mSeL (mSe (mGt5 h) (h 4 5 1).toNat 2 (dp + 1)) dp fr (h 17 5) (stOf h) j).2.1)) 17 5 (fwFu (h 17 5) (fr + j) (h 17 5 (fr + j) + -1))) 20 0 A_18) 27 0 (fwFu (mSeL (mSe (mGt5 h) (h 4 5 1).toNat 2 (dp + 1)) dp fr (h 17 5) (stOf h) j).1 dp ((fr + j : Nat) : Int))) 28 0 (mSeL (mSe (mGt5 h) (h 4 5 1).toNat 2 (dp + 1)) dp fr (h 17 5) (stOf h) j).2.2.2) 8 0 (seF ((seF (h 8 0) (mSeL (mSe (mGt5 h) (h 4 5 1).toNat 2 (dp + 1)) dp fr (h 17 5) (stOf h) j).2.2.1 (mSeL (mSe (mGt5 h) (h 4 5 1).toNat 2 (dp + 1)) dp fr (h 17 5) (stOf h) j).2.1)) (mSe (mGt5 h) (h 4 5 1).toNat 2 (dp + 1) (fr + j) (fwFu (h 17 5) (fr + j) (h 17 5 (fr + j) + -1)) (fwFu (mSeL (mSe (mGt5 h) (h 4 5 1).toNat 2 (dp + 1)) dp fr (h 17 5) (stOf h) j).1 dp ((fr + j : Nat) : Int), (mSeL (mSe (mGt5 h) (h 4 5 1).toNat 2 (dp + 1)) dp fr (h 17 5) (stOf h) j).2)).2.2.1 (mSe (mGt5 h) (h 4 5 1).toNat 2 (dp + 1) (fr + j) (fwFu (h 17 5) (fr + j) (h 17 5 (fr + j) + -1)) (fwFu (mSeL (mSe (mGt5 h) (h 4 5 1).toNat 2 (dp + 1)) dp fr (h 17 5) (stOf h) j).1 dp ((fr + j : Nat) : Int), (mSeL (mSe (mGt5 h) (h 4 5 1).toNat 2 (dp + 1)) dp fr (h 17 5) (stOf h) j).2)).2.1)) 17 5 (fwFu (h 17 5) (fr + j) (h 17 5 (fr + j) + -1))) 20 0 A1) 27 0 (mSe (mGt5 h) (h 4 5 1).toNat 2 (dp + 1) (fr + j) (fwFu (h 17 5) (fr + j) (h 17 5 (fr + j) + -1)) (fwFu (mSeL (mSe (mGt5 h) (h 4 5 1).toNat 2 (dp + 1)) dp fr (h 17 5) (stOf h) j).1 dp ((fr + j : Nat) : Int), (mSeL (mSe (mGt5 h) (h 4 5 1).toNat 2 (dp + 1)) dp fr (h 17 5) (stOf h) j).2)).1) 28 0 (mSe (mGt5 h) (h 4 5 1).toNat 2 (dp + 1) (fr + j) (fwFu (h 17 5) (fr + j) (h 17 5 (fr + j) + -1)) (fwFu (mSeL (mSe (mGt5 h) (h 4 5 1).toNat 2 (dp + 1)) dp fr (h 17 5) (stOf h) j).1 dp ((fr + j : Nat) : Int), (mSeL (mSe (mGt5 h) (h 4 5 1).toNat 2 (dp + 1)) dp fr (h 17 5) (stOf h) j).2)).2.2.2 = (fwUc (fwUc (fwUc (fwUc (fwUc h 8 0 (seF ((seF (h 8 0) (mSeL (mSe (mGt5 h) (h 4 5 1).toNat 2 (dp + 1)) dp fr (h 17 5) (stOf h) j).2.2.1 (mSeL (mSe (mGt5 h) (h 4 5 1).toNat 2 (dp + 1)) dp fr (h 17 5) (stOf h) j).2.1)) (mSe (mGt5 h) (h 4 5 1).toNat 2 (dp + 1) (fr + j) (fwFu (h 17 5) (fr + j) (h 17 5 (fr + j) + -1)) (fwFu (mSeL (mSe (mGt5 h) (h 4 5 1).toNat 2 (dp + 1)) dp fr (h 17 5) (stOf h) j).1 dp ((fr + j : Nat) : Int), (mSeL (mSe (mGt5 h) (h 4 5 1).toNat 2 (dp + 1)) dp fr (h 17 5) (stOf h) j).2)).2.2.1 (mSe (mGt5 h) (h 4 5 1).toNat 2 (dp + 1) (fr + j) (fwFu (h 17 5) (fr + j) (h 17 5 (fr + j) + -1)) (fwFu (mSeL (mSe (mGt5 h) (h 4 5 1).toNat 2 (dp + 1)) dp fr (h 17 5) (stOf h) j).1 dp ((fr + j : Nat) : Int), (mSeL (mSe (mGt5 h) (h 4 5 1).toNat 2 (dp + 1)) dp fr (h 17 5) (stOf h) j).2)).2.1)) 17 5 (fwFu (h 17 5) (fr + j) (h 17 5 (fr + j) + -1))) 20 0 A1) 27 0 ((mSe (mGt5 h) (h 4 5 1).toNat 2 (dp + 1) (fr + j) (fwFu (h 17 5) (fr + j) (h 17 5 (fr + j) + -1)) (fwFu (mSeL (mSe (mGt5 h) (h 4 5 1).toNat 2 (dp + 1)) dp fr (h 17 5) (stOf h) j).1 dp ((fr + j : Nat) : Int), (mSeL (mSe (mGt5 h) (h 4 5 1).toNat 2 (dp + 1)) dp fr (h 17 5) (stOf h) j).2)).1)) 28 0 ((mSe (mGt5 h) (h 4 5 1).toNat 2 (dp + 1) (fr + j) (fwFu (h 17 5) (fr + j) (h 17 5 (fr + j) + -1)) (fwFu (mSeL (mSe (mGt5 h) (h 4 5 1).toNat 2 (dp + 1)) dp fr (h 17 5) (stOf h) j).1 dp ((fr + j : Nat) : Int), (mSeL (mSe (mGt5 h) (h 4 5 1).toNat 2 (dp + 1)) dp fr (h 17 5) (stOf h) j).2)).2.2.2)) from by funext a b; simp only [fwUc]; (repeat' split); all_goals first | rfl | (exfalso; omega)]
            rw [seF_seF]
            have hG8 : gOk (fwUc (fwUc (fwUc (fwUc (fwUc h 8 0 (seF (h 8 0) (mSe (mGt5 h) (h 4 5 1).toNat 2 (dp + 1) (fr + j) (fwFu (h 17 5) (fr + j) (h 17 5 (fr + j) + -1)) (fwFu (mSeL (mSe (mGt5 h) (h 4 5 1).toNat 2 (dp + 1)) dp fr (h 17 5) (stOf h) j).1 dp ((fr + j : Nat) : Int), (mSeL (mSe (mGt5 h) (h 4 5 1).toNat 2 (dp + 1)) dp fr (h 17 5) (stOf h) j).2)).2.2.1 (mSe (mGt5 h) (h 4 5 1).toNat 2 (dp + 1) (fr + j) (fwFu (h 17 5) (fr + j) (h 17 5 (fr + j) + -1)) (fwFu (mSeL (mSe (mGt5 h) (h 4 5 1).toNat 2 (dp + 1)) dp fr (h 17 5) (stOf h) j).1 dp ((fr + j : Nat) : Int), (mSeL (mSe (mGt5 h) (h 4 5 1).toNat 2 (dp + 1)) dp fr (h 17 5) (stOf h) j).2)).2.1)) 17 5 ((fwFu (h 17 5) (fr + j) (h 17 5 (fr + j) + -1)))) 20 0 A1) 27 0 (mSe (mGt5 h) (h 4 5 1).toNat 2 (dp + 1) (fr + j) (fwFu (h 17 5) (fr + j) (h 17 5 (fr + j) + -1)) (fwFu (mSeL (mSe (mGt5 h) (h 4 5 1).toNat 2 (dp + 1)) dp fr (h 17 5) (stOf h) j).1 dp ((fr + j : Nat) : Int), (mSeL (mSe (mGt5 h) (h 4 5 1).toNat 2 (dp + 1)) dp fr (h 17 5) (stOf h) j).2)).1) 28 0 (mSe (mGt5 h) (h 4 5 1).toNat 2 (dp + 1) (fr + j) (fwFu (h 17 5) (fr + j) (h 17 5 (fr + j) + -1)) (fwFu (mSeL (mSe (mGt5 h) (h 4 5 1).toNat 2 (dp + 1)) dp fr (h 17 5) (stOf h) j).1 dp ((fr + j : Nat) : Int), (mSeL (mSe (mGt5 h) (h 4 5 1).toNat 2 (dp + 1)) dp fr (h 17 5) (stOf h) j).2)).2.2.2) 5 := ⟨hG.1, hG.2.1, hG.2.2.1, hG.2.2.2.1, fwFu_rng g8 (by omega)⟩
            refine w_aload_n dX7_search_70 rfl ?_
            refine w_getr 4 5 dX7_search_71 fl_X7_25 rfl (by decide) ?_
            refine w_iload dX7_search_74 rfl ?_
            refine w_iconst dX7_search_76 ?_
            refine w_callV (d := d + 7) (S := []) [aI ((fr : Int) + (j : Int)), aI 1] dX7_search_77 ml_X7_48 ok_X1_change vi_X1_change rfl rfl (by decide) rfl (Nat.le_of_ble_eq_true rfl) ?_
            refine c_X1_changeE (d := (d + 6)) 5 ((fr : Int) + (j : Int)) 1 (by decide) (by first | assumption | omega | decide) (by first | assumption | omega | decide) (show (fr : Int) + (j : Int) < h 4 5 1 by first | assumption | omega | decide) ?_
            show fwWP mX7_search (d + 8) 80 [some (aR 8 0), some (aI ((dp : Int) + 3)), some (aI (dp : Int)), some (aI (fr : Int)), some (aI ((fr : Int) + (j : Int)))] [] (fwUc (fwUc (fwUc (fwUc (fwUc (fwUc h 8 0 (seF (h 8 0) (mSe (mGt5 h) (h 4 5 1).toNat 2 (dp + 1) (fr + j) (fwFu (h 17 5) (fr + j) (h 17 5 (fr + j) + -1)) (fwFu (mSeL (mSe (mGt5 h) (h 4 5 1).toNat 2 (dp + 1)) dp fr (h 17 5) (stOf h) j).1 dp ((fr + j : Nat) : Int), (mSeL (mSe (mGt5 h) (h 4 5 1).toNat 2 (dp + 1)) dp fr (h 17 5) (stOf h) j).2)).2.2.1 (mSe (mGt5 h) (h 4 5 1).toNat 2 (dp + 1) (fr + j) (fwFu (h 17 5) (fr + j) (h 17 5 (fr + j) + -1)) (fwFu (mSeL (mSe (mGt5 h) (h 4 5 1).toNat 2 (dp + 1)) dp fr (h 17 5) (stOf h) j).1 dp ((fr + j : Nat) : Int), (mSeL (mSe (mGt5 h) (h 4 5 1).toNat 2 (dp + 1)) dp fr (h 17 5) (stOf h) j).2)).2.1)) 17 5 ((fwFu (h 17 5) (fr + j) (h 17 5 (fr + j) + -1)))) 20 0 A1) 27 0 (mSe (mGt5 h) (h 4 5 1).toNat 2 (dp + 1) (fr + j) (fwFu (h 17 5) (fr + j) (h 17 5 (fr + j) + -1)) (fwFu (mSeL (mSe (mGt5 h) (h 4 5 1).toNat 2 (dp + 1)) dp fr (h 17 5) (stOf h) j).1 dp ((fr + j : Nat) : Int), (mSeL (mSe (mGt5 h) (h 4 5 1).toNat 2 (dp + 1)) dp fr (h 17 5) (stOf h) j).2)).1) 28 0 (mSe (mGt5 h) (h 4 5 1).toNat 2 (dp + 1) (fr + j) (fwFu (h 17 5) (fr + j) (h 17 5 (fr + j) + -1)) (fwFu (mSeL (mSe (mGt5 h) (h 4 5 1).toNat 2 (dp + 1)) dp fr (h 17 5) (stOf h) j).1 dp ((fr + j : Nat) : Int), (mSeL (mSe (mGt5 h) (h 4 5 1).toNat 2 (dp + 1)) dp fr (h 17 5) (stOf h) j).2)).2.2.2) 17 5 (fwFu (((fwFu (h 17 5) (fr + j) (h 17 5 (fr + j) + -1)))) ((fr : Int) + (j : Int)).toNat (((fwFu (h 17 5) (fr + j) (h 17 5 (fr + j) + -1))) ((fr : Int) + (j : Int)).toNat + 1))) Q
            rw [show fwUc (fwUc (fwUc (fwUc (fwUc (fwUc h 8 0 (seF (h 8 0) (mSe (mGt5 h) (h 4 5 1).toNat 2 (dp + 1) (fr + j) (fwFu (h 17 5) (fr + j) (h 17 5 (fr + j) + -1)) (fwFu (mSeL (mSe (mGt5 h) (h 4 5 1).toNat 2 (dp + 1)) dp fr (h 17 5) (stOf h) j).1 dp ((fr + j : Nat) : Int), (mSeL (mSe (mGt5 h) (h 4 5 1).toNat 2 (dp + 1)) dp fr (h 17 5) (stOf h) j).2)).2.2.1 (mSe (mGt5 h) (h 4 5 1).toNat 2 (dp + 1) (fr + j) (fwFu (h 17 5) (fr + j) (h 17 5 (fr + j) + -1)) (fwFu (mSeL (mSe (mGt5 h) (h 4 5 1).toNat 2 (dp + 1)) dp fr (h 17 5) (stOf h) j).1 dp ((fr + j : Nat) : Int), (mSeL (mSe (mGt5 h) (h 4 5 1).toNat 2 (dp + 1)) dp fr (h 17 5) (stOf h) j).2)).2.1)) 17 5 ((fwFu (h 17 5) (fr + j) (h 17 5 (fr + j) + -1)))) 20 0 A1) 27 0 (mSe (mGt5 h) (h 4 5 1).toNat 2 (dp + 1) (fr + j) (fwFu (h 17 5) (fr + j) (h 17 5 (fr + j) + -1)) (fwFu (mSeL (mSe (mGt5 h) (h 4 5 1).toNat 2 (dp + 1)) dp fr (h 17 5) (stOf h) j).1 dp ((fr + j : Nat) : Int), (mSeL (mSe (mGt5 h) (h 4 5 1).toNat 2 (dp + 1)) dp fr (h 17 5) (stOf h) j).2)).1) 28 0 (mSe (mGt5 h) (h 4 5 1).toNat 2 (dp + 1) (fr + j) (fwFu (h 17 5) (fr + j) (h 17 5 (fr + j) + -1)) (fwFu (mSeL (mSe (mGt5 h) (h 4 5 1).toNat 2 (dp + 1)) dp fr (h 17 5) (stOf h) j).1 dp ((fr + j : Nat) : Int), (mSeL (mSe (mGt5 h) (h 4 5 1).toNat 2 (dp + 1)) dp fr (h 17 5) (stOf h) j).2)).2.2.2) 17 5 (fwFu (((fwFu (h 17 5) (fr + j) (h 17 5 (fr + j) + -1)))) ((fr : Int) + (j : Int)).toNat (((fwFu (h 17 5) (fr + j) (h 17 5 (fr + j) + -1))) ((fr : Int) + (j : Int)).toNat + 1)) = (fwUc (fwUc (fwUc (fwUc (fwUc h 8 0 (seF (h 8 0) (mSe (mGt5 h) (h 4 5 1).toNat 2 (dp + 1) (fr + j) (fwFu (h 17 5) (fr + j) (h 17 5 (fr + j) + -1)) (fwFu (mSeL (mSe (mGt5 h) (h 4 5 1).toNat 2 (dp + 1)) dp fr (h 17 5) (stOf h) j).1 dp ((fr + j : Nat) : Int), (mSeL (mSe (mGt5 h) (h 4 5 1).toNat 2 (dp + 1)) dp fr (h 17 5) (stOf h) j).2)).2.2.1 (mSe (mGt5 h) (h 4 5 1).toNat 2 (dp + 1) (fr + j) (fwFu (h 17 5) (fr + j) (h 17 5 (fr + j) + -1)) (fwFu (mSeL (mSe (mGt5 h) (h 4 5 1).toNat 2 (dp + 1)) dp fr (h 17 5) (stOf h) j).1 dp ((fr + j : Nat) : Int), (mSeL (mSe (mGt5 h) (h 4 5 1).toNat 2 (dp + 1)) dp fr (h 17 5) (stOf h) j).2)).2.1)) 17 5 (fwFu (((fwFu (h 17 5) (fr + j) (h 17 5 (fr + j) + -1)))) ((fr : Int) + (j : Int)).toNat (((fwFu (h 17 5) (fr + j) (h 17 5 (fr + j) + -1))) ((fr : Int) + (j : Int)).toNat + 1))) 20 0 A1) 27 0 ((mSe (mGt5 h) (h 4 5 1).toNat 2 (dp + 1) (fr + j) (fwFu (h 17 5) (fr + j) (h 17 5 (fr + j) + -1)) (fwFu (mSeL (mSe (mGt5 h) (h 4 5 1).toNat 2 (dp + 1)) dp fr (h 17 5) (stOf h) j).1 dp ((fr + j : Nat) : Int), (mSeL (mSe (mGt5 h) (h 4 5 1).toNat 2 (dp + 1)) dp fr (h 17 5) (stOf h) j).2)).1)) 28 0 ((mSe (mGt5 h) (h 4 5 1).toNat 2 (dp + 1) (fr + j) (fwFu (h 17 5) (fr + j) (h 17 5 (fr + j) + -1)) (fwFu (mSeL (mSe (mGt5 h) (h 4 5 1).toNat 2 (dp + 1)) dp fr (h 17 5) (stOf h) j).1 dp ((fr + j : Nat) : Int), (mSeL (mSe (mGt5 h) (h 4 5 1).toNat 2 (dp + 1)) dp fr (h 17 5) (stOf h) j).2)).2.2.2)) from by funext a b; simp only [fwUc]; (repeat' split); all_goals first | rfl | (exfalso; omega)]
            rw [show (fwUc (fwUc (fwUc (fwUc (fwUc h 8 0 (seF (h 8 0) (mSe (mGt5 h) (h 4 5 1).toNat 2 (dp + 1) (fr + j) (fwFu (h 17 5) (fr + j) (h 17 5 (fr + j) + -1)) (fwFu (mSeL (mSe (mGt5 h) (h 4 5 1).toNat 2 (dp + 1)) dp fr (h 17 5) (stOf h) j).1 dp ((fr + j : Nat) : Int), (mSeL (mSe (mGt5 h) (h 4 5 1).toNat 2 (dp + 1)) dp fr (h 17 5) (stOf h) j).2)).2.2.1 (mSe (mGt5 h) (h 4 5 1).toNat 2 (dp + 1) (fr + j) (fwFu (h 17 5) (fr + j) (h 17 5 (fr + j) + -1)) (fwFu (mSeL (mSe (mGt5 h) (h 4 5 1).toNat 2 (dp + 1)) dp fr (h 17 5) (stOf h) j).1 dp ((fr + j : Nat) : Int), (mSeL (mSe (mGt5 h) (h 4 5 1).toNat 2 (dp + 1)) dp fr (h 17 5) (stOf h) j).2)).2.1)) 17 5 (fwFu (((fwFu (h 17 5) (fr + j) (h 17 5 (fr + j) + -1)))) ((fr : Int) + (j : Int)).toNat (((fwFu (h 17 5) (fr + j) (h 17 5 (fr + j) + -1))) ((fr : Int) + (j : Int)).toNat + 1))) 20 0 A1) 27 0 ((mSe (mGt5 h) (h 4 5 1).toNat 2 (dp + 1) (fr + j) (fwFu (h 17 5) (fr + j) (h 17 5 (fr + j) + -1)) (fwFu (mSeL (mSe (mGt5 h) (h 4 5 1).toNat 2 (dp + 1)) dp fr (h 17 5) (stOf h) j).1 dp ((fr + j : Nat) : Int), (mSeL (mSe (mGt5 h) (h 4 5 1).toNat 2 (dp + 1)) dp fr (h 17 5) (stOf h) j).2)).1)) 28 0 ((mSe (mGt5 h) (h 4 5 1).toNat 2 (dp + 1) (fr + j) (fwFu (h 17 5) (fr + j) (h 17 5 (fr + j) + -1)) (fwFu (mSeL (mSe (mGt5 h) (h 4 5 1).toNat 2 (dp + 1)) dp fr (h 17 5) (stOf h) j).1 dp ((fr + j : Nat) : Int), (mSeL (mSe (mGt5 h) (h 4 5 1).toNat 2 (dp + 1)) dp fr (h 17 5) (stOf h) j).2)).2.2.2)) = (fwUc (fwUc (fwUc (fwUc (fwUc h 8 0 (seF (h 8 0) (mSe (mGt5 h) (h 4 5 1).toNat 2 (dp + 1) (fr + j) (fwFu (h 17 5) (fr + j) (h 17 5 (fr + j) + -1)) (fwFu (mSeL (mSe (mGt5 h) (h 4 5 1).toNat 2 (dp + 1)) dp fr (h 17 5) (stOf h) j).1 dp ((fr + j : Nat) : Int), (mSeL (mSe (mGt5 h) (h 4 5 1).toNat 2 (dp + 1)) dp fr (h 17 5) (stOf h) j).2)).2.2.1 (mSe (mGt5 h) (h 4 5 1).toNat 2 (dp + 1) (fr + j) (fwFu (h 17 5) (fr + j) (h 17 5 (fr + j) + -1)) (fwFu (mSeL (mSe (mGt5 h) (h 4 5 1).toNat 2 (dp + 1)) dp fr (h 17 5) (stOf h) j).1 dp ((fr + j : Nat) : Int), (mSeL (mSe (mGt5 h) (h 4 5 1).toNat 2 (dp + 1)) dp fr (h 17 5) (stOf h) j).2)).2.1)) 17 5 (h 17 5)) 20 0 A1) 27 0 (mSe (mGt5 h) (h 4 5 1).toNat 2 (dp + 1) (fr + j) (fwFu (h 17 5) (fr + j) (h 17 5 (fr + j) + -1)) (fwFu (mSeL (mSe (mGt5 h) (h 4 5 1).toNat 2 (dp + 1)) dp fr (h 17 5) (stOf h) j).1 dp ((fr + j : Nat) : Int), (mSeL (mSe (mGt5 h) (h 4 5 1).toNat 2 (dp + 1)) dp fr (h 17 5) (stOf h) j).2)).1) 28 0 (mSe (mGt5 h) (h 4 5 1).toNat 2 (dp + 1) (fr + j) (fwFu (h 17 5) (fr + j) (h 17 5 (fr + j) + -1)) (fwFu (mSeL (mSe (mGt5 h) (h 4 5 1).toNat 2 (dp + 1)) dp fr (h 17 5) (stOf h) j).1 dp ((fr + j : Nat) : Int), (mSeL (mSe (mGt5 h) (h 4 5 1).toNat 2 (dp + 1)) dp fr (h 17 5) (stOf h) j).2)).2.2.2) from by rw [show ((fr : Int) + (j : Int)).toNat = fr + j by omega, fwFu_dn]]
            refine w_iinc [some (aR 8 0), some (aI ((dp : Int) + 3)), some (aI (dp : Int)), some (aI (fr : Int)), some (aI (((fr : Int) + (j : Int)) + 1))] dX7_search_80 rfl rfl (by decide) ?_
            refine w_goto 18 dX7_search_83 (by decide) ?_
            refine ih18 (by omega) _ _ ?_ ?_
            · exact (by omega)
            · exact ⟨_, by rw [mSeL, if_pos (by omega)]⟩
      refine lp18 0 (Nat.zero_le _) _ _ ?_ ?_
      · exact (by omega)
      · exact ⟨h 20 0, (seH_self' h).symm⟩
    · (exfalso; omega)
theorem c_search3E {d : Nat} {h : fwH} {Q : Option fwV → fwH → Prop} (dp fr : Nat) (n x y : Int) (en : n = (dp : Int) + 3) (ex : x = (dp : Int)) (ey : y = (fr : Int)) (hP : pOk h 0) (hG : gOk h 5) (hS : stOk (stOf h)) (hd : dp + 3 ≤ 3) (hfr : (fr : Int) ≤ h 4 5 1) (k : ∀ A, Q none (seH h (h 17 5) (mSe (mGt5 h) (h 4 5 1).toNat 3 dp fr (h 17 5) (stOf h)) A)) : fwCt mX7_search (d + 8) [aR 8 0, aI n, aI x, aI y] h Q := by
  subst en ex ey
  exact c_search3 dp fr hP hG hS hd hfr k
theorem c_searchAny {d : Nat} {h : fwH} {Q : Option fwV → fwH → Prop} (n : Nat) (hP : pOk h 0) (hG : gOk h 5) (hS : stOk (stOf h)) (hd : n ≤ 3) (hfr : 0 ≤ h 4 5 1) (k : ∀ A, Q none (seH h (h 17 5) (mSe (mGt5 h) (h 4 5 1).toNat n 0 0 (h 17 5) (stOf h)) A)) : fwCt mX7_search (d + 8) [aR 8 0, aI (n : Int), aI 0, aI 0] h Q := by
  rcases (show n = 0 ∨ n = 1 ∨ n = 2 ∨ n = 3 by omega) with rfl | rfl | rfl | rfl
  · exact c_search0E (d := d + 3) 0 0 _ _ _ (by omega) (by omega) (by omega) hP hG hS (by omega) (by omega) k
  · exact c_search1E (d := d + 2) 0 0 _ _ _ (by omega) (by omega) (by omega) hP hG hS (by omega) (by omega) k
  · exact c_search2E (d := d + 1) 0 0 _ _ _ (by omega) (by omega) (by omega) hP hG hS (by omega) (by omega) k
  · exact c_search3E (d := d) 0 0 _ _ _ (by omega) (by omega) (by omega) hP hG hS (by omega) (by omega) k
/-- the state of the search when it has ended -/
def mShp (h : fwH) (n : Nat) : fwSt := mSe (mGt h) (h 4 0 1).toNat n 0 0 (h 17 0) (h 27 0, 0, h 8 0 5, h 28 0)
/-- the heap then -/
def shpH (h : fwH) (n : Nat) (A : Nat → Int) : fwH := fwUc (fwUc (fwUc (fwUc (fwUc (fwUc h 4 5 (h 4 0)) 8 0 (seF (h 8 0) (mShp h n).2.2.1 (mShp h n).2.1)) 17 5 (h 17 0)) 20 0 A) 27 0 (mShp h n).1) 28 0 (mShp h n).2.2.2
theorem mShp_ok {h : fwH} (hP : pOk h 0) (hG : gOk h 0) (hb : 0 ≤ h 8 0 5 ∧ h 8 0 5 ≤ 300000) (n : Nat) : stOk (mShp h n) := mSe_ok (by have := hG.1; omega) (mGt_rng hP hG.1.2) _ _ _ _ _ hG.2.2.2.2 ⟨Or.inl rfl, hb⟩
theorem shpE (h : fwH) (n : Nat) (A : Nat → Int) : seH (fwUc (fwUc (fwUc h 4 5 (h 4 0)) 8 0 (fwFu (h 8 0) 6 0)) 17 5 (h 17 0)) ((fwUc (fwUc (fwUc h 4 5 (h 4 0)) 8 0 (fwFu (h 8 0) 6 0)) 17 5 (h 17 0)) 17 5) (mSe (mGt5 (fwUc (fwUc (fwUc h 4 5 (h 4 0)) 8 0 (fwFu (h 8 0) 6 0)) 17 5 (h 17 0))) ((fwUc (fwUc (fwUc h 4 5 (h 4 0)) 8 0 (fwFu (h 8 0) 6 0)) 17 5 (h 17 0)) 4 5 1).toNat n 0 0 ((fwUc (fwUc (fwUc h 4 5 (h 4 0)) 8 0 (fwFu (h 8 0) 6 0)) 17 5 (h 17 0)) 17 5) (stOf (fwUc (fwUc (fwUc h 4 5 (h 4 0)) 8 0 (fwFu (h 8 0) 6 0)) 17 5 (h 17 0)))) A = shpH h n A := by
  show fwUc (fwUc (fwUc (fwUc (fwUc (fwUc (fwUc (fwUc h 4 5 (h 4 0)) 8 0 (fwFu (h 8 0) 6 0)) 17 5 (h 17 0)) 8 0 (seF (fwFu (h 8 0) 6 0) (mShp h n).2.2.1 (mShp h n).2.1)) 17 5 (h 17 0)) 20 0 A) 27 0 (mShp h n).1) 28 0 (mShp h n).2.2.2 = _
  unfold shpH
  rw [show seF (fwFu (h 8 0) 6 0) (mShp h n).2.2.1 (mShp h n).2.1 = seF (h 8 0) (mShp h n).2.2.1 (mShp h n).2.1 from by
    funext s
    unfold seF fwFu
    by_cases e6 : s = 6
    · simp [e6]
    · simp [e6]]
  funext a b
  simp only [fwUc]
  (repeat' split)
  all_goals first | rfl | (exfalso; omega)
set_option maxRecDepth 100000 in
set_option maxHeartbeats 4000000 in
theorem c_X7_shapeBy {d : Nat} {h : fwH} {Q : Option fwV → fwH → Prop} (n : Nat) (hP : pOk h 0) (hG : gOk h 0) (hn : 1 ≤ h 4 0 1) (hM : ∀ c : Nat, c < 10 → h 17 0 c ≤ 999) (hnn : n ≤ 3) (hbg : 0 ≤ h 8 0 5 ∧ h 8 0 5 ≤ 300000) (k : ∀ A, Q (some (aI ((mShp h n).2.2.1))) (shpH h n A)) : fwCt mX7_shapeBy (d + 9) [aR 8 0, aI (n : Int)] h Q := by
  refine fwCt_of [some (aR 8 0), some (aI (n : Int))] rfl rfl rfl ?_
  obtain ⟨⟨g1, g2⟩, ⟨g3, g4⟩, ⟨g5, g6⟩, g7, g8⟩ := id hG
  have hpz := hP.1
  refine w_aload_n dX7_shapeBy_0 rfl ?_
  refine w_getr 4 5 dX7_shapeBy_1 fl_X7_25 rfl (by decide) ?_
  refine w_aload_n dX7_shapeBy_4 rfl ?_
  refine w_getr 3 0 dX7_shapeBy_5 fl_X7_21 rfl (by decide) ?_
  refine w_getr 4 0 dX7_shapeBy_8 fl_X7_29 rfl (by decide) ?_
  refine w_callV (d := d + 8) (S := []) [aR 4 0] dX7_shapeBy_11 ml_X7_34 ok_X1_copyFrom vi_X1_copyFrom rfl rfl (by decide) rfl (Nat.le_of_ble_eq_true rfl) ?_
  refine c_X1_copyFrom (d := (d + 8)) 5 0 (by decide) (by decide) (by first | assumption | omega | decide) (by first | assumption | omega | decide) ?_
  show fwWP mX7_shapeBy (d + 9) 14 [some (aR 8 0), some (aI (n : Int))] [] (fwUc (fwUc h 17 5 (h 17 0)) 4 5 (h 4 0)) Q
  rw [show fwUc (fwUc h 17 5 (h 17 0)) 4 5 (h 4 0) = (fwUc (fwUc h 4 5 (h 4 0)) 17 5 (h 17 0)) from by funext a b; simp only [fwUc]; (repeat' split); all_goals first | rfl | (exfalso; omega)]
  refine w_aload_n dX7_shapeBy_14 rfl ?_
  refine w_iconst dX7_shapeBy_15 ?_
  refine w_putz dX7_shapeBy_16 fl_X7_90 fp_8_6 rfl (by first | omega | exact fwB_01 _) (by decide) ?_
  rw [show (fwUp (fwUc (fwUc h 4 5 (h 4 0)) 17 5 (h 17 0)) 8 0 6 0) = (fwUc (fwUc (fwUc h 4 5 (h 4 0)) 17 5 (h 17 0)) 8 0 (fwFu (h 8 0) 6 0)) from fwUp_fu _ _ _ _ _]
  rw [show (fwUc (fwUc (fwUc h 4 5 (h 4 0)) 17 5 (h 17 0)) 8 0 (fwFu (h 8 0) 6 0)) = (fwUc (fwUc (fwUc h 4 5 (h 4 0)) 8 0 (fwFu (h 8 0) 6 0)) 17 5 (h 17 0)) from by funext a b; simp only [fwUc]; (repeat' split); all_goals first | rfl | (exfalso; omega)]
  have hG5 : gOk (fwUc (fwUc (fwUc h 4 5 (h 4 0)) 8 0 (fwFu (h 8 0) 6 0)) 17 5 (h 17 0)) 5 := ⟨hG.1, hG.2.1, hG.2.2.1, hG.2.2.2.1, hG.2.2.2.2⟩
  have hS5 : stOk (stOf (fwUc (fwUc (fwUc h 4 5 (h 4 0)) 8 0 (fwFu (h 8 0) 6 0)) 17 5 (h 17 0))) := ⟨Or.inl rfl, hbg⟩
  refine w_aload_n dX7_shapeBy_19 rfl ?_
  refine w_iload_n dX7_shapeBy_20 rfl ?_
  refine w_iconst dX7_shapeBy_21 ?_
  refine w_iconst dX7_shapeBy_22 ?_
  refine w_callV (d := d + 8) (S := []) [aI (n : Int), aI 0, aI 0] dX7_shapeBy_23 ml_X7_94 ok_X7_search vi_X7_search rfl rfl (by decide) rfl (Nat.le_of_ble_eq_true rfl) ?_
  refine c_searchAny (d := d) n (by first | assumption | omega | decide) (by first | assumption | omega | decide) (by first | assumption | omega | decide) (by omega) g1 ?_
  intro A1
  show fwWP mX7_shapeBy (d + 9) 26 [some (aR 8 0), some (aI (n : Int))] [] (seH (fwUc (fwUc (fwUc h 4 5 (h 4 0)) 8 0 (fwFu (h 8 0) 6 0)) 17 5 (h 17 0)) ((fwUc (fwUc (fwUc h 4 5 (h 4 0)) 8 0 (fwFu (h 8 0) 6 0)) 17 5 (h 17 0)) 17 5) (mSe (mGt5 (fwUc (fwUc (fwUc h 4 5 (h 4 0)) 8 0 (fwFu (h 8 0) 6 0)) 17 5 (h 17 0))) ((fwUc (fwUc (fwUc h 4 5 (h 4 0)) 8 0 (fwFu (h 8 0) 6 0)) 17 5 (h 17 0)) 4 5 1).toNat n 0 0 ((fwUc (fwUc (fwUc h 4 5 (h 4 0)) 8 0 (fwFu (h 8 0) 6 0)) 17 5 (h 17 0)) 17 5) (stOf (fwUc (fwUc (fwUc h 4 5 (h 4 0)) 8 0 (fwFu (h 8 0) 6 0)) 17 5 (h 17 0)))) A1) Q
  rw [show seH (fwUc (fwUc (fwUc h 4 5 (h 4 0)) 8 0 (fwFu (h 8 0) 6 0)) 17 5 (h 17 0)) ((fwUc (fwUc (fwUc h 4 5 (h 4 0)) 8 0 (fwFu (h 8 0) 6 0)) 17 5 (h 17 0)) 17 5) (mSe (mGt5 (fwUc (fwUc (fwUc h 4 5 (h 4 0)) 8 0 (fwFu (h 8 0) 6 0)) 17 5 (h 17 0))) ((fwUc (fwUc (fwUc h 4 5 (h 4 0)) 8 0 (fwFu (h 8 0) 6 0)) 17 5 (h 17 0)) 4 5 1).toNat n 0 0 ((fwUc (fwUc (fwUc h 4 5 (h 4 0)) 8 0 (fwFu (h 8 0) 6 0)) 17 5 (h 17 0)) 17 5) (stOf (fwUc (fwUc (fwUc h 4 5 (h 4 0)) 8 0 (fwFu (h 8 0) 6 0)) 17 5 (h 17 0)))) A1 = shpH h n A1 from shpE h n A1]
  refine w_aload_n dX7_shapeBy_26 rfl ?_
  refine w_getiE (v := (mShp h n).2.2.1) dX7_shapeBy_27 fl_X7_98 rfl (by decide) rfl ?_
  exact w_iret dX7_shapeBy_30 rfl (k _)
def mSpo (h : fwH) : Nat → Int × Int
  | 0 => (-1, 0)
  | c + 1 => if mStay (h 4 0 1) (h 17 0) (h 4 0 3) (c : Int) ≠ -1 ∧ ((mSpo h c).1 = -1 ∨ (mSpo h c).2 < mGt h (mRs (h 17 0) (mStay (h 4 0 1) (h 17 0) (h 4 0 3) (c : Int)))) then ((c : Int), mGt h (mRs (h 17 0) (mStay (h 4 0 1) (h 17 0) (h 4 0 3) (c : Int)))) else mSpo h c
theorem mSpo_rng {h : fwH} (hP : pOk h 0) (hG : gOk h 0) : ∀ c : Nat, (c : Int) ≤ h 4 0 1 → (-1 ≤ (mSpo h c).1 ∧ (mSpo h c).1 < c) ∧ 0 ≤ (mSpo h c).2 ∧ (mSpo h c).2 ≤ 300000 := by
  intro c
  induction c with
  | zero => intro _; simp [mSpo]
  | succ c ih =>
    intro hc
    have h1 := ih (by omega)
    rw [mSpo]
    split
    · refine ⟨by dsimp only; omega, mGt_rng hP hG.1.2 _ (mRs_rng hG.1 (by omega) (by omega) hG.2.2.2.2)⟩
    · omega
set_option maxRecDepth 100000 in
set_option maxHeartbeats 4000000 in
theorem c_X7_spoilCell {d : Nat} {h : fwH} {Q : Option fwV → fwH → Prop}  (hP : pOk h 0) (hG : gOk h 0) (hn : 1 ≤ h 4 0 1) (hM : ∀ c : Nat, c < 10 → h 17 0 c ≤ 999) (k : ∀ A, Q (some (aI ((mSpo h (h 4 0 1).toNat).1))) (fwUc (fwUc (fwUc h 4 5 (h 4 0)) 17 5 (h 17 0)) 20 0 A)) : fwCt mX7_spoilCell (d + 4) [aR 8 0] h Q := by
  refine fwCt_of [some (aR 8 0), none, none, none, none, none] rfl rfl rfl ?_
  obtain ⟨⟨g1, g2⟩, ⟨g3, g4⟩, ⟨g5, g6⟩, g7, g8⟩ := id hG
  have hpz := hP.1
  refine w_aload_n dX7_spoilCell_0 rfl ?_
  refine w_getr 4 5 dX7_spoilCell_1 fl_X7_25 rfl (by decide) ?_
  refine w_aload_n dX7_spoilCell_4 rfl ?_
  refine w_getr 3 0 dX7_spoilCell_5 fl_X7_21 rfl (by decide) ?_
  refine w_getr 4 0 dX7_spoilCell_8 fl_X7_29 rfl (by decide) ?_
  refine w_callV (d := d + 3) (S := []) [aR 4 0] dX7_spoilCell_11 ml_X7_34 ok_X1_copyFrom vi_X1_copyFrom rfl rfl (by decide) rfl (Nat.le_of_ble_eq_true rfl) ?_
  refine c_X1_copyFrom (d := (d + 3)) 5 0 (by decide) (by decide) (by first | assumption | omega | decide) (by first | assumption | omega | decide) ?_
  show fwWP mX7_spoilCell (d + 4) 14 [some (aR 8 0), none, none, none, none, none] [] (fwUc (fwUc h 17 5 (h 17 0)) 4 5 (h 4 0)) Q
  rw [show fwUc (fwUc h 17 5 (h 17 0)) 4 5 (h 4 0) = (fwUc (fwUc h 4 5 (h 4 0)) 17 5 (h 17 0)) from by funext a b; simp only [fwUc]; (repeat' split); all_goals first | rfl | (exfalso; omega)]
  refine w_iconst dX7_spoilCell_14 ?_
  refine w_istore_n [some (aR 8 0), some (aI (-1)), none, none, none, none] dX7_spoilCell_15 rfl (by decide) ?_
  refine w_iconst dX7_spoilCell_16 ?_
  refine w_istore_n [some (aR 8 0), some (aI (-1)), some (aI 0), none, none, none] dX7_spoilCell_17 rfl (by decide) ?_
  refine w_iconst dX7_spoilCell_18 ?_
  refine w_istore_n [some (aR 8 0), some (aI (-1)), some (aI 0), some (aI 0), none, none] dX7_spoilCell_19 rfl (by decide) ?_
  have lp20 : ∀ c : Nat, c ≤ (h 4 0 1).toNat → ∀ (y20 ce mo : Int) (hh20 : fwH), y20 = (c : Int) → ce = (mSpo h c).1 → mo = (mSpo h c).2 → (∃ A : Nat → Int, hh20 = (fwUc (fwUc (fwUc h 4 5 (h 4 0)) 17 5 (h 17 0)) 20 0 A)) → fwWP mX7_spoilCell (d + 4) 20 [some (aR 8 0), some (aI ce), some (aI mo), some (aI y20), none, none] [] hh20 Q := by
    refine fw_up (fun c hc20 ih20 => ?_)
    intro y20 ce mo hh20 ey20 e_ce e_mo eh20
    subst ey20
    subst e_ce
    subst e_mo
    obtain ⟨A_20, eh20⟩ := eh20
    subst eh20
    have hsp := mSpo_rng hP hG c (by omega)
    show fwWP mX7_spoilCell (d + 4) 20 [some (aR 8 0), some (aI ((mSpo h c).1)), some (aI ((mSpo h c).2)), some (aI (c : Int)), none, none] [] (fwUc (fwUc (fwUc h 4 5 (h 4 0)) 17 5 (h 17 0)) 20 0 A_20) Q
    refine w_iload_n dX7_spoilCell_20 rfl ?_
    refine w_aload_n dX7_spoilCell_21 rfl ?_
    refine w_getr 4 5 dX7_spoilCell_22 fl_X7_25 rfl (by decide) ?_
    refine w_getiE (v := (h 4 0) 1) dX7_spoilCell_25 fl_X7_40 rfl (by decide) (by first | rfl | simp [fwUp, fwUc]) ?_
    refine w_icmp_ge 105 dX7_spoilCell_28 (by decide) (by omega) (by omega) (fun c28 => ?_) (fun c28 => ?_)
    · have ec20 : (h 4 0 1).toNat = c := by omega
      subst ec20
      refine w_iload_n dX7_spoilCell_105 rfl ?_
      exact w_iret dX7_spoilCell_106 rfl (k _)
    · have hG6 : gOk (fwUc (fwUc (fwUc h 4 5 (h 4 0)) 17 5 (h 17 0)) 20 0 A_20) 5 := ⟨hG.1, hG.2.1, hG.2.2.1, hG.2.2.2.1, hG.2.2.2.2⟩
      have hcc : 0 ≤ (c : Int) ∧ (c : Int) < h 4 0 1 := by omega
      refine w_aload_n dX7_spoilCell_31 rfl ?_
      refine w_getr 4 5 dX7_spoilCell_32 fl_X7_25 rfl (by decide) ?_
      refine w_iload_n dX7_spoilCell_35 rfl ?_
      refine w_callV (d := d + 3) (S := []) [aI (c : Int)] dX7_spoilCell_36 ml_X7_108 ok_X1_stayOf vi_X1_stayOf rfl rfl (by decide) rfl (Nat.le_of_ble_eq_true rfl) ?_
      refine c_X1_stayOf (d := d) 5 (c : Int) (by decide) (by first | assumption | omega | decide) (by first | assumption | omega | decide) ?_
      show fwWP mX7_spoilCell (d + 4) 39 [some (aR 8 0), some (aI ((mSpo h c).1)), some (aI ((mSpo h c).2)), some (aI (c : Int)), none, none] [aI (mStay ((h 4 0) 1) (h 17 0) ((h 4 0) 3) (c : Int))] (fwUc (fwUc (fwUc h 4 5 (h 4 0)) 17 5 (h 17 0)) 20 0 A_20) Q
      have hsr := mStay_rng (h 17 0) (n := h 4 0 1) (rs := h 4 0 3) (x := (c : Int)) ⟨g1, g2⟩ (by omega)
      refine w_istore [some (aR 8 0), some (aI ((mSpo h c).1)), some (aI ((mSpo h c).2)), some (aI (c : Int)), some (aI (mStay ((h 4 0) 1) (h 17 0) ((h 4 0) 3) (c : Int))), none] dX7_spoilCell_39 rfl (by decide) ?_
      refine w_iload dX7_spoilCell_41 rfl ?_
      refine w_iconst dX7_spoilCell_43 ?_
      refine w_icmp_eq 99 dX7_spoilCell_44 (by decide) (by omega) (by omega) (fun c44 => ?_) (fun c44 => ?_)
      · refine w_iinc [some (aR 8 0), some (aI ((mSpo h c).1)), some (aI ((mSpo h c).2)), some (aI ((c : Int) + 1)), some (aI (mStay ((h 4 0) 1) (h 17 0) ((h 4 0) 3) (c : Int))), none] dX7_spoilCell_99 rfl rfl (by decide) ?_
        refine w_goto 20 dX7_spoilCell_102 (by decide) ?_
        refine w_drop [4] [some (aR 8 0), some (aI ((mSpo h c).1)), some (aI ((mSpo h c).2)), some (aI ((c : Int) + 1)), none, none] rfl ?_
        refine ih20 (by omega) _ _ _ _ ?_ ?_ ?_ ?_
        · exact (by omega)
        · exact (by rw [mSpo]; first | rw [if_pos (by omega)] | rw [if_neg (by omega)])
        · exact (by rw [mSpo]; first | rw [if_pos (by omega)] | rw [if_neg (by omega)])
        · exact ⟨_, rfl⟩
      · refine w_aload_n dX7_spoilCell_47 rfl ?_
        refine w_getr 4 5 dX7_spoilCell_48 fl_X7_25 rfl (by decide) ?_
        refine w_iload dX7_spoilCell_51 rfl ?_
        refine w_iconst dX7_spoilCell_53 ?_
        refine w_callV (d := d + 3) (S := []) [aI (mStay ((h 4 0) 1) (h 17 0) ((h 4 0) 3) (c : Int)), aI 1] dX7_spoilCell_54 ml_X7_48 ok_X1_change vi_X1_change rfl rfl (by decide) rfl (Nat.le_of_ble_eq_true rfl) ?_
        refine c_X1_changeE (d := (d + 2)) 5 (mStay ((h 4 0) 1) (h 17 0) ((h 4 0) 3) (c : Int)) 1 (by decide) (by first | assumption | omega | decide) (by first | assumption | omega | decide) (show mStay ((h 4 0) 1) (h 17 0) ((h 4 0) 3) (c : Int) < (h 4 0) 1 by first | assumption | omega | decide) ?_
        show fwWP mX7_spoilCell (d + 4) 57 [some (aR 8 0), some (aI ((mSpo h c).1)), some (aI ((mSpo h c).2)), some (aI (c : Int)), some (aI (mStay ((h 4 0) 1) (h 17 0) ((h 4 0) 3) (c : Int))), none] [] (fwUc (fwUc (fwUc (fwUc h 4 5 (h 4 0)) 17 5 (h 17 0)) 20 0 A_20) 17 5 (fwFu ((h 17 0)) (mStay ((h 4 0) 1) (h 17 0) ((h 4 0) 3) (c : Int)).toNat ((h 17 0) (mStay ((h 4 0) 1) (h 17 0) ((h 4 0) 3) (c : Int)).toNat + 1))) Q
        rw [show fwUc (fwUc (fwUc (fwUc h 4 5 (h 4 0)) 17 5 (h 17 0)) 20 0 A_20) 17 5 (fwFu ((h 17 0)) (mStay ((h 4 0) 1) (h 17 0) ((h 4 0) 3) (c : Int)).toNat ((h 17 0) (mStay ((h 4 0) 1) (h 17 0) ((h 4 0) 3) (c : Int)).toNat + 1)) = (fwUc (fwUc (fwUc h 4 5 (h 4 0)) 17 5 (fwFu ((h 17 0)) (mStay ((h 4 0) 1) (h 17 0) ((h 4 0) 3) (c : Int)).toNat ((h 17 0) (mStay ((h 4 0) 1) (h 17 0) ((h 4 0) 3) (c : Int)).toNat + 1))) 20 0 A_20) from by funext a b; simp only [fwUc]; (repeat' split); all_goals first | rfl | (exfalso; omega)]
        have eRs : mRs (h 17 0) (mStay (h 4 0 1) (h 17 0) (h 4 0 3) (c : Int)) = fwFu (h 17 0) (mStay (h 4 0 1) (h 17 0) (h 4 0 3) (c : Int)).toNat (h 17 0 (mStay (h 4 0 1) (h 17 0) (h 4 0 3) (c : Int)).toNat + 1) := by rw [mRs, if_neg (by omega)]
        rw [show (fwUc (fwUc (fwUc h 4 5 (h 4 0)) 17 5 (fwFu ((h 17 0)) (mStay ((h 4 0) 1) (h 17 0) ((h 4 0) 3) (c : Int)).toNat ((h 17 0) (mStay ((h 4 0) 1) (h 17 0) ((h 4 0) 3) (c : Int)).toNat + 1))) 20 0 A_20) = (fwUc (fwUc (fwUc h 4 5 (h 4 0)) 17 5 (mRs (h 17 0) (mStay (h 4 0 1) (h 17 0) (h 4 0 3) (c : Int)))) 20 0 A_20) from by rw [eRs]]
        have hRr : ∀ q : Nat, q < 10 → 0 ≤ (mRs (h 17 0) (mStay (h 4 0 1) (h 17 0) (h 4 0 3) (c : Int))) q ∧ (mRs (h 17 0) (mStay (h 4 0 1) (h 17 0) (h 4 0 3) (c : Int))) q ≤ 1000 := mRs_rng ⟨g1, g2⟩ (by omega) (by omega) g8
        have hG7 : gOk (fwUc (fwUc (fwUc h 4 5 (h 4 0)) 17 5 (mRs (h 17 0) (mStay (h 4 0 1) (h 17 0) (h 4 0 3) (c : Int)))) 20 0 A_20) 5 := ⟨hG.1, hG.2.1, hG.2.2.1, hG.2.2.2.1, hRr⟩
        have hgr := mGt_rng hP g2 _ hRr
        refine w_aload_n dX7_spoilCell_57 rfl ?_
        refine w_getr 3 0 dX7_spoilCell_58 fl_X7_21 rfl (by decide) ?_
        refine w_getr 5 0 dX7_spoilCell_61 fl_X7_52 rfl (by decide) ?_
        refine w_aload_n dX7_spoilCell_64 rfl ?_
        refine w_getr 4 5 dX7_spoilCell_65 fl_X7_25 rfl (by decide) ?_
        refine w_callV (d := d + 3) (S := []) [aR 4 5] dX7_spoilCell_68 ml_X7_104 ok_X3_gainsOn vi_X3_gainsOn rfl rfl (by decide) rfl (Nat.le_of_ble_eq_true rfl) ?_
        refine c_X3_gainsOn (d := d) 0 5 (by decide) (by decide) (by first | assumption | omega | decide) (by first | assumption | omega | decide) ?_
        intro A3
        show fwWP mX7_spoilCell (d + 4) 71 [some (aR 8 0), some (aI ((mSpo h c).1)), some (aI ((mSpo h c).2)), some (aI (c : Int)), some (aI (mStay ((h 4 0) 1) (h 17 0) ((h 4 0) 3) (c : Int))), none] [aI (mSum (mGain ((h 4 0) 1) (mRs (h 17 0) (mStay (h 4 0 1) (h 17 0) (h 4 0 3) (c : Int))) ((h 4 0) 2) (h 18 0)) (h 5 0 3).toNat)] (fwUc (fwUc (fwUc (fwUc h 4 5 (h 4 0)) 17 5 (mRs (h 17 0) (mStay (h 4 0 1) (h 17 0) (h 4 0 3) (c : Int)))) 20 0 A_20) 20 0 A3) Q
        rw [show fwUc (fwUc (fwUc (fwUc h 4 5 (h 4 0)) 17 5 (mRs (h 17 0) (mStay (h 4 0 1) (h 17 0) (h 4 0 3) (c : Int)))) 20 0 A_20) 20 0 A3 = (fwUc (fwUc (fwUc h 4 5 (h 4 0)) 17 5 (mRs (h 17 0) (mStay (h 4 0 1) (h 17 0) (h 4 0 3) (c : Int)))) 20 0 A3) from by funext a b; simp only [fwUc]; (repeat' split); all_goals first | rfl | (exfalso; omega)]
        have hG8 : gOk (fwUc (fwUc (fwUc h 4 5 (h 4 0)) 17 5 (mRs (h 17 0) (mStay (h 4 0 1) (h 17 0) (h 4 0 3) (c : Int)))) 20 0 A3) 5 := ⟨hG.1, hG.2.1, hG.2.2.1, hG.2.2.2.1, hRr⟩
        change fwWP mX7_spoilCell (d + 4) 71 [some (aR 8 0), some (aI ((mSpo h c).1)), some (aI ((mSpo h c).2)), some (aI (c : Int)), some (aI (mStay ((h 4 0) 1) (h 17 0) ((h 4 0) 3) (c : Int))), none] [aI (mGt h (mRs (h 17 0) (mStay (h 4 0 1) (h 17 0) (h 4 0 3) (c : Int))))] (fwUc (fwUc (fwUc h 4 5 (h 4 0)) 17 5 (mRs (h 17 0) (mStay (h 4 0 1) (h 17 0) (h 4 0 3) (c : Int)))) 20 0 A3) Q
        refine w_istore [some (aR 8 0), some (aI ((mSpo h c).1)), some (aI ((mSpo h c).2)), some (aI (c : Int)), some (aI (mStay ((h 4 0) 1) (h 17 0) ((h 4 0) 3) (c : Int))), some (aI (mGt h (mRs (h 17 0) (mStay (h 4 0 1) (h 17 0) (h 4 0 3) (c : Int)))))] dX7_spoilCell_71 rfl (by decide) ?_
        refine w_aload_n dX7_spoilCell_73 rfl ?_
        refine w_getr 4 5 dX7_spoilCell_74 fl_X7_25 rfl (by decide) ?_
        refine w_iload dX7_spoilCell_77 rfl ?_
        refine w_iconst dX7_spoilCell_79 ?_
        refine w_callV (d := d + 3) (S := []) [aI (mStay ((h 4 0) 1) (h 17 0) ((h 4 0) 3) (c : Int)), aI (-1)] dX7_spoilCell_80 ml_X7_48 ok_X1_change vi_X1_change rfl rfl (by decide) rfl (Nat.le_of_ble_eq_true rfl) ?_
        refine c_X1_changeE (d := (d + 2)) 5 (mStay ((h 4 0) 1) (h 17 0) ((h 4 0) 3) (c : Int)) (-1) (by decide) (by first | assumption | omega | decide) (by first | assumption | omega | decide) (show mStay ((h 4 0) 1) (h 17 0) ((h 4 0) 3) (c : Int) < (h 4 0) 1 by first | assumption | omega | decide) ?_
        show fwWP mX7_spoilCell (d + 4) 83 [some (aR 8 0), some (aI ((mSpo h c).1)), some (aI ((mSpo h c).2)), some (aI (c : Int)), some (aI (mStay ((h 4 0) 1) (h 17 0) ((h 4 0) 3) (c : Int))), some (aI (mGt h (mRs (h 17 0) (mStay (h 4 0 1) (h 17 0) (h 4 0 3) (c : Int)))))] [] (fwUc (fwUc (fwUc (fwUc h 4 5 (h 4 0)) 17 5 (mRs (h 17 0) (mStay (h 4 0 1) (h 17 0) (h 4 0 3) (c : Int)))) 20 0 A3) 17 5 (fwFu ((mRs (h 17 0) (mStay (h 4 0 1) (h 17 0) (h 4 0 3) (c : Int)))) (mStay ((h 4 0) 1) (h 17 0) ((h 4 0) 3) (c : Int)).toNat ((mRs (h 17 0) (mStay (h 4 0 1) (h 17 0) (h 4 0 3) (c : Int))) (mStay ((h 4 0) 1) (h 17 0) ((h 4 0) 3) (c : Int)).toNat + (-1)))) Q
        rw [show fwUc (fwUc (fwUc (fwUc h 4 5 (h 4 0)) 17 5 (mRs (h 17 0) (mStay (h 4 0 1) (h 17 0) (h 4 0 3) (c : Int)))) 20 0 A3) 17 5 (fwFu ((mRs (h 17 0) (mStay (h 4 0 1) (h 17 0) (h 4 0 3) (c : Int)))) (mStay ((h 4 0) 1) (h 17 0) ((h 4 0) 3) (c : Int)).toNat ((mRs (h 17 0) (mStay (h 4 0 1) (h 17 0) (h 4 0 3) (c : Int))) (mStay ((h 4 0) 1) (h 17 0) ((h 4 0) 3) (c : Int)).toNat + (-1))) = (fwUc (fwUc (fwUc h 4 5 (h 4 0)) 17 5 (fwFu ((mRs (h 17 0) (mStay (h 4 0 1) (h 17 0) (h 4 0 3) (c : Int)))) (mStay ((h 4 0) 1) (h 17 0) ((h 4 0) 3) (c : Int)).toNat ((mRs (h 17 0) (mStay (h 4 0 1) (h 17 0) (h 4 0 3) (c : Int))) (mStay ((h 4 0) 1) (h 17 0) ((h 4 0) 3) (c : Int)).toNat + (-1)))) 20 0 A3) from by funext a b; simp only [fwUc]; (repeat' split); all_goals first | rfl | (exfalso; omega)]
        rw [show (fwUc (fwUc (fwUc h 4 5 (h 4 0)) 17 5 (fwFu ((mRs (h 17 0) (mStay (h 4 0 1) (h 17 0) (h 4 0 3) (c : Int)))) (mStay ((h 4 0) 1) (h 17 0) ((h 4 0) 3) (c : Int)).toNat ((mRs (h 17 0) (mStay (h 4 0 1) (h 17 0) (h 4 0 3) (c : Int))) (mStay ((h 4 0) 1) (h 17 0) ((h 4 0) 3) (c : Int)).toNat + (-1)))) 20 0 A3) = (fwUc (fwUc (fwUc h 4 5 (h 4 0)) 17 5 (h 17 0)) 20 0 A3) from by rw [eRs, fwFu_ub]]
        refine w_iload_n dX7_spoilCell_83 rfl ?_
        refine w_iconst dX7_spoilCell_84 ?_
        refine w_icmp_eq 94 dX7_spoilCell_85 (by decide) (by omega) (by omega) (fun c85 => ?_) (fun c85 => ?_)
        · refine w_iload_n dX7_spoilCell_94 rfl ?_
          refine w_istore_n [some (aR 8 0), some (aI (c : Int)), some (aI ((mSpo h c).2)), some (aI (c : Int)), some (aI (mStay ((h 4 0) 1) (h 17 0) ((h 4 0) 3) (c : Int))), some (aI (mGt h (mRs (h 17 0) (mStay (h 4 0 1) (h 17 0) (h 4 0 3) (c : Int)))))] dX7_spoilCell_95 rfl (by decide) ?_
          refine w_iload dX7_spoilCell_96 rfl ?_
          refine w_istore_n [some (aR 8 0), some (aI (c : Int)), some (aI (mGt h (mRs (h 17 0) (mStay (h 4 0 1) (h 17 0) (h 4 0 3) (c : Int))))), some (aI (c : Int)), some (aI (mStay ((h 4 0) 1) (h 17 0) ((h 4 0) 3) (c : Int))), some (aI (mGt h (mRs (h 17 0) (mStay (h 4 0 1) (h 17 0) (h 4 0 3) (c : Int)))))] dX7_spoilCell_98 rfl (by decide) ?_
          refine w_iinc [some (aR 8 0), some (aI (c : Int)), some (aI (mGt h (mRs (h 17 0) (mStay (h 4 0 1) (h 17 0) (h 4 0 3) (c : Int))))), some (aI ((c : Int) + 1)), some (aI (mStay ((h 4 0) 1) (h 17 0) ((h 4 0) 3) (c : Int))), some (aI (mGt h (mRs (h 17 0) (mStay (h 4 0 1) (h 17 0) (h 4 0 3) (c : Int)))))] dX7_spoilCell_99 rfl rfl (by decide) ?_
          refine w_goto 20 dX7_spoilCell_102 (by decide) ?_
          refine w_drop [4, 5] [some (aR 8 0), some (aI (c : Int)), some (aI (mGt h (mRs (h 17 0) (mStay (h 4 0 1) (h 17 0) (h 4 0 3) (c : Int))))), some (aI ((c : Int) + 1)), none, none] rfl ?_
          refine ih20 (by omega) _ _ _ _ ?_ ?_ ?_ ?_
          · exact (by omega)
          · exact (by rw [mSpo]; first | rw [if_pos (by omega)] | rw [if_neg (by omega)])
          · exact (by rw [mSpo]; first | rw [if_pos (by omega)] | rw [if_neg (by omega)])
          · exact ⟨_, rfl⟩
        · refine w_iload dX7_spoilCell_88 rfl ?_
          refine w_iload_n dX7_spoilCell_90 rfl ?_
          refine w_icmp_le 99 dX7_spoilCell_91 (by decide) (by omega) (by omega) (fun c91 => ?_) (fun c91 => ?_)
          · refine w_iinc [some (aR 8 0), some (aI ((mSpo h c).1)), some (aI ((mSpo h c).2)), some (aI ((c : Int) + 1)), some (aI (mStay ((h 4 0) 1) (h 17 0) ((h 4 0) 3) (c : Int))), some (aI (mGt h (mRs (h 17 0) (mStay (h 4 0 1) (h 17 0) (h 4 0 3) (c : Int)))))] dX7_spoilCell_99 rfl rfl (by decide) ?_
            refine w_goto 20 dX7_spoilCell_102 (by decide) ?_
            refine w_drop [4, 5] [some (aR 8 0), some (aI ((mSpo h c).1)), some (aI ((mSpo h c).2)), some (aI ((c : Int) + 1)), none, none] rfl ?_
            refine ih20 (by omega) _ _ _ _ ?_ ?_ ?_ ?_
            · exact (by omega)
            · exact (by rw [mSpo]; first | rw [if_pos (by omega)] | rw [if_neg (by omega)])
            · exact (by rw [mSpo]; first | rw [if_pos (by omega)] | rw [if_neg (by omega)])
            · exact ⟨_, rfl⟩
          · refine w_iload_n dX7_spoilCell_94 rfl ?_
            refine w_istore_n [some (aR 8 0), some (aI (c : Int)), some (aI ((mSpo h c).2)), some (aI (c : Int)), some (aI (mStay ((h 4 0) 1) (h 17 0) ((h 4 0) 3) (c : Int))), some (aI (mGt h (mRs (h 17 0) (mStay (h 4 0 1) (h 17 0) (h 4 0 3) (c : Int)))))] dX7_spoilCell_95 rfl (by decide) ?_
            refine w_iload dX7_spoilCell_96 rfl ?_
            refine w_istore_n [some (aR 8 0), some (aI (c : Int)), some (aI (mGt h (mRs (h 17 0) (mStay (h 4 0 1) (h 17 0) (h 4 0 3) (c : Int))))), some (aI (c : Int)), some (aI (mStay ((h 4 0) 1) (h 17 0) ((h 4 0) 3) (c : Int))), some (aI (mGt h (mRs (h 17 0) (mStay (h 4 0 1) (h 17 0) (h 4 0 3) (c : Int)))))] dX7_spoilCell_98 rfl (by decide) ?_
            refine w_iinc [some (aR 8 0), some (aI (c : Int)), some (aI (mGt h (mRs (h 17 0) (mStay (h 4 0 1) (h 17 0) (h 4 0 3) (c : Int))))), some (aI ((c : Int) + 1)), some (aI (mStay ((h 4 0) 1) (h 17 0) ((h 4 0) 3) (c : Int))), some (aI (mGt h (mRs (h 17 0) (mStay (h 4 0 1) (h 17 0) (h 4 0 3) (c : Int)))))] dX7_spoilCell_99 rfl rfl (by decide) ?_
            refine w_goto 20 dX7_spoilCell_102 (by decide) ?_
            refine w_drop [4, 5] [some (aR 8 0), some (aI (c : Int)), some (aI (mGt h (mRs (h 17 0) (mStay (h 4 0 1) (h 17 0) (h 4 0 3) (c : Int))))), some (aI ((c : Int) + 1)), none, none] rfl ?_
            refine ih20 (by omega) _ _ _ _ ?_ ?_ ?_ ?_
            · exact (by omega)
            · exact (by rw [mSpo]; first | rw [if_pos (by omega)] | rw [if_neg (by omega)])
            · exact (by rw [mSpo]; first | rw [if_pos (by omega)] | rw [if_neg (by omega)])
            · exact ⟨_, rfl⟩
  refine lp20 0 (Nat.zero_le _) _ _ _ _ ?_ ?_ ?_ ?_
  · exact (by omega)
  · exact rfl
  · exact rfl
  · exact ⟨h 20 0, (fwUc_self (fwUc (fwUc h 4 5 (h 4 0)) 17 5 (h 17 0)) 20 0).symm⟩

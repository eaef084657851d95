section
set_option maxRecDepth 100000 in
set_option maxHeartbeats 4000000 in
theorem c_X2_clear {d : Nat} {h : fwH} {Q : Option fwV → fwH → Prop}   (k : Q none (fwUp (fwUp (fwUp (fwUp (fwUc (fwUp (fwUc h 4 1 (fun _ => 0)) 5 1 3 0) 18 1 (fun _ => 0)) 3 1 3 0) 3 1 4 0) 3 1 5 0) 3 1 6 0)) : fwCt mX2_clear (d + 1) [aR 3 1] h Q := by
  refine fwCt_of [some (aR 3 1)] rfl rfl rfl ?_
  refine w_aload_n dX2_clear_0 rfl ?_
  refine w_getr 4 1 dX2_clear_1 fl_X2_12 rfl (by decide) ?_
  refine w_callV (d := d + 0) (S := []) [] dX2_clear_4 ml_X2_29 ok_X1_clear vi_X1_clear rfl rfl (by decide) rfl (Nat.le_of_ble_eq_true rfl) ?_
  refine c_X1_clear (d := d) 1 (by decide) ?_
  show fwWP mX2_clear (d + 1) 7 [some (aR 3 1)] [] (fwUc h 4 1 (fun _ => 0)) Q
  refine w_aload_n dX2_clear_7 rfl ?_
  refine w_getr 5 1 dX2_clear_8 fl_X2_21 rfl (by decide) ?_
  refine w_callV (d := d + 0) (S := []) [] dX2_clear_11 ml_X2_32 ok_X3_clear vi_X3_clear rfl rfl (by decide) rfl (Nat.le_of_ble_eq_true rfl) ?_
  refine c_X3_clear (d := d) 1 (by decide) ?_
  show fwWP mX2_clear (d + 1) 14 [some (aR 3 1)] [] (fwUc (fwUp (fwUc h 4 1 (fun _ => 0)) 5 1 3 0) 18 1 (fun _ => 0)) Q
  refine w_aload_n dX2_clear_14 rfl ?_
  refine w_iconst dX2_clear_15 ?_
  refine w_puti dX2_clear_16 fl_X2_33 fp_3_3 rfl (by decide) ?_
  refine w_aload_n dX2_clear_19 rfl ?_
  refine w_iconst dX2_clear_20 ?_
  refine w_puti dX2_clear_21 fl_X2_37 fp_3_4 rfl (by decide) ?_
  refine w_aload_n dX2_clear_24 rfl ?_
  refine w_iconst dX2_clear_25 ?_
  refine w_puti dX2_clear_26 fl_X2_40 fp_3_5 rfl (by decide) ?_
  refine w_aload_n dX2_clear_29 rfl ?_
  refine w_iconst dX2_clear_30 ?_
  refine w_puti dX2_clear_31 fl_X2_43 fp_3_6 rfl (by decide) ?_
  exact w_vret dX2_clear_34 rfl (k)
def mtCopy (h : fwH) (m q : Nat) : fwH := fwUc (fwUc (fwUc (fwUc (fwUc (fwUc h 3 m (h 3 q)) 4 m (h 4 q)) 5 m (h 5 q)) 17 m (h 17 q)) 18 m (h 18 q)) 21 m (h 21 q)
set_option maxRecDepth 100000 in
set_option maxHeartbeats 4000000 in
theorem c_X2_copyFrom {d : Nat} {h : fwH} {Q : Option fwV → fwH → Prop} (m q : Nat) (hm : m < 5) (hq : q < 5) (hmq : m ≠ q) (hz : h 4 q 4 = 0 ∨ h 4 q 4 = 1) (k : Q none (mtCopy h m q)) : fwCt mX2_copyFrom (d + 1) [aR 3 m, aR 3 q] h Q := by
  refine fwCt_of [some (aR 3 m), some (aR 3 q), none] rfl rfl rfl ?_
  refine w_aload_n dX2_copyFrom_0 rfl ?_
  refine w_getr 4 m dX2_copyFrom_1 fl_X2_12 rfl hm ?_
  refine w_aload_n dX2_copyFrom_4 rfl ?_
  refine w_getr 4 q dX2_copyFrom_5 fl_X2_12 rfl hq ?_
  refine w_callV (d := d + 0) (S := []) [aR 4 q] dX2_copyFrom_8 ml_X2_46 ok_X1_copyFrom vi_X1_copyFrom rfl rfl (by show m < 6; omega) rfl (Nat.le_of_ble_eq_true rfl) ?_
  refine c_X1_copyFrom (d := d) m q (by show m < 6; omega) (by show q < 6; omega) (by first | assumption | omega | decide) (by first | assumption | omega | decide) ?_
  show fwWP mX2_copyFrom (d + 1) 11 [some (aR 3 m), some (aR 3 q), none] [] (fwUc (fwUc h 17 m (h 17 q)) 4 m (h 4 q)) Q
  rw [show fwUc (fwUc h 17 m (h 17 q)) 4 m (h 4 q) = (fwUc (fwUc h 4 m (h 4 q)) 17 m (h 17 q)) from by funext a b; simp only [fwUc]; (repeat' split); all_goals first | rfl | (exfalso; omega)]
  refine w_aload_n dX2_copyFrom_11 rfl ?_
  refine w_getr 5 m dX2_copyFrom_12 fl_X2_21 rfl hm ?_
  refine w_aload_n dX2_copyFrom_15 rfl ?_
  refine w_getr 5 q dX2_copyFrom_16 fl_X2_21 rfl hq ?_
  refine w_callV (d := d + 0) (S := []) [aR 5 q] dX2_copyFrom_19 ml_X2_50 ok_X3_copyFrom vi_X3_copyFrom rfl rfl hm rfl (Nat.le_of_ble_eq_true rfl) ?_
  refine c_X3_copyFrom (d := d) m q hm hq (by first | assumption | omega | decide) ?_
  show fwWP mX2_copyFrom (d + 1) 22 [some (aR 3 m), some (aR 3 q), none] [] (fwUp (fwUc (fwUc (fwUc h 4 m (h 4 q)) 17 m (h 17 q)) 18 m (h 18 q)) 5 m 3 (h 5 q 3)) Q
  refine w_iconst dX2_copyFrom_22 ?_
  refine w_istore_n [some (aR 3 m), some (aR 3 q), some (aI 0)] dX2_copyFrom_23 rfl (by decide) ?_
  have lp24 : ∀ c : Nat, c ≤ 60 → ∀ (y24  : Int) (hh24 : fwH), y24 = (c : Int) → hh24 = (fwUc (fwUp (fwUc (fwUc (fwUc h 4 m (h 4 q)) 17 m (h 17 q)) 18 m (h 18 q)) 5 m 3 (h 5 q 3)) 21 m (fwFl (h 21 q) (h 21 m) c)) → fwWP mX2_copyFrom (d + 1) 24 [some (aR 3 m), some (aR 3 q), some (aI y24)] [] hh24 Q := by
    refine fw_up (fun c hc24 ih24 => ?_)
    intro y24  hh24 ey24 eh24
    subst ey24
    subst eh24
    show fwWP mX2_copyFrom (d + 1) 24 [some (aR 3 m), some (aR 3 q), some (aI (c : Int))] [] (fwUc (fwUp (fwUc (fwUc (fwUc h 4 m (h 4 q)) 17 m (h 17 q)) 18 m (h 18 q)) 5 m 3 (h 5 q 3)) 21 m (fwFl (h 21 q) (h 21 m) c)) Q
    refine w_iload_n dX2_copyFrom_24 rfl ?_
    refine w_bipush dX2_copyFrom_25 rfl ?_
    refine w_icmp_ge 48 dX2_copyFrom_27 (by decide) (by omega) (by omega) (fun c27 => ?_) (fun c27 => ?_)
    · have ec24 : 60 = c := by omega
      subst ec24
      refine w_aload_n dX2_copyFrom_48 rfl ?_
      refine w_aload_n dX2_copyFrom_49 rfl ?_
      refine w_getiE (v := h 3 q 3) dX2_copyFrom_50 fl_X2_33 rfl hq (by simp [fwUp, fwUc, Ne.symm hmq]) ?_
      refine w_puti dX2_copyFrom_53 fl_X2_33 fp_3_3 rfl hm ?_
      refine w_aload_n dX2_copyFrom_56 rfl ?_
      refine w_aload_n dX2_copyFrom_57 rfl ?_
      refine w_getiE (v := h 3 q 4) dX2_copyFrom_58 fl_X2_37 rfl hq (by simp [fwUp, fwUc, Ne.symm hmq]) ?_
      refine w_puti dX2_copyFrom_61 fl_X2_37 fp_3_4 rfl hm ?_
      refine w_aload_n dX2_copyFrom_64 rfl ?_
      refine w_aload_n dX2_copyFrom_65 rfl ?_
      refine w_getiE (v := h 3 q 5) dX2_copyFrom_66 fl_X2_40 rfl hq (by simp [fwUp, fwUc, Ne.symm hmq]) ?_
      refine w_puti dX2_copyFrom_69 fl_X2_40 fp_3_5 rfl hm ?_
      refine w_aload_n dX2_copyFrom_72 rfl ?_
      refine w_aload_n dX2_copyFrom_73 rfl ?_
      refine w_getiE (v := h 3 q 6) dX2_copyFrom_74 fl_X2_43 rfl hq (by simp [fwUp, fwUc, Ne.symm hmq]) ?_
      refine w_puti dX2_copyFrom_77 fl_X2_43 fp_3_6 rfl hm ?_
      refine w_heq (mtCopy h m q) ?_ ?_
      · intro a b s hb hs hr
        unfold mtCopy
        simp only [fwUp, fwUc]
        by_cases e : b = m
        · subst e
          by_cases e3 : a = 3
          · subst e3
            rcases (show s = 0 ∨ s = 1 ∨ s = 2 ∨ s = 3 ∨ s = 4 ∨ s = 5 ∨ s = 6 by have : s < 7 := hs; omega) with rfl | rfl | rfl | rfl | rfl | rfl | rfl
            · cases hr
            · cases hr
            · cases hr
            all_goals simp [fwUp, fwUc]
          · by_cases e5 : a = 5
            · subst e5
              rcases (show s = 0 ∨ s = 1 ∨ s = 2 ∨ s = 3 by have : s < 4 := hs; omega) with rfl | rfl | rfl | rfl
              · cases hr
              · cases hr
              · cases hr
              all_goals simp [fwUp, fwUc]
            · by_cases e21 : a = 21
              · subst e21
                have : s < 60 := hs
                simp [fwFl, this, fwUp, fwUc]
              · by_cases e4 : a = 4
                · subst e4; simp [fwUp, fwUc]
                · by_cases e17 : a = 17
                  · subst e17; simp [fwUp, fwUc]
                  · by_cases e18 : a = 18
                    · subst e18; simp [fwUp, fwUc]
                    · simp [e3, e4, e5, e17, e18, e21, fwUp, fwUc]
        · simp [e, fwUp, fwUc]
      · exact w_vret dX2_copyFrom_80 rfl k
    · refine w_aload_n dX2_copyFrom_30 rfl ?_
      refine w_getr 21 m dX2_copyFrom_31 fl_X2_25 rfl hm ?_
      refine w_iload_n dX2_copyFrom_34 rfl ?_
      refine w_aload_n dX2_copyFrom_35 rfl ?_
      refine w_getr 21 q dX2_copyFrom_36 fl_X2_25 rfl hq ?_
      refine w_iload_n dX2_copyFrom_39 rfl ?_
      refine w_ialdE (v := h 21 q c) dX2_copyFrom_40 rfl hq (by omega) (by omega) (by rw [fwUc_ne (fun z => hmq z.2.symm)]; rfl) ?_
      refine w_iast dX2_copyFrom_41 rfl hm (by omega) (by omega) ?_
      refine w_iinc [some (aR 3 m), some (aR 3 q), some (aI ((c : Int) + 1))] dX2_copyFrom_42 rfl rfl (by decide) ?_
      refine w_goto 24 dX2_copyFrom_45 (by decide) ?_
      refine ih24 (by omega) _ _ ?_ ?_
      · exact (by omega)
      · exact (by rw [fwUp_uc, Int.toNat_natCast]; exact congrArg _ (fwFl_succ (h 21 q) (h 21 m) c))
  refine lp24 0 (Nat.zero_le _) _ _ ?_ ?_
  · exact (by omega)
  · exact (by rw [fwFl_0]; exact (fwUc_self _ 21 m).symm)
set_option maxRecDepth 100000 in
set_option maxHeartbeats 4000000 in
theorem c_X2_isTold {d : Nat} {h : fwH} {Q : Option fwV → fwH → Prop}  (hl : 0 ≤ h 3 0 6 ∧ h 3 0 6 ≤ 1000) (k : Q (some (aI (fwB (0 < h 3 0 6)))) h) : fwCt mX2_isTold (d + 0) [aR 3 0] h Q := by
  refine fwCt_of [some (aR 3 0)] rfl rfl rfl ?_
  refine w_aload_n dX2_isTold_0 rfl ?_
  refine w_geti dX2_isTold_1 fl_X2_43 rfl (by decide) ?_
  refine w_if_le 11 dX2_isTold_4 (by decide) (by omega) (fun c4 => ?_) (fun c4 => ?_)
  · refine w_iconst dX2_isTold_11 ?_
    exact w_zretE dX2_isTold_12 rfl (by first | (exfalso; omega) | (rw [fwB_t (by omega)]) | (rw [fwB_f (by omega)])) k
  · refine w_iconst dX2_isTold_7 ?_
    refine w_goto 12 dX2_isTold_8 (by decide) ?_
    exact w_zretE dX2_isTold_12 rfl (by first | (exfalso; omega) | (rw [fwB_t (by omega)]) | (rw [fwB_f (by omega)])) k
theorem fwShl1 : ∀ n : Nat, n ≤ 20 → fwShl 1 (n : Int) = 2 ^ n := by decide +kernel
theorem fwShl1_rng {x : Int} (hx : 0 ≤ x ∧ x ≤ 20) : 1 ≤ fwShl 1 x ∧ fwShl 1 x ≤ 1048576 := by
  obtain ⟨n, rfl⟩ : ∃ n : Nat, x = n := ⟨x.toNat, by omega⟩
  have key : ∀ n : Nat, n ≤ 20 → 1 ≤ fwShl 1 (n : Int) ∧ fwShl 1 (n : Int) ≤ 1048576 := by decide +kernel
  exact key n (by omega)
set_option maxRecDepth 100000 in
set_option maxHeartbeats 4000000 in
theorem c_X2_hasSet {d : Nat} {h : fwH} {Q : Option fwV → fwH → Prop} (x : Int) (hl : 0 ≤ h 3 0 6 ∧ h 3 0 6 ≤ 1000) (hP : pOk h 0) (hx : -2147483648 ≤ x ∧ x < 2147483648) (k : Q (some (aI (fwB (0 < h 3 0 6 ∧ 0 ≤ x ∧ x < fwShl 1 (h 5 0 3))))) h) : fwCt mX2_hasSet (d + 1) [aR 3 0, aI x] h Q := by
  refine fwCt_of [some (aR 3 0), some (aI x)] rfl rfl rfl ?_
  have hp := hP.1
  refine w_aload_n dX2_hasSet_0 rfl ?_
  refine w_callV (d := d + 0) (S := []) [] dX2_hasSet_1 ml_X2_53 ok_X2_isTold vi_X2_isTold rfl rfl (by decide) rfl (Nat.le_of_ble_eq_true rfl) ?_
  refine c_X2_isTold (d := d) (show 0 ≤ h 3 0 6 ∧ h 3 0 6 ≤ 1000 by first | assumption | omega | decide) ?_
  show fwWP mX2_hasSet (d + 1) 4 [some (aR 3 0), some (aI x)] [aI (fwB (0 < h 3 0 6))] h Q
  refine w_ifB_eq 28 dX2_hasSet_4 (by decide) (fun c4 => ?_) (fun c4 => ?_)
  · refine w_iconst dX2_hasSet_28 ?_
    exact w_zretE dX2_hasSet_29 rfl (by first | (exfalso; omega) | (rw [fwB_t (by omega)]) | (rw [fwB_f (by omega)])) k
  · refine w_iload_n dX2_hasSet_7 rfl ?_
    refine w_if_lt 28 dX2_hasSet_8 (by decide) (by omega) (fun c8 => ?_) (fun c8 => ?_)
    · refine w_iconst dX2_hasSet_28 ?_
      exact w_zretE dX2_hasSet_29 rfl (by first | (exfalso; omega) | (rw [fwB_t (by omega)]) | (rw [fwB_f (by omega)])) k
    · refine w_iload_n dX2_hasSet_11 rfl ?_
      refine w_iconst dX2_hasSet_12 ?_
      refine w_aload_n dX2_hasSet_13 rfl ?_
      refine w_getr 5 0 dX2_hasSet_14 fl_X2_21 rfl (by decide) ?_
      refine w_geti dX2_hasSet_17 fl_X2_57 rfl (by decide) ?_
      have hsh := fwShl1_rng (x := h 5 0 3) (by omega)
      refine w_ishl dX2_hasSet_20 ?_
      refine w_icmp_ge 28 dX2_hasSet_21 (by decide) (by omega) (by omega) (fun c21 => ?_) (fun c21 => ?_)
      · refine w_iconst dX2_hasSet_28 ?_
        exact w_zretE dX2_hasSet_29 rfl (by first | (exfalso; omega) | (rw [fwB_t (by omega)]) | (rw [fwB_f (by omega)])) k
      · refine w_iconst dX2_hasSet_24 ?_
        refine w_goto 29 dX2_hasSet_25 (by decide) ?_
        exact w_zretE dX2_hasSet_29 rfl (by first | (exfalso; omega) | (rw [fwB_t (by omega)]) | (rw [fwB_f (by omega)])) k
set_option maxRecDepth 100000 in
set_option maxHeartbeats 4000000 in
theorem c_X2_hasRoom {d : Nat} {h : fwH} {Q : Option fwV → fwH → Prop}  (ha : 0 ≤ h 3 0 3 ∧ h 3 0 3 ≤ 60) (k : Q (some (aI (fwB (h 3 0 3 < 60)))) h) : fwCt mX2_hasRoomForAct (d + 0) [aR 3 0] h Q := by
  refine fwCt_of [some (aR 3 0)] rfl rfl rfl ?_
  refine w_aload_n dX2_hasRoomForAct_0 rfl ?_
  refine w_geti dX2_hasRoomForAct_1 fl_X2_33 rfl (by decide) ?_
  refine w_if_lt 20 dX2_hasRoomForAct_4 (by decide) (by omega) (fun c4 => ?_) (fun c4 => ?_)
  · refine w_iconst dX2_hasRoomForAct_20 ?_
    exact w_zretE dX2_hasRoomForAct_21 rfl (by first | (exfalso; omega) | (rw [fwB_t (by omega)]) | (rw [fwB_f (by omega)])) k
  · refine w_aload_n dX2_hasRoomForAct_7 rfl ?_
    refine w_geti dX2_hasRoomForAct_8 fl_X2_33 rfl (by decide) ?_
    refine w_bipush dX2_hasRoomForAct_11 rfl ?_
    refine w_icmp_ge 20 dX2_hasRoomForAct_13 (by decide) (by omega) (by omega) (fun c13 => ?_) (fun c13 => ?_)
    · refine w_iconst dX2_hasRoomForAct_20 ?_
      exact w_zretE dX2_hasRoomForAct_21 rfl (by first | (exfalso; omega) | (rw [fwB_t (by omega)]) | (rw [fwB_f (by omega)])) k
    · refine w_iconst dX2_hasRoomForAct_16 ?_
      refine w_goto 21 dX2_hasRoomForAct_17 (by decide) ?_
      exact w_zretE dX2_hasRoomForAct_21 rfl (by first | (exfalso; omega) | (rw [fwB_t (by omega)]) | (rw [fwB_f (by omega)])) k
set_option maxRecDepth 100000 in
set_option maxHeartbeats 4000000 in
theorem c_X2_act {d : Nat} {h : fwH} {Q : Option fwV → fwH → Prop} (x y : Int) (ha : 0 ≤ h 3 0 3 ∧ h 3 0 3 ≤ 60) (hr : h 3 0 3 < 60) (hG : gOk h 0) (h0 : 0 ≤ x) (h1 : x < h 4 0 1) (k : Q none (fwUp (fwUp (fwUc h 17 0 (fwFu (h 17 0) x.toNat (h 17 0 x.toNat + y))) 21 0 (h 3 0 3).toNat (y * (x + 1))) 3 0 3 (h 3 0 3 + 1))) : fwCt mX2_act (d + 2) [aR 3 0, aI x, aI y] h Q := by
  refine fwCt_of [some (aR 3 0), some (aI x), some (aI y)] rfl rfl rfl ?_
  refine w_aload_n dX2_act_0 rfl ?_
  refine w_callV (d := d + 1) (S := []) [] dX2_act_1 ml_X2_60 ok_X2_hasRoomForAct vi_X2_hasRoomForAct rfl rfl (by decide) rfl (Nat.le_of_ble_eq_true rfl) ?_
  refine c_X2_hasRoom (d := (d + 1)) (by first | assumption | omega | decide) ?_
  show fwWP mX2_act (d + 2) 4 [some (aR 3 0), some (aI x), some (aI y)] [aI (fwB (h 3 0 3 < 60))] h Q
  refine w_ifB_eq 40 dX2_act_4 (by decide) (fun c4 => ?_) (fun c4 => ?_)
  · (exfalso; omega)
  · refine w_aload_n dX2_act_7 rfl ?_
    refine w_getr 4 0 dX2_act_8 fl_X2_12 rfl (by decide) ?_
    refine w_iload_n dX2_act_11 rfl ?_
    refine w_iload_n dX2_act_12 rfl ?_
    refine w_callV (d := d + 1) (S := []) [aI x, aI y] dX2_act_13 ml_X2_63 ok_X1_change vi_X1_change rfl rfl (by decide) rfl (Nat.le_of_ble_eq_true rfl) ?_
    refine c_X1_changeE (d := d) 0 x y (by decide) (by first | assumption | omega | decide) (by first | assumption | omega | decide) (show x < h 4 0 1 by first | assumption | omega | decide) ?_
    show fwWP mX2_act (d + 2) 16 [some (aR 3 0), some (aI x), some (aI y)] [] (fwUc h 17 0 (fwFu (h 17 0) (x).toNat (h 17 0 (x).toNat + y))) Q
    refine w_aload_n dX2_act_16 rfl ?_
    refine w_getr 21 0 dX2_act_17 fl_X2_25 rfl (by decide) ?_
    refine w_aload_n dX2_act_20 rfl ?_
    refine w_getiE (v := h 3 0 3) dX2_act_21 fl_X2_33 rfl (by decide) rfl ?_
    refine w_iload_n dX2_act_24 rfl ?_
    refine w_iload_n dX2_act_25 rfl ?_
    refine w_iconst dX2_act_26 ?_
    refine w_iadd dX2_act_27 ?_
    refine w_imul dX2_act_28 ?_
    refine w_iast dX2_act_29 rfl (by decide) (by omega) (by omega) ?_
    refine w_aload_n dX2_act_30 rfl ?_
    refine w_dup dX2_act_31 rfl ?_
    refine w_getiE (v := h 3 0 3) dX2_act_32 fl_X2_33 rfl (by decide) rfl ?_
    refine w_iconst dX2_act_35 ?_
    refine w_iadd dX2_act_36 ?_
    refine w_puti dX2_act_37 fl_X2_33 fp_3_3 rfl (by decide) ?_
    exact w_vret dX2_act_40 rfl (k)
def mBackC (a : Int) : Int := if a < 0 then -a - 1 else a - 1
def mBackD (a : Int) : Int := if a < 0 then 1 else -1
def mBack (h : fwH) : fwH := fwUc (fwUp h 3 0 3 (h 3 0 3 - 1)) 17 0 (fwFu (h 17 0) (mBackC (h 21 0 (h 3 0 3 - 1).toNat)).toNat (h 17 0 (mBackC (h 21 0 (h 3 0 3 - 1).toNat)).toNat + mBackD (h 21 0 (h 3 0 3 - 1).toNat)))
set_option maxRecDepth 100000 in
set_option maxHeartbeats 4000000 in
theorem c_X2_takeBack {d : Nat} {h : fwH} {Q : Option fwV → fwH → Prop}  (ha : 0 ≤ h 3 0 3 ∧ h 3 0 3 ≤ 60) (hG : gOk h 0) (hv : 0 < h 3 0 3 → ((-20 ≤ h 21 0 (h 3 0 3 - 1).toNat ∧ h 21 0 (h 3 0 3 - 1).toNat ≤ 20) ∧ (h 21 0 (h 3 0 3 - 1).toNat < 0 → 0 ≤ -(h 21 0 (h 3 0 3 - 1).toNat) - 1 ∧ -(h 21 0 (h 3 0 3 - 1).toNat) - 1 < h 4 0 1) ∧ (0 ≤ h 21 0 (h 3 0 3 - 1).toNat → 0 ≤ h 21 0 (h 3 0 3 - 1).toNat - 1 ∧ h 21 0 (h 3 0 3 - 1).toNat - 1 < h 4 0 1))) (k : Q (some (aI (fwB (0 < h 3 0 3)))) (if 0 < h 3 0 3 then mBack h else h)) : fwCt mX2_takeBack (d + 2) [aR 3 0] h Q := by
  refine fwCt_of [some (aR 3 0), none] rfl rfl rfl ?_
  have hgn := hG.1
  refine w_aload_n dX2_takeBack_0 rfl ?_
  refine w_getiE (v := h 3 0 3) dX2_takeBack_1 fl_X2_33 rfl (by decide) rfl ?_
  refine w_iconst dX2_takeBack_4 ?_
  refine w_icmp_lt 17 dX2_takeBack_5 (by decide) (by omega) (by omega) (fun c5 => ?_) (fun c5 => ?_)
  · refine w_iconst dX2_takeBack_17 ?_
    exact w_zretE (P := 0 < h 3 0 3) dX2_takeBack_18 rfl (by rw [fwB_f (by omega)]) (by rw [if_neg (by omega)] at k; exact k)
  · refine w_aload_n dX2_takeBack_8 rfl ?_
    refine w_getiE (v := h 3 0 3) dX2_takeBack_9 fl_X2_33 rfl (by decide) rfl ?_
    refine w_bipush dX2_takeBack_12 rfl ?_
    refine w_icmp_le 19 dX2_takeBack_14 (by decide) (by omega) (by omega) (fun c14 => ?_) (fun c14 => ?_)
    · refine w_aload_n dX2_takeBack_19 rfl ?_
      refine w_dup dX2_takeBack_20 rfl ?_
      refine w_getiE (v := h 3 0 3) dX2_takeBack_21 fl_X2_33 rfl (by decide) rfl ?_
      refine w_iconst dX2_takeBack_24 ?_
      refine w_isub dX2_takeBack_25 ?_
      refine w_puti dX2_takeBack_26 fl_X2_33 fp_3_3 rfl (by decide) ?_
      refine w_aload_n dX2_takeBack_29 rfl ?_
      refine w_getr 21 0 dX2_takeBack_30 fl_X2_25 rfl (by decide) ?_
      refine w_aload_n dX2_takeBack_33 rfl ?_
      refine w_getiE (v := h 3 0 3 - 1) dX2_takeBack_34 fl_X2_33 rfl (by decide) rfl ?_
      refine w_ialdE (v := h 21 0 (h 3 0 3 - 1).toNat) dX2_takeBack_37 rfl (by decide) (by omega) (by omega) rfl ?_
      refine w_istore_n [some (aR 3 0), some (aI (h 21 0 (h 3 0 3 - 1).toNat))] dX2_takeBack_38 rfl (by decide) ?_
      refine w_iload_n dX2_takeBack_39 rfl ?_
      refine w_if_ge 58 dX2_takeBack_40 (by decide) (by omega) (fun c40 => ?_) (fun c40 => ?_)
      · refine w_aload_n dX2_takeBack_58 rfl ?_
        refine w_getr 4 0 dX2_takeBack_59 fl_X2_12 rfl (by decide) ?_
        refine w_iload_n dX2_takeBack_62 rfl ?_
        refine w_iconst dX2_takeBack_63 ?_
        refine w_isub dX2_takeBack_64 ?_
        refine w_iconst dX2_takeBack_65 ?_
        refine w_callV (d := d + 1) (S := []) [aI ((h 21 0 (h 3 0 3 - 1).toNat) - 1), aI (-1)] dX2_takeBack_66 ml_X2_63 ok_X1_change vi_X1_change rfl rfl (by decide) rfl (Nat.le_of_ble_eq_true rfl) ?_
        refine c_X1_changeE (d := d) 0 ((h 21 0 (h 3 0 3 - 1).toNat) - 1) (-1) (by decide) (by first | assumption | omega | decide) (by first | assumption | omega | decide) (show (h 21 0 (h 3 0 3 - 1).toNat) - 1 < h 4 0 1 by first | assumption | omega | decide) ?_
        show fwWP mX2_takeBack (d + 2) 69 [some (aR 3 0), some (aI (h 21 0 (h 3 0 3 - 1).toNat))] [] (fwUc (fwUp h 3 0 3 ((h 3 0 3) - 1)) 17 0 (fwFu (h 17 0) ((h 21 0 (h 3 0 3 - 1).toNat) - 1).toNat (h 17 0 ((h 21 0 (h 3 0 3 - 1).toNat) - 1).toNat + (-1)))) Q
        refine w_iconst dX2_takeBack_69 ?_
        exact w_zretE (P := 0 < h 3 0 3) dX2_takeBack_70 rfl (by rw [fwB_t (by omega)]) (by rw [if_pos (by omega), mBack, mBackC, mBackD] at k; first | (rw [if_pos (by omega), if_pos (by omega)] at k; exact k) | (rw [if_neg (by omega), if_neg (by omega)] at k; exact k))
      · refine w_aload_n dX2_takeBack_43 rfl ?_
        refine w_getr 4 0 dX2_takeBack_44 fl_X2_12 rfl (by decide) ?_
        refine w_iload_n dX2_takeBack_47 rfl ?_
        refine w_ineg dX2_takeBack_48 ?_
        refine w_iconst dX2_takeBack_49 ?_
        refine w_isub dX2_takeBack_50 ?_
        refine w_iconst dX2_takeBack_51 ?_
        refine w_callV (d := d + 1) (S := []) [aI ((-(h 21 0 (h 3 0 3 - 1).toNat)) - 1), aI 1] dX2_takeBack_52 ml_X2_63 ok_X1_change vi_X1_change rfl rfl (by decide) rfl (Nat.le_of_ble_eq_true rfl) ?_
        refine c_X1_changeE (d := d) 0 ((-(h 21 0 (h 3 0 3 - 1).toNat)) - 1) 1 (by decide) (by first | assumption | omega | decide) (by first | assumption | omega | decide) (show (-(h 21 0 (h 3 0 3 - 1).toNat)) - 1 < h 4 0 1 by first | assumption | omega | decide) ?_
        show fwWP mX2_takeBack (d + 2) 55 [some (aR 3 0), some (aI (h 21 0 (h 3 0 3 - 1).toNat))] [] (fwUc (fwUp h 3 0 3 ((h 3 0 3) - 1)) 17 0 (fwFu (h 17 0) ((-(h 21 0 (h 3 0 3 - 1).toNat)) - 1).toNat (h 17 0 ((-(h 21 0 (h 3 0 3 - 1).toNat)) - 1).toNat + 1))) Q
        refine w_goto 69 dX2_takeBack_55 (by decide) ?_
        refine w_iconst dX2_takeBack_69 ?_
        exact w_zretE (P := 0 < h 3 0 3) dX2_takeBack_70 rfl (by rw [fwB_t (by omega)]) (by rw [if_pos (by omega), mBack, mBackC, mBackD] at k; first | (rw [if_pos (by omega), if_pos (by omega)] at k; exact k) | (rw [if_neg (by omega), if_neg (by omega)] at k; exact k))
    · (exfalso; omega)
theorem mNames_rng {F : Nat → Int} (x : Int) : ∀ n : Nat, n ≤ 8 → (∀ f : Nat, f < 8 → 0 ≤ F (7 * f + 1) ∧ F (7 * f + 1) ≤ 99) → 0 ≤ mNames F x n ∧ mNames F x n ≤ 99 * n := by
  intro n
  induction n with
  | zero => intro _ _; simp [mNames]
  | succ n ih =>
    intro hn hF
    have h1 := ih (by omega) hF
    have h2 := hF n (by omega)
    rw [mNames]
    split <;> omega
theorem mNames_r2 {h : fwH} (hP : pOk h 0) (x : Int) : 0 ≤ mNames (h 18 0) x (h 5 0 3).toNat ∧ mNames (h 18 0) x (h 5 0 3).toNat ≤ 792 := by
  have := mNames_rng (F := h 18 0) x (h 5 0 3).toNat (by have := hP.1; omega) (fun f hf => (hP.2 f hf).2.1)
  have h2 := hP.1
  omega
abbrev mEno (F : Nat → Int) (n : Nat) (lw su ba : Int) : Prop := lw ≤ mNames F (mSign F n su ba) n
set_option maxRecDepth 100000 in
set_option maxHeartbeats 4000000 in
theorem c_X2_isEnough {d : Nat} {h : fwH} {Q : Option fwV → fwH → Prop} (x y : Int) (hP : pOk h 0) (hlw : 0 ≤ h 3 0 4 ∧ h 3 0 4 ≤ 999) (k : Q (some (aI (fwB (mEno (h 18 0) (h 5 0 3).toNat (h 3 0 4) x y)))) h) : fwCt mX2_isEnough (d + 2) [aR 3 0, aI x, aI y] h Q := by
  refine fwCt_of [some (aR 3 0), some (aI x), some (aI y)] rfl rfl rfl ?_
  refine w_aload_n dX2_isEnough_0 rfl ?_
  refine w_getr 5 0 dX2_isEnough_1 fl_X2_21 rfl (by decide) ?_
  refine w_aload_n dX2_isEnough_4 rfl ?_
  refine w_getr 5 0 dX2_isEnough_5 fl_X2_21 rfl (by decide) ?_
  refine w_iload_n dX2_isEnough_8 rfl ?_
  refine w_iload_n dX2_isEnough_9 rfl ?_
  refine w_callV (d := d + 1) (S := [aR 5 0]) [aI x, aI y] dX2_isEnough_10 ml_X2_67 ok_X3_signersOf vi_X3_signersOf rfl rfl (by decide) rfl (Nat.le_of_ble_eq_true rfl) ?_
  refine c_X3_signersOf (d := d) 0 x y (by decide) (by first | assumption | omega | decide) ?_
  show fwWP mX2_isEnough (d + 2) 13 [some (aR 3 0), some (aI x), some (aI y)] [aI (mSign (h 18 0) (h 5 0 3).toNat x y), aR 5 0] h Q
  refine w_callV (d := d + 1) (S := []) [aI (mSign (h 18 0) (h 5 0 3).toNat x y)] dX2_isEnough_13 ml_X2_71 ok_X3_namesOf vi_X3_namesOf rfl rfl (by decide) rfl (Nat.le_of_ble_eq_true rfl) ?_
  refine c_X3_namesOf (d := d) 0 (mSign (h 18 0) (h 5 0 3).toNat x y) (by decide) (by first | assumption | omega | decide) ?_
  show fwWP mX2_isEnough (d + 2) 16 [some (aR 3 0), some (aI x), some (aI y)] [aI (mNames (h 18 0) (mSign (h 18 0) (h 5 0 3).toNat x y) (h 5 0 3).toNat)] h Q
  have hnr := mNames_r2 hP (mSign (h 18 0) (h 5 0 3).toNat x y)
  refine w_aload_n dX2_isEnough_16 rfl ?_
  refine w_geti dX2_isEnough_17 fl_X2_37 rfl (by decide) ?_
  refine w_icmp_lt 27 dX2_isEnough_20 (by decide) (by omega) (by omega) (fun c20 => ?_) (fun c20 => ?_)
  · refine w_iconst dX2_isEnough_27 ?_
    exact w_zretE dX2_isEnough_28 rfl (by first | (exfalso; omega) | (rw [fwB_t (by omega)]) | (rw [fwB_f (by omega)])) k
  · refine w_iconst dX2_isEnough_23 ?_
    refine w_goto 28 dX2_isEnough_24 (by decide) ?_
    exact w_zretE dX2_isEnough_28 rfl (by first | (exfalso; omega) | (rw [fwB_t (by omega)]) | (rw [fwB_f (by omega)])) k
end
section
/-! FootLower$Petition, but the play -/
def mWil (h : fwH) (g : Nat) : Int := mGers (h 4 g 1) (h 17 g) (h 4 g 2) (h 4 g 4) (h 18 0) (h 5 0 3).toNat (-1)
theorem c_willing0 {d : Nat} {h : fwH} {Q : Option fwV → fwH → Prop} (hP : pOk h 0) (hG : gOk h 0) (hn : 1 ≤ h 4 0 1) (hM : ∀ c : Nat, c < 10 → h 17 0 c ≤ 999) (k : ∀ A B, Q (some (aI (mWil h 0))) (fwUc (fwUc h 19 0 A) 20 0 B)) : fwCt mX3_gainersBy (d + 3) [aR 5 0, aR 4 0, aI (-1)] h Q := c_X3_gainersBy0 (-1) hP hG hn hM (Or.inr rfl) k
theorem c_willing5 {d : Nat} {h : fwH} {Q : Option fwV → fwH → Prop} (hP : pOk h 0) (hG : gOk h 5) (hn : 1 ≤ h 4 5 1) (hM : ∀ c : Nat, c < 10 → h 17 5 c ≤ 999) (k : ∀ A B, Q (some (aI (mWil h 5))) (fwUc (fwUc h 19 0 A) 20 0 B)) : fwCt mX3_gainersBy (d + 3) [aR 5 0, aR 4 5, aI (-1)] h Q := c_X3_gainersBy5 (-1) hP hG hn hM (Or.inr rfl) k
set_option maxRecDepth 100000 in
set_option maxHeartbeats 4000000 in
theorem c_X4_signersOfWon {d : Nat} {h : fwH} {Q : Option fwV → fwH → Prop} (x : Int) (hP : pOk h 0) (hG : gOk h 0) (hn : 1 ≤ h 4 0 1) (hM : ∀ c : Nat, c < 10 → h 17 0 c ≤ 999) (k : ∀ A B, Q (some (aI (mSign (h 18 0) (h 5 0 3).toNat (fwOr (mWil h 0) x) 0))) (fwUc (fwUc h 19 0 A) 20 0 B)) : fwCt mX4_signersOfWon (d + 4) [aR 6 0, aI x] h Q := by
  refine fwCt_of [some (aR 6 0), some (aI x)] rfl rfl rfl ?_
  refine w_aload_n dX4_signersOfWon_0 rfl ?_
  refine w_getr 3 0 dX4_signersOfWon_1 fl_X4_15 rfl (by decide) ?_
  refine w_getr 5 0 dX4_signersOfWon_4 fl_X4_19 rfl (by decide) ?_
  refine w_aload_n dX4_signersOfWon_7 rfl ?_
  refine w_getr 3 0 dX4_signersOfWon_8 fl_X4_15 rfl (by decide) ?_
  refine w_getr 5 0 dX4_signersOfWon_11 fl_X4_19 rfl (by decide) ?_
  refine w_aload_n dX4_signersOfWon_14 rfl ?_
  refine w_getr 3 0 dX4_signersOfWon_15 fl_X4_15 rfl (by decide) ?_
  refine w_getr 4 0 dX4_signersOfWon_18 fl_X4_25 rfl (by decide) ?_
  refine w_iconst dX4_signersOfWon_21 ?_
  refine w_callV (d := d + 3) (S := [aR 5 0]) [aR 4 0, aI (-1)] dX4_signersOfWon_22 ml_X4_29 ok_X3_gainersBy vi_X3_gainersBy rfl rfl (by decide) rfl (Nat.le_of_ble_eq_true rfl) ?_
  refine c_willing0 (d := d) (by first | assumption | omega | decide) (by first | assumption | omega | decide) (show 1 ≤ (h 4 0 1) by first | assumption | omega | decide) (by first | assumption | omega | decide) ?_
  intro A1 B2
  show fwWP mX4_signersOfWon (d + 4) 25 [some (aR 6 0), some (aI x)] [aI (mWil h 0), aR 5 0] (fwUc (fwUc h 19 0 A1) 20 0 B2) Q
  refine w_iload_n dX4_signersOfWon_25 rfl ?_
  refine w_ior dX4_signersOfWon_26 ?_
  refine w_iconst dX4_signersOfWon_27 ?_
  refine w_callV (d := d + 3) (S := []) [aI (fwOr (mWil h 0) x), aI 0] dX4_signersOfWon_28 ml_X4_35 ok_X3_signersOf vi_X3_signersOf rfl rfl (by decide) rfl (Nat.le_of_ble_eq_true rfl) ?_
  refine c_X3_signersOf (d := (d + 2)) 0 (fwOr (mWil h 0) x) 0 (by decide) (by first | assumption | omega | decide) ?_
  show fwWP mX4_signersOfWon (d + 4) 31 [some (aR 6 0), some (aI x)] [aI (mSign (h 18 0) (h 5 0 3).toNat (fwOr (mWil h 0) x) 0)] (fwUc (fwUc h 19 0 A1) 20 0 B2) Q
  exact w_iret dX4_signersOfWon_31 rfl (k _ _)
def mFew (E : Int → Bool) : Nat → Int × Int
  | 0 => (-1, 9)
  | s + 1 => if fwPop (s : Int) < (mFew E s).2 ∧ E (s : Int) = true then ((s : Int), fwPop (s : Int)) else mFew E s
theorem mFew_rng (E : Int → Bool) : ∀ s, 0 ≤ (mFew E s).2 ∧ (mFew E s).2 < 64 := by
  intro s
  induction s with
  | zero => simp [mFew]
  | succ s ih =>
    rw [mFew]
    split
    · exact fwPop_rng _
    · exact ih
/-- is it ENOUGH, with a set won -/
def mEnoB (h : fwH) (x : Int) : Bool := decide (mEno (h 18 0) (h 5 0 3).toNat (h 3 0 4) (fwOr (mWil h 0) x) 0)
set_option maxRecDepth 100000 in
set_option maxHeartbeats 4000000 in
theorem c_X4_fewestSet {d : Nat} {h : fwH} {Q : Option fwV → fwH → Prop}  (hP : pOk h 0) (hG : gOk h 0) (hn : 1 ≤ h 4 0 1) (hM : ∀ c : Nat, c < 10 → h 17 0 c ≤ 999) (hlw : 0 ≤ h 3 0 4 ∧ h 3 0 4 ≤ 999) (k : ∀ A B, Q (some (aI ((mFew (mEnoB h) (fwShl 1 (h 5 0 3)).toNat).1))) (fwUc (fwUc h 19 0 A) 20 0 B)) : fwCt mX4_fewestSet (d + 4) [aR 6 0] h Q := by
  refine fwCt_of [some (aR 6 0), none, none, none, none, none] rfl rfl rfl ?_
  refine w_aload_n dX4_fewestSet_0 rfl ?_
  refine w_getr 3 0 dX4_fewestSet_1 fl_X4_15 rfl (by decide) ?_
  refine w_getr 5 0 dX4_fewestSet_4 fl_X4_19 rfl (by decide) ?_
  refine w_aload_n dX4_fewestSet_7 rfl ?_
  refine w_getr 3 0 dX4_fewestSet_8 fl_X4_15 rfl (by decide) ?_
  refine w_getr 4 0 dX4_fewestSet_11 fl_X4_25 rfl (by decide) ?_
  refine w_iconst dX4_fewestSet_14 ?_
  refine w_callV (d := d + 3) (S := []) [aR 4 0, aI (-1)] dX4_fewestSet_15 ml_X4_29 ok_X3_gainersBy vi_X3_gainersBy rfl rfl (by decide) rfl (Nat.le_of_ble_eq_true rfl) ?_
  refine c_willing0 (d := d) (by first | assumption | omega | decide) (by first | assumption | omega | decide) (show 1 ≤ (h 4 0 1) by first | assumption | omega | decide) (by first | assumption | omega | decide) ?_
  intro A1 B2
  show fwWP mX4_fewestSet (d + 4) 18 [some (aR 6 0), none, none, none, none, none] [aI (mWil h 0)] (fwUc (fwUc h 19 0 A1) 20 0 B2) Q
  refine w_istore_n [some (aR 6 0), some (aI (mWil h 0)), none, none, none, none] dX4_fewestSet_18 rfl (by decide) ?_
  refine w_iconst dX4_fewestSet_19 ?_
  refine w_istore_n [some (aR 6 0), some (aI (mWil h 0)), some (aI (-1)), none, none, none] dX4_fewestSet_20 rfl (by decide) ?_
  refine w_bipush dX4_fewestSet_21 rfl ?_
  refine w_istore_n [some (aR 6 0), some (aI (mWil h 0)), some (aI (-1)), some (aI 9), none, none] dX4_fewestSet_23 rfl (by decide) ?_
  have hsh := fwShl1_rng (x := h 5 0 3) (by have := hP.1; omega)
  refine w_iconst dX4_fewestSet_24 ?_
  refine w_istore [some (aR 6 0), some (aI (mWil h 0)), some (aI (-1)), some (aI 9), some (aI 0), none] dX4_fewestSet_25 rfl (by decide) ?_
  have lp27 : ∀ c : Nat, c ≤ (fwShl 1 (h 5 0 3)).toNat → ∀ (y27 fo fe : Int), y27 = (c : Int) → fo = (mFew (mEnoB h) c).1 → fe = (mFew (mEnoB h) c).2 → fwWP mX4_fewestSet (d + 4) 27 [some (aR 6 0), some (aI (mWil h 0)), some (aI fo), some (aI fe), some (aI y27), none] [] (fwUc (fwUc h 19 0 A1) 20 0 B2) Q := by
    refine fw_up (fun c hc27 ih27 => ?_)
    intro y27 fo fe ey27 e_fo e_fe
    subst ey27
    subst e_fo
    subst e_fe
    have hfr := mFew_rng (mEnoB h) c
    show fwWP mX4_fewestSet (d + 4) 27 [some (aR 6 0), some (aI (mWil h 0)), some (aI ((mFew (mEnoB h) c).1)), some (aI ((mFew (mEnoB h) c).2)), some (aI (c : Int)), none] [] (fwUc (fwUc h 19 0 A1) 20 0 B2) Q
    refine w_iload dX4_fewestSet_27 rfl ?_
    refine w_iconst dX4_fewestSet_29 ?_
    refine w_aload_n dX4_fewestSet_30 rfl ?_
    refine w_getr 3 0 dX4_fewestSet_31 fl_X4_15 rfl (by decide) ?_
    refine w_getr 5 0 dX4_fewestSet_34 fl_X4_19 rfl (by decide) ?_
    refine w_getiE (v := h 5 0 3) dX4_fewestSet_37 fl_X4_39 rfl (by decide) (by first | rfl | simp [fwUp, fwUc]) ?_
    refine w_ishl dX4_fewestSet_40 ?_
    refine w_icmp_ge 84 dX4_fewestSet_41 (by decide) (by omega) (by omega) (fun c41 => ?_) (fun c41 => ?_)
    · have ec27 : (fwShl 1 (h 5 0 3)).toNat = c := by omega
      subst ec27
      refine w_iload_n dX4_fewestSet_84 rfl ?_
      exact w_iret dX4_fewestSet_85 rfl (k _ _)
    · refine w_iload dX4_fewestSet_44 rfl ?_
      refine w_callS (d := d + 3) (S := []) [aI (c : Int)] dX4_fewestSet_46 ml_X4_43 ok_J6_bitCount_0f7a4 st_J6_bitCount_0f7a4 rfl (Nat.le_of_ble_eq_true rfl) ?_
      refine c_bitCount (d := (d + 3)) (c : Int) ?_
      show fwWP mX4_fewestSet (d + 4) 49 [some (aR 6 0), some (aI (mWil h 0)), some (aI ((mFew (mEnoB h) c).1)), some (aI ((mFew (mEnoB h) c).2)), some (aI (c : Int)), none] [aI (fwPop (c : Int))] (fwUc (fwUc h 19 0 A1) 20 0 B2) Q
      have hpp := fwPop_rng (c : Int)
      refine w_istore [some (aR 6 0), some (aI (mWil h 0)), some (aI ((mFew (mEnoB h) c).1)), some (aI ((mFew (mEnoB h) c).2)), some (aI (c : Int)), some (aI (fwPop (c : Int)))] dX4_fewestSet_49 rfl (by decide) ?_
      refine w_iload dX4_fewestSet_51 rfl ?_
      refine w_iload_n dX4_fewestSet_53 rfl ?_
      refine w_icmp_ge 78 dX4_fewestSet_54 (by decide) (by omega) (by omega) (fun c54 => ?_) (fun c54 => ?_)
      · refine w_iinc [some (aR 6 0), some (aI (mWil h 0)), some (aI ((mFew (mEnoB h) c).1)), some (aI ((mFew (mEnoB h) c).2)), some (aI ((c : Int) + 1)), some (aI (fwPop (c : Int)))] dX4_fewestSet_78 rfl rfl (by decide) ?_
        refine w_goto 27 dX4_fewestSet_81 (by decide) ?_
        refine w_drop [5] [some (aR 6 0), some (aI (mWil h 0)), some (aI ((mFew (mEnoB h) c).1)), some (aI ((mFew (mEnoB h) c).2)), some (aI ((c : Int) + 1)), none] rfl ?_
        refine ih27 (by omega) _ _ _ ?_ ?_ ?_
        · exact (by omega)
        · exact (by rw [mFew]; first | rw [if_pos (by exact ⟨by omega, decide_eq_true ce⟩)] | rw [if_neg (by intro q; first | omega | exact ce (of_decide_eq_true q.2))])
        · exact (by rw [mFew]; first | rw [if_pos (by exact ⟨by omega, decide_eq_true ce⟩)] | rw [if_neg (by intro q; first | omega | exact ce (of_decide_eq_true q.2))])
      · refine w_aload_n dX4_fewestSet_57 rfl ?_
        refine w_getr 3 0 dX4_fewestSet_58 fl_X4_15 rfl (by decide) ?_
        refine w_iload_n dX4_fewestSet_61 rfl ?_
        refine w_iload dX4_fewestSet_62 rfl ?_
        refine w_ior dX4_fewestSet_64 ?_
        refine w_iconst dX4_fewestSet_65 ?_
        refine w_callV (d := d + 3) (S := []) [aI (fwOr (mWil h 0) (c : Int)), aI 0] dX4_fewestSet_66 ml_X4_49 ok_X2_isEnough vi_X2_isEnough rfl rfl (by decide) rfl (Nat.le_of_ble_eq_true rfl) ?_
        refine c_X2_isEnough (d := (d + 1)) (fwOr (mWil h 0) (c : Int)) 0 (by first | assumption | omega | decide) (by first | assumption | omega | decide) ?_
        show fwWP mX4_fewestSet (d + 4) 69 [some (aR 6 0), some (aI (mWil h 0)), some (aI ((mFew (mEnoB h) c).1)), some (aI ((mFew (mEnoB h) c).2)), some (aI (c : Int)), some (aI (fwPop (c : Int)))] [aI (fwB (mEno (h 18 0) (h 5 0 3).toNat (h 3 0 4) (fwOr (mWil h 0) (c : Int)) 0))] (fwUc (fwUc h 19 0 A1) 20 0 B2) Q
        refine w_ifB_eq 78 dX4_fewestSet_69 (by decide) (fun ce => ?_) (fun ce => ?_)
        · refine w_iinc [some (aR 6 0), some (aI (mWil h 0)), some (aI ((mFew (mEnoB h) c).1)), some (aI ((mFew (mEnoB h) c).2)), some (aI ((c : Int) + 1)), some (aI (fwPop (c : Int)))] dX4_fewestSet_78 rfl rfl (by decide) ?_
          refine w_goto 27 dX4_fewestSet_81 (by decide) ?_
          refine w_drop [5] [some (aR 6 0), some (aI (mWil h 0)), some (aI ((mFew (mEnoB h) c).1)), some (aI ((mFew (mEnoB h) c).2)), some (aI ((c : Int) + 1)), none] rfl ?_
          refine ih27 (by omega) _ _ _ ?_ ?_ ?_
          · exact (by omega)
          · exact (by rw [mFew]; first | rw [if_pos (by exact ⟨by omega, decide_eq_true ce⟩)] | rw [if_neg (by intro q; first | omega | exact ce (of_decide_eq_true q.2))])
          · exact (by rw [mFew]; first | rw [if_pos (by exact ⟨by omega, decide_eq_true ce⟩)] | rw [if_neg (by intro q; first | omega | exact ce (of_decide_eq_true q.2))])
        · refine w_iload dX4_fewestSet_72 rfl ?_
          refine w_istore_n [some (aR 6 0), some (aI (mWil h 0)), some (aI ((mFew (mEnoB h) c).1)), some (aI (fwPop (c : Int))), some (aI (c : Int)), some (aI (fwPop (c : Int)))] dX4_fewestSet_74 rfl (by decide) ?_
          refine w_iload dX4_fewestSet_75 rfl ?_
          refine w_istore_n [some (aR 6 0), some (aI (mWil h 0)), some (aI (c : Int)), some (aI (fwPop (c : Int))), some (aI (c : Int)), some (aI (fwPop (c : Int)))] dX4_fewestSet_77 rfl (by decide) ?_
          refine w_iinc [some (aR 6 0), some (aI (mWil h 0)), some (aI (c : Int)), some (aI (fwPop (c : Int))), some (aI ((c : Int) + 1)), some (aI (fwPop (c : Int)))] dX4_fewestSet_78 rfl rfl (by decide) ?_
          refine w_goto 27 dX4_fewestSet_81 (by decide) ?_
          refine w_drop [5] [some (aR 6 0), some (aI (mWil h 0)), some (aI (c : Int)), some (aI (fwPop (c : Int))), some (aI ((c : Int) + 1)), none] rfl ?_
          refine ih27 (by omega) _ _ _ ?_ ?_ ?_
          · exact (by omega)
          · exact (by rw [mFew]; first | rw [if_pos (by exact ⟨by omega, decide_eq_true ce⟩)] | rw [if_neg (by intro q; first | omega | exact ce (of_decide_eq_true q.2))])
          · exact (by rw [mFew]; first | rw [if_pos (by exact ⟨by omega, decide_eq_true ce⟩)] | rw [if_neg (by intro q; first | omega | exact ce (of_decide_eq_true q.2))])
  refine lp27 0 (Nat.zero_le _) _ _ _ ?_ ?_ ?_
  · exact (by omega)
  · exact rfl
  · exact rfl
def mBesN (h : fwH) (x : Int) (f : Nat) : Int := mNames (h 18 0) (mSign (h 18 0) (h 5 0 3).toNat (fwOr (fwOr (mWil h 0) x) (fwShl 1 (f : Int))) 0) (h 5 0 3).toNat
def mBes (h : fwH) (x : Int) : Nat → Int × Int
  | 0 => (-1, mNames (h 18 0) (mSign (h 18 0) (h 5 0 3).toNat (fwOr (mWil h 0) x) 0) (h 5 0 3).toNat)
  | f + 1 => if (mBes h x f).2 < mBesN h x f then ((f : Int), mBesN h x f) else mBes h x f
theorem mBes_rng {h : fwH} (hP : pOk h 0) (x : Int) : ∀ f, 0 ≤ (mBes h x f).2 ∧ (mBes h x f).2 ≤ 792 := by
  intro f
  induction f with
  | zero => exact mNames_r2 hP _
  | succ f ih =>
    rw [mBes]
    split
    · exact mNames_r2 hP _
    · exact ih
set_option maxRecDepth 100000 in
set_option maxHeartbeats 4000000 in
theorem c_X4_bestBeside {d : Nat} {h : fwH} {Q : Option fwV → fwH → Prop} (x : Int) (hP : pOk h 0) (hG : gOk h 0) (hn : 1 ≤ h 4 0 1) (hM : ∀ c : Nat, c < 10 → h 17 0 c ≤ 999) (k : ∀ A B, Q (some (aI ((mBes h x (h 5 0 3).toNat).1))) (fwUc (fwUc h 19 0 A) 20 0 B)) : fwCt mX4_bestBeside (d + 4) [aR 6 0, aI x] h Q := by
  refine fwCt_of [some (aR 6 0), some (aI x), none, none, none, none, none] rfl rfl rfl ?_
  have hpz0 := hP.1
  refine w_aload_n dX4_bestBeside_0 rfl ?_
  refine w_getr 3 0 dX4_bestBeside_1 fl_X4_15 rfl (by decide) ?_
  refine w_getr 5 0 dX4_bestBeside_4 fl_X4_19 rfl (by decide) ?_
  refine w_aload_n dX4_bestBeside_7 rfl ?_
  refine w_getr 3 0 dX4_bestBeside_8 fl_X4_15 rfl (by decide) ?_
  refine w_getr 4 0 dX4_bestBeside_11 fl_X4_25 rfl (by decide) ?_
  refine w_iconst dX4_bestBeside_14 ?_
  refine w_callV (d := d + 3) (S := []) [aR 4 0, aI (-1)] dX4_bestBeside_15 ml_X4_29 ok_X3_gainersBy vi_X3_gainersBy rfl rfl (by decide) rfl (Nat.le_of_ble_eq_true rfl) ?_
  refine c_willing0 (d := d) (by first | assumption | omega | decide) (by first | assumption | omega | decide) (show 1 ≤ (h 4 0 1) by first | assumption | omega | decide) (by first | assumption | omega | decide) ?_
  intro A1 B2
  show fwWP mX4_bestBeside (d + 4) 18 [some (aR 6 0), some (aI x), none, none, none, none, none] [aI (mWil h 0)] (fwUc (fwUc h 19 0 A1) 20 0 B2) Q
  refine w_iload_n dX4_bestBeside_18 rfl ?_
  refine w_ior dX4_bestBeside_19 ?_
  refine w_istore_n [some (aR 6 0), some (aI x), some (aI (fwOr (mWil h 0) x)), none, none, none, none] dX4_bestBeside_20 rfl (by decide) ?_
  refine w_iconst dX4_bestBeside_21 ?_
  refine w_istore_n [some (aR 6 0), some (aI x), some (aI (fwOr (mWil h 0) x)), some (aI (-1)), none, none, none] dX4_bestBeside_22 rfl (by decide) ?_
  refine w_aload_n dX4_bestBeside_23 rfl ?_
  refine w_getr 3 0 dX4_bestBeside_24 fl_X4_15 rfl (by decide) ?_
  refine w_getr 5 0 dX4_bestBeside_27 fl_X4_19 rfl (by decide) ?_
  refine w_aload_n dX4_bestBeside_30 rfl ?_
  refine w_getr 3 0 dX4_bestBeside_31 fl_X4_15 rfl (by decide) ?_
  refine w_getr 5 0 dX4_bestBeside_34 fl_X4_19 rfl (by decide) ?_
  refine w_iload_n dX4_bestBeside_37 rfl ?_
  refine w_iconst dX4_bestBeside_38 ?_
  refine w_callV (d := d + 3) (S := [aR 5 0]) [aI (fwOr (mWil h 0) x), aI 0] dX4_bestBeside_39 ml_X4_35 ok_X3_signersOf vi_X3_signersOf rfl rfl (by decide) rfl (Nat.le_of_ble_eq_true rfl) ?_
  refine c_X3_signersOf (d := (d + 2)) 0 (fwOr (mWil h 0) x) 0 (by decide) (by first | assumption | omega | decide) ?_
  show fwWP mX4_bestBeside (d + 4) 42 [some (aR 6 0), some (aI x), some (aI (fwOr (mWil h 0) x)), some (aI (-1)), none, none, none] [aI (mSign (h 18 0) (h 5 0 3).toNat (fwOr (mWil h 0) x) 0), aR 5 0] (fwUc (fwUc h 19 0 A1) 20 0 B2) Q
  refine w_callV (d := d + 3) (S := []) [aI (mSign (h 18 0) (h 5 0 3).toNat (fwOr (mWil h 0) x) 0)] dX4_bestBeside_42 ml_X4_53 ok_X3_namesOf vi_X3_namesOf rfl rfl (by decide) rfl (Nat.le_of_ble_eq_true rfl) ?_
  refine c_X3_namesOf (d := (d + 2)) 0 (mSign (h 18 0) (h 5 0 3).toNat (fwOr (mWil h 0) x) 0) (by decide) (by first | assumption | omega | decide) ?_
  show fwWP mX4_bestBeside (d + 4) 45 [some (aR 6 0), some (aI x), some (aI (fwOr (mWil h 0) x)), some (aI (-1)), none, none, none] [aI (mNames (h 18 0) (mSign (h 18 0) (h 5 0 3).toNat (fwOr (mWil h 0) x) 0) (h 5 0 3).toNat)] (fwUc (fwUc h 19 0 A1) 20 0 B2) Q
  refine w_istore [some (aR 6 0), some (aI x), some (aI (fwOr (mWil h 0) x)), some (aI (-1)), some (aI (mNames (h 18 0) (mSign (h 18 0) (h 5 0 3).toNat (fwOr (mWil h 0) x) 0) (h 5 0 3).toNat)), none, none] dX4_bestBeside_45 rfl (by decide) ?_
  refine w_iconst dX4_bestBeside_47 ?_
  refine w_istore [some (aR 6 0), some (aI x), some (aI (fwOr (mWil h 0) x)), some (aI (-1)), some (aI (mNames (h 18 0) (mSign (h 18 0) (h 5 0 3).toNat (fwOr (mWil h 0) x) 0) (h 5 0 3).toNat)), some (aI 0), none] dX4_bestBeside_48 rfl (by decide) ?_
  have lp50 : ∀ c : Nat, c ≤ (h 5 0 3).toNat → ∀ (y50 fo mo : Int), y50 = (c : Int) → fo = (mBes h x c).1 → mo = (mBes h x c).2 → fwWP mX4_bestBeside (d + 4) 50 [some (aR 6 0), some (aI x), some (aI (fwOr (mWil h 0) x)), some (aI fo), some (aI mo), some (aI y50), none] [] (fwUc (fwUc h 19 0 A1) 20 0 B2) Q := by
    refine fw_up (fun c hc50 ih50 => ?_)
    intro y50 fo mo ey50 e_fo e_mo
    subst ey50
    subst e_fo
    subst e_mo
    have hbr := mBes_rng hP x c
    have hpz := hP.1
    show fwWP mX4_bestBeside (d + 4) 50 [some (aR 6 0), some (aI x), some (aI (fwOr (mWil h 0) x)), some (aI ((mBes h x c).1)), some (aI ((mBes h x c).2)), some (aI (c : Int)), none] [] (fwUc (fwUc h 19 0 A1) 20 0 B2) Q
    refine w_iload dX4_bestBeside_50 rfl ?_
    refine w_aload_n dX4_bestBeside_52 rfl ?_
    refine w_getr 3 0 dX4_bestBeside_53 fl_X4_15 rfl (by decide) ?_
    refine w_getr 5 0 dX4_bestBeside_56 fl_X4_19 rfl (by decide) ?_
    refine w_getiE (v := h 5 0 3) dX4_bestBeside_59 fl_X4_39 rfl (by decide) (by first | rfl | simp [fwUp, fwUc]) ?_
    refine w_icmp_ge 114 dX4_bestBeside_62 (by decide) (by omega) (by omega) (fun c62 => ?_) (fun c62 => ?_)
    · have ec50 : (h 5 0 3).toNat = c := by omega
      subst ec50
      refine w_iload_n dX4_bestBeside_114 rfl ?_
      exact w_iret dX4_bestBeside_115 rfl (k _ _)
    · refine w_aload_n dX4_bestBeside_65 rfl ?_
      refine w_getr 3 0 dX4_bestBeside_66 fl_X4_15 rfl (by decide) ?_
      refine w_getr 5 0 dX4_bestBeside_69 fl_X4_19 rfl (by decide) ?_
      refine w_aload_n dX4_bestBeside_72 rfl ?_
      refine w_getr 3 0 dX4_bestBeside_73 fl_X4_15 rfl (by decide) ?_
      refine w_getr 5 0 dX4_bestBeside_76 fl_X4_19 rfl (by decide) ?_
      refine w_iload_n dX4_bestBeside_79 rfl ?_
      refine w_iconst dX4_bestBeside_80 ?_
      refine w_iload dX4_bestBeside_81 rfl ?_
      refine w_ishl dX4_bestBeside_83 ?_
      refine w_ior dX4_bestBeside_84 ?_
      refine w_iconst dX4_bestBeside_85 ?_
      refine w_callV (d := d + 3) (S := [aR 5 0]) [aI (fwOr (fwOr (mWil h 0) x) (fwShl 1 (c : Int))), aI 0] dX4_bestBeside_86 ml_X4_35 ok_X3_signersOf vi_X3_signersOf rfl rfl (by decide) rfl (Nat.le_of_ble_eq_true rfl) ?_
      refine c_X3_signersOf (d := (d + 2)) 0 (fwOr (fwOr (mWil h 0) x) (fwShl 1 (c : Int))) 0 (by decide) (by first | assumption | omega | decide) ?_
      show fwWP mX4_bestBeside (d + 4) 89 [some (aR 6 0), some (aI x), some (aI (fwOr (mWil h 0) x)), some (aI ((mBes h x c).1)), some (aI ((mBes h x c).2)), some (aI (c : Int)), none] [aI (mSign (h 18 0) (h 5 0 3).toNat (fwOr (fwOr (mWil h 0) x) (fwShl 1 (c : Int))) 0), aR 5 0] (fwUc (fwUc h 19 0 A1) 20 0 B2) Q
      refine w_callV (d := d + 3) (S := []) [aI (mSign (h 18 0) (h 5 0 3).toNat (fwOr (fwOr (mWil h 0) x) (fwShl 1 (c : Int))) 0)] dX4_bestBeside_89 ml_X4_53 ok_X3_namesOf vi_X3_namesOf rfl rfl (by decide) rfl (Nat.le_of_ble_eq_true rfl) ?_
      refine c_X3_namesOf (d := (d + 2)) 0 (mSign (h 18 0) (h 5 0 3).toNat (fwOr (fwOr (mWil h 0) x) (fwShl 1 (c : Int))) 0) (by decide) (by first | assumption | omega | decide) ?_
      show fwWP mX4_bestBeside (d + 4) 92 [some (aR 6 0), some (aI x), some (aI (fwOr (mWil h 0) x)), some (aI ((mBes h x c).1)), some (aI ((mBes h x c).2)), some (aI (c : Int)), none] [aI (mNames (h 18 0) (mSign (h 18 0) (h 5 0 3).toNat (fwOr (fwOr (mWil h 0) x) (fwShl 1 (c : Int))) 0) (h 5 0 3).toNat)] (fwUc (fwUc h 19 0 A1) 20 0 B2) Q
      have hbn : 0 ≤ mBesN h x c ∧ mBesN h x c ≤ 792 := mNames_r2 hP _
      change fwWP mX4_bestBeside (d + 4) 92 [some (aR 6 0), some (aI x), some (aI (fwOr (mWil h 0) x)), some (aI ((mBes h x c).1)), some (aI ((mBes h x c).2)), some (aI (c : Int)), none] [aI (mBesN h x c)] (fwUc (fwUc h 19 0 A1) 20 0 B2) Q
      refine w_istore [some (aR 6 0), some (aI x), some (aI (fwOr (mWil h 0) x)), some (aI ((mBes h x c).1)), some (aI ((mBes h x c).2)), some (aI (c : Int)), some (aI (mBesN h x c))] dX4_bestBeside_92 rfl (by decide) ?_
      refine w_iload dX4_bestBeside_94 rfl ?_
      refine w_iload dX4_bestBeside_96 rfl ?_
      refine w_icmp_le 108 dX4_bestBeside_98 (by decide) (by omega) (by omega) (fun c98 => ?_) (fun c98 => ?_)
      · refine w_iinc [some (aR 6 0), some (aI x), some (aI (fwOr (mWil h 0) x)), some (aI ((mBes h x c).1)), some (aI ((mBes h x c).2)), some (aI ((c : Int) + 1)), some (aI (mBesN h x c))] dX4_bestBeside_108 rfl rfl (by decide) ?_
        refine w_goto 50 dX4_bestBeside_111 (by decide) ?_
        refine w_drop [6] [some (aR 6 0), some (aI x), some (aI (fwOr (mWil h 0) x)), some (aI ((mBes h x c).1)), some (aI ((mBes h x c).2)), some (aI ((c : Int) + 1)), none] rfl ?_
        refine ih50 (by omega) _ _ _ ?_ ?_ ?_
        · exact (by omega)
        · exact (by rw [mBes]; first | rw [if_pos (by omega)] | rw [if_neg (by omega)])
        · exact (by rw [mBes]; first | rw [if_pos (by omega)] | rw [if_neg (by omega)])
      · refine w_iload dX4_bestBeside_101 rfl ?_
        refine w_istore [some (aR 6 0), some (aI x), some (aI (fwOr (mWil h 0) x)), some (aI ((mBes h x c).1)), some (aI (mBesN h x c)), some (aI (c : Int)), some (aI (mBesN h x c))] dX4_bestBeside_103 rfl (by decide) ?_
        refine w_iload dX4_bestBeside_105 rfl ?_
        refine w_istore_n [some (aR 6 0), some (aI x), some (aI (fwOr (mWil h 0) x)), some (aI (c : Int)), some (aI (mBesN h x c)), some (aI (c : Int)), some (aI (mBesN h x c))] dX4_bestBeside_107 rfl (by decide) ?_
        refine w_iinc [some (aR 6 0), some (aI x), some (aI (fwOr (mWil h 0) x)), some (aI (c : Int)), some (aI (mBesN h x c)), some (aI ((c : Int) + 1)), some (aI (mBesN h x c))] dX4_bestBeside_108 rfl rfl (by decide) ?_
        refine w_goto 50 dX4_bestBeside_111 (by decide) ?_
        refine w_drop [6] [some (aR 6 0), some (aI x), some (aI (fwOr (mWil h 0) x)), some (aI (c : Int)), some (aI (mBesN h x c)), some (aI ((c : Int) + 1)), none] rfl ?_
        refine ih50 (by omega) _ _ _ ?_ ?_ ?_
        · exact (by omega)
        · exact (by rw [mBes]; first | rw [if_pos (by omega)] | rw [if_neg (by omega)])
        · exact (by rw [mBes]; first | rw [if_pos (by omega)] | rw [if_neg (by omega)])
  refine lp50 0 (Nat.zero_le _) _ _ _ ?_ ?_ ?_
  · exact (by omega)
  · exact rfl
  · exact rfl
def mNeedB (h : fwH) (f : Nat) : Bool := decide (¬ mEno (h 18 0) (h 5 0 3).toNat (h 3 0 4) (mWil h 0) (fwShl 1 (f : Int)))
def mNeed (h : fwH) : Int := if mEno (h 18 0) (h 5 0 3).toNat (h 3 0 4) (mWil h 0) 0 then mBits (mNeedB h) (h 5 0 3).toNat else 0
set_option maxRecDepth 100000 in
set_option maxHeartbeats 4000000 in
theorem c_X4_neededFolk {d : Nat} {h : fwH} {Q : Option fwV → fwH → Prop}  (hP : pOk h 0) (hG : gOk h 0) (hn : 1 ≤ h 4 0 1) (hM : ∀ c : Nat, c < 10 → h 17 0 c ≤ 999) (hlw : 0 ≤ h 3 0 4 ∧ h 3 0 4 ≤ 999) (k : ∀ A B, Q (some (aI (mNeed h))) (fwUc (fwUc h 19 0 A) 20 0 B)) : fwCt mX4_neededFolk (d + 4) [aR 6 0] h Q := by
  refine fwCt_of [some (aR 6 0), none, none, none] rfl rfl rfl ?_
  have hpz0 := hP.1
  refine w_aload_n dX4_neededFolk_0 rfl ?_
  refine w_getr 3 0 dX4_neededFolk_1 fl_X4_15 rfl (by decide) ?_
  refine w_getr 5 0 dX4_neededFolk_4 fl_X4_19 rfl (by decide) ?_
  refine w_aload_n dX4_neededFolk_7 rfl ?_
  refine w_getr 3 0 dX4_neededFolk_8 fl_X4_15 rfl (by decide) ?_
  refine w_getr 4 0 dX4_neededFolk_11 fl_X4_25 rfl (by decide) ?_
  refine w_iconst dX4_neededFolk_14 ?_
  refine w_callV (d := d + 3) (S := []) [aR 4 0, aI (-1)] dX4_neededFolk_15 ml_X4_29 ok_X3_gainersBy vi_X3_gainersBy rfl rfl (by decide) rfl (Nat.le_of_ble_eq_true rfl) ?_
  refine c_willing0 (d := d) (by first | assumption | omega | decide) (by first | assumption | omega | decide) (show 1 ≤ (h 4 0 1) by first | assumption | omega | decide) (by first | assumption | omega | decide) ?_
  intro A1 B2
  show fwWP mX4_neededFolk (d + 4) 18 [some (aR 6 0), none, none, none] [aI (mWil h 0)] (fwUc (fwUc h 19 0 A1) 20 0 B2) Q
  refine w_istore_n [some (aR 6 0), some (aI (mWil h 0)), none, none] dX4_neededFolk_18 rfl (by decide) ?_
  refine w_aload_n dX4_neededFolk_19 rfl ?_
  refine w_getr 3 0 dX4_neededFolk_20 fl_X4_15 rfl (by decide) ?_
  refine w_iload_n dX4_neededFolk_23 rfl ?_
  refine w_iconst dX4_neededFolk_24 ?_
  refine w_callV (d := d + 3) (S := []) [aI (mWil h 0), aI 0] dX4_neededFolk_25 ml_X4_49 ok_X2_isEnough vi_X2_isEnough rfl rfl (by decide) rfl (Nat.le_of_ble_eq_true rfl) ?_
  refine c_X2_isEnough (d := (d + 1)) (mWil h 0) 0 (by first | assumption | omega | decide) (by first | assumption | omega | decide) ?_
  show fwWP mX4_neededFolk (d + 4) 28 [some (aR 6 0), some (aI (mWil h 0)), none, none] [aI (fwB (mEno (h 18 0) (h 5 0 3).toNat (h 3 0 4) (mWil h 0) 0))] (fwUc (fwUc h 19 0 A1) 20 0 B2) Q
  refine w_ifB_ne 33 dX4_neededFolk_28 (by decide) (fun c0 => ?_) (fun c0 => ?_)
  · refine w_iconst dX4_neededFolk_33 ?_
    refine w_istore_n [some (aR 6 0), some (aI (mWil h 0)), some (aI 0), none] dX4_neededFolk_34 rfl (by decide) ?_
    refine w_iconst dX4_neededFolk_35 ?_
    refine w_istore_n [some (aR 6 0), some (aI (mWil h 0)), some (aI 0), some (aI 0)] dX4_neededFolk_36 rfl (by decide) ?_
    have lp37 : ∀ c : Nat, c ≤ (h 5 0 3).toNat → ∀ (y37 bi : Int), y37 = (c : Int) → bi = mBits (mNeedB h) c → fwWP mX4_neededFolk (d + 4) 37 [some (aR 6 0), some (aI (mWil h 0)), some (aI bi), some (aI y37)] [] (fwUc (fwUc h 19 0 A1) 20 0 B2) Q := by
      refine fw_up (fun c hc37 ih37 => ?_)
      intro y37 bi ey37 e_bi
      subst ey37
      subst e_bi
      have hpz := hP.1
      show fwWP mX4_neededFolk (d + 4) 37 [some (aR 6 0), some (aI (mWil h 0)), some (aI (mBits (mNeedB h) c)), some (aI (c : Int))] [] (fwUc (fwUc h 19 0 A1) 20 0 B2) Q
      refine w_iload_n dX4_neededFolk_37 rfl ?_
      refine w_aload_n dX4_neededFolk_38 rfl ?_
      refine w_getr 3 0 dX4_neededFolk_39 fl_X4_15 rfl (by decide) ?_
      refine w_getr 5 0 dX4_neededFolk_42 fl_X4_19 rfl (by decide) ?_
      refine w_getiE (v := h 5 0 3) dX4_neededFolk_45 fl_X4_39 rfl (by decide) (by first | rfl | simp [fwUp, fwUc]) ?_
      refine w_icmp_ge 77 dX4_neededFolk_48 (by decide) (by omega) (by omega) (fun c48 => ?_) (fun c48 => ?_)
      · have ec37 : (h 5 0 3).toNat = c := by omega
        subst ec37
        refine w_iload_n dX4_neededFolk_77 rfl ?_
        exact w_iretE dX4_neededFolk_78 rfl (by rw [mNeed, if_pos c0]) (k _ _)
      · refine w_aload_n dX4_neededFolk_51 rfl ?_
        refine w_getr 3 0 dX4_neededFolk_52 fl_X4_15 rfl (by decide) ?_
        refine w_iload_n dX4_neededFolk_55 rfl ?_
        refine w_iconst dX4_neededFolk_56 ?_
        refine w_iload_n dX4_neededFolk_57 rfl ?_
        refine w_ishl dX4_neededFolk_58 ?_
        refine w_callV (d := d + 3) (S := []) [aI (mWil h 0), aI (fwShl 1 (c : Int))] dX4_neededFolk_59 ml_X4_49 ok_X2_isEnough vi_X2_isEnough rfl rfl (by decide) rfl (Nat.le_of_ble_eq_true rfl) ?_
        refine c_X2_isEnough (d := (d + 1)) (mWil h 0) (fwShl 1 (c : Int)) (by first | assumption | omega | decide) (by first | assumption | omega | decide) ?_
        show fwWP mX4_neededFolk (d + 4) 62 [some (aR 6 0), some (aI (mWil h 0)), some (aI (mBits (mNeedB h) c)), some (aI (c : Int))] [aI (fwB (mEno (h 18 0) (h 5 0 3).toNat (h 3 0 4) (mWil h 0) (fwShl 1 (c : Int))))] (fwUc (fwUc h 19 0 A1) 20 0 B2) Q
        refine w_ifB_ne 71 dX4_neededFolk_62 (by decide) (fun ce => ?_) (fun ce => ?_)
        · refine w_iinc [some (aR 6 0), some (aI (mWil h 0)), some (aI (mBits (mNeedB h) c)), some (aI ((c : Int) + 1))] dX4_neededFolk_71 rfl rfl (by decide) ?_
          refine w_goto 37 dX4_neededFolk_74 (by decide) ?_
          refine ih37 (by omega) _ _ ?_ ?_
          · exact (by omega)
          · exact (by rw [mBits]; first | rw [if_pos (by exact decide_eq_true ce)] | rw [if_neg (by intro q; exact (of_decide_eq_true q) ce)])
        · refine w_iload_n dX4_neededFolk_65 rfl ?_
          refine w_iconst dX4_neededFolk_66 ?_
          refine w_iload_n dX4_neededFolk_67 rfl ?_
          refine w_ishl dX4_neededFolk_68 ?_
          refine w_ior dX4_neededFolk_69 ?_
          refine w_istore_n [some (aR 6 0), some (aI (mWil h 0)), some (aI (fwOr (mBits (mNeedB h) c) (fwShl 1 (c : Int)))), some (aI (c : Int))] dX4_neededFolk_70 rfl (by decide) ?_
          refine w_iinc [some (aR 6 0), some (aI (mWil h 0)), some (aI (fwOr (mBits (mNeedB h) c) (fwShl 1 (c : Int)))), some (aI ((c : Int) + 1))] dX4_neededFolk_71 rfl rfl (by decide) ?_
          refine w_goto 37 dX4_neededFolk_74 (by decide) ?_
          refine ih37 (by omega) _ _ ?_ ?_
          · exact (by omega)
          · exact (by rw [mBits]; first | rw [if_pos (by exact decide_eq_true ce)] | rw [if_neg (by intro q; exact (of_decide_eq_true q) ce)])
    refine lp37 0 (Nat.zero_le _) _ _ ?_ ?_
    · exact (by omega)
    · exact rfl
  · refine w_iconst dX4_neededFolk_31 ?_
    exact w_iretE dX4_neededFolk_32 rfl (by rw [mNeed, if_neg c0]) (k _ _)
end

set_option maxRecDepth 100000 in
set_option maxHeartbeats 4000000 in
theorem c_X2_clear {d : Nat} {h : fwH} {Q : Option fwV → fwH → Prop}   (k : Q none (fwUp (fwUp (fwUp (fwUp (fwUc (fwUp (fwUc h 4 1 (fun _ => 0)) 5 1 3 0) 18 1 (fun _ => 0)) 3 1 3 0) 3 1 4 0) 3 1 5 0) 3 1 6 0)) : fwCt mX2_clear (d + 1) [aR 3 1] h Q := by
  refine fwCt_of [some (aR 3 1)] rfl rfl rfl ?_
  refine w_aload_n dX2_clear_0 rfl ?_
  refine w_getr 4 1 dX2_clear_1 fl_X2_12 rfl (by decide) ?_
  refine w_callV (d := d + 0) (S := []) [] dX2_clear_4 ml_X2_29 ok_X1_clear vi_X1_clear rfl rfl (by decide) rfl (Nat.le_of_ble_eq_true rfl) ?_
  refine c_X1_clear (d := d) 1 (by decide) ?_
  show fwWP mX2_clear (d + 1) 7 [some (aR 3 1)] [] (fwUc h 4 1 (fun _ => 0)) Q
  refine w_aload_n dX2_clear_7 rfl ?_
  refine w_getr 5 1 dX2_clear_8 fl_X2_21 rfl (by decide) ?_
  refine w_callV (d := d + 0) (S := []) [] dX2_clear_11 ml_X2_32 ok_X3_clear vi_X3_clear rfl rfl (by decide) rfl (Nat.le_of_ble_eq_true rfl) ?_
  refine c_X3_clear (d := d) 1 (by decide) ?_
  show fwWP mX2_clear (d + 1) 14 [some (aR 3 1)] [] (fwUc (fwUp (fwUc h 4 1 (fun _ => 0)) 5 1 3 0) 18 1 (fun _ => 0)) Q
  refine w_aload_n dX2_clear_14 rfl ?_
  refine w_iconst dX2_clear_15 ?_
  refine w_puti dX2_clear_16 fl_X2_33 fp_3_3 rfl (by decide) ?_
  refine w_aload_n dX2_clear_19 rfl ?_
  refine w_iconst dX2_clear_20 ?_
  refine w_puti dX2_clear_21 fl_X2_37 fp_3_4 rfl (by decide) ?_
  refine w_aload_n dX2_clear_24 rfl ?_
  refine w_iconst dX2_clear_25 ?_
  refine w_puti dX2_clear_26 fl_X2_40 fp_3_5 rfl (by decide) ?_
  refine w_aload_n dX2_clear_29 rfl ?_
  refine w_iconst dX2_clear_30 ?_
  refine w_puti dX2_clear_31 fl_X2_43 fp_3_6 rfl (by decide) ?_
  exact w_vret dX2_clear_34 rfl (k)
def mtCopy (h : fwH) (m q : Nat) : fwH := fwUc (fwUc (fwUc (fwUc (fwUc (fwUc h 3 m (h 3 q)) 4 m (h 4 q)) 5 m (h 5 q)) 17 m (h 17 q)) 18 m (h 18 q)) 21 m (h 21 q)
set_option maxRecDepth 100000 in
set_option maxHeartbeats 4000000 in
theorem c_X2_copyFrom {d : Nat} {h : fwH} {Q : Option fwV → fwH → Prop} (m q : Nat) (hm : m < 5) (hq : q < 5) (hmq : m ≠ q) (hz : h 4 q 4 = 0 ∨ h 4 q 4 = 1) (k : Q none (mtCopy h m q)) : fwCt mX2_copyFrom (d + 1) [aR 3 m, aR 3 q] h Q := by
  refine fwCt_of [some (aR 3 m), some (aR 3 q), none] rfl rfl rfl ?_
  refine w_aload_n dX2_copyFrom_0 rfl ?_
  refine w_getr 4 m dX2_copyFrom_1 fl_X2_12 rfl hm ?_
  refine w_aload_n dX2_copyFrom_4 rfl ?_
  refine w_getr 4 q dX2_copyFrom_5 fl_X2_12 rfl hq ?_
  refine w_callV (d := d + 0) (S := []) [aR 4 q] dX2_copyFrom_8 ml_X2_46 ok_X1_copyFrom vi_X1_copyFrom rfl rfl (by show m < 6; omega) rfl (Nat.le_of_ble_eq_true rfl) ?_
  refine c_X1_copyFrom (d := d) m q (by show m < 6; omega) (by show q < 6; omega) (by first | assumption | omega | decide) (by first | assumption | omega | decide) ?_
  show fwWP mX2_copyFrom (d + 1) 11 [some (aR 3 m), some (aR 3 q), none] [] (fwUc (fwUc h 17 m (h 17 q)) 4 m (h 4 q)) Q
  rw [show fwUc (fwUc h 17 m (h 17 q)) 4 m (h 4 q) = (fwUc (fwUc h 4 m (h 4 q)) 17 m (h 17 q)) from by funext a b; simp only [fwUc]; (repeat' split); all_goals first | rfl | (exfalso; omega)]
  refine w_aload_n dX2_copyFrom_11 rfl ?_
  refine w_getr 5 m dX2_copyFrom_12 fl_X2_21 rfl hm ?_
  refine w_aload_n dX2_copyFrom_15 rfl ?_
  refine w_getr 5 q dX2_copyFrom_16 fl_X2_21 rfl hq ?_
  refine w_callV (d := d + 0) (S := []) [aR 5 q] dX2_copyFrom_19 ml_X2_50 ok_X3_copyFrom vi_X3_copyFrom rfl rfl hm rfl (Nat.le_of_ble_eq_true rfl) ?_
  refine c_X3_copyFrom (d := d) m q hm hq (by first | assumption | omega | decide) ?_
  show fwWP mX2_copyFrom (d + 1) 22 [some (aR 3 m), some (aR 3 q), none] [] (fwUp (fwUc (fwUc (fwUc h 4 m (h 4 q)) 17 m (h 17 q)) 18 m (h 18 q)) 5 m 3 (h 5 q 3)) Q
  refine w_iconst dX2_copyFrom_22 ?_
  refine w_istore_n [some (aR 3 m), some (aR 3 q), some (aI 0)] dX2_copyFrom_23 rfl (by decide) ?_
  have lp24 : ∀ c : Nat, c ≤ 60 → ∀ (y24  : Int) (hh24 : fwH), y24 = (c : Int) → hh24 = (fwUc (fwUp (fwUc (fwUc (fwUc h 4 m (h 4 q)) 17 m (h 17 q)) 18 m (h 18 q)) 5 m 3 (h 5 q 3)) 21 m (fwFl (h 21 q) (h 21 m) c)) → fwWP mX2_copyFrom (d + 1) 24 [some (aR 3 m), some (aR 3 q), some (aI y24)] [] hh24 Q := by
    refine fw_up (fun c hc24 ih24 => ?_)
    intro y24  hh24 ey24 eh24
    subst ey24
    subst eh24
    show fwWP mX2_copyFrom (d + 1) 24 [some (aR 3 m), some (aR 3 q), some (aI (c : Int))] [] (fwUc (fwUp (fwUc (fwUc (fwUc h 4 m (h 4 q)) 17 m (h 17 q)) 18 m (h 18 q)) 5 m 3 (h 5 q 3)) 21 m (fwFl (h 21 q) (h 21 m) c)) Q
    refine w_iload_n dX2_copyFrom_24 rfl ?_
    refine w_bipush dX2_copyFrom_25 rfl ?_
    refine w_icmp_ge 48 dX2_copyFrom_27 (by decide) (by omega) (by omega) (fun c27 => ?_) (fun c27 => ?_)
    · have ec24 : 60 = c := by omega
      subst ec24
      refine w_aload_n dX2_copyFrom_48 rfl ?_
      refine w_aload_n dX2_copyFrom_49 rfl ?_
      refine w_getiE (v := h 3 q 3) dX2_copyFrom_50 fl_X2_33 rfl hq (by simp [fwUp, fwUc, Ne.symm hmq]) ?_
      refine w_puti dX2_copyFrom_53 fl_X2_33 fp_3_3 rfl hm ?_
      refine w_aload_n dX2_copyFrom_56 rfl ?_
      refine w_aload_n dX2_copyFrom_57 rfl ?_
      refine w_getiE (v := h 3 q 4) dX2_copyFrom_58 fl_X2_37 rfl hq (by simp [fwUp, fwUc, Ne.symm hmq]) ?_
      refine w_puti dX2_copyFrom_61 fl_X2_37 fp_3_4 rfl hm ?_
      refine w_aload_n dX2_copyFrom_64 rfl ?_
      refine w_aload_n dX2_copyFrom_65 rfl ?_
      refine w_getiE (v := h 3 q 5) dX2_copyFrom_66 fl_X2_40 rfl hq (by simp [fwUp, fwUc, Ne.symm hmq]) ?_
      refine w_puti dX2_copyFrom_69 fl_X2_40 fp_3_5 rfl hm ?_
      refine w_aload_n dX2_copyFrom_72 rfl ?_
      refine w_aload_n dX2_copyFrom_73 rfl ?_
      refine w_getiE (v := h 3 q 6) dX2_copyFrom_74 fl_X2_43 rfl hq (by simp [fwUp, fwUc, Ne.symm hmq]) ?_
      refine w_puti dX2_copyFrom_77 fl_X2_43 fp_3_6 rfl hm ?_
      refine w_heq (mtCopy h m q) ?_ ?_
      · intro a b s hb hs hr
        unfold mtCopy
        simp only [fwUp, fwUc]
        by_cases e : b = m
        · subst e
          by_cases e3 : a = 3
          · subst e3
            rcases (show s = 0 ∨ s = 1 ∨ s = 2 ∨ s = 3 ∨ s = 4 ∨ s = 5 ∨ s = 6 by have : s < 7 := hs; omega) with rfl | rfl | rfl | rfl | rfl | rfl | rfl
            · cases hr
            · cases hr
            · cases hr
            all_goals simp [fwUp, fwUc]
          · by_cases e5 : a = 5
            · subst e5
              rcases (show s = 0 ∨ s = 1 ∨ s = 2 ∨ s = 3 by have : s < 4 := hs; omega) with rfl | rfl | rfl | rfl
              · cases hr
              · cases hr
              · cases hr
              all_goals simp [fwUp, fwUc]
            · by_cases e21 : a = 21
              · subst e21
                have : s < 60 := hs
                simp [fwFl, this, fwUp, fwUc]
              · by_cases e4 : a = 4
                · subst e4; simp [fwUp, fwUc]
                · by_cases e17 : a = 17
                  · subst e17; simp [fwUp, fwUc]
                  · by_cases e18 : a = 18
                    · subst e18; simp [fwUp, fwUc]
                    · simp [e3, e4, e5, e17, e18, e21, fwUp, fwUc]
        · simp [e, fwUp, fwUc]
      · exact w_vret dX2_copyFrom_80 rfl k
    · refine w_aload_n dX2_copyFrom_30 rfl ?_
      refine w_getr 21 m dX2_copyFrom_31 fl_X2_25 rfl hm ?_
      refine w_iload_n dX2_copyFrom_34 rfl ?_
      refine w_aload_n dX2_copyFrom_35 rfl ?_
      refine w_getr 21 q dX2_copyFrom_36 fl_X2_25 rfl hq ?_
      refine w_iload_n dX2_copyFrom_39 rfl ?_
      refine w_ialdE (v := h 21 q c) dX2_copyFrom_40 rfl hq (by omega) (by omega) (by rw [fwUc_ne (fun z => hmq z.2.symm)]; rfl) ?_
      refine w_iast dX2_copyFrom_41 rfl hm (by omega) (by omega) ?_
      refine w_iinc [some (aR 3 m), some (aR 3 q), some (aI ((c : Int) + 1))] dX2_copyFrom_42 rfl rfl (by decide) ?_
      refine w_goto 24 dX2_copyFrom_45 (by decide) ?_
      refine ih24 (by omega) _ _ ?_ ?_
      · exact (by omega)
      · exact (by rw [fwUp_uc, Int.toNat_natCast]; exact congrArg _ (fwFl_succ (h 21 q) (h 21 m) c))
  refine lp24 0 (Nat.zero_le _) _ _ ?_ ?_
  · exact (by omega)
  · exact (by rw [fwFl_0]; exact (fwUc_self _ 21 m).symm)
set_option maxRecDepth 100000 in
set_option maxHeartbeats 4000000 in
theorem c_X2_isTold {d : Nat} {h : fwH} {Q : Option fwV → fwH → Prop}  (hl : 0 ≤ h 3 0 6 ∧ h 3 0 6 ≤ 1000) (k : Q (some (aI (fwB (0 < h 3 0 6)))) h) : fwCt mX2_isTold (d + 0) [aR 3 0] h Q := by
  refine fwCt_of [some (aR 3 0)] rfl rfl rfl ?_
  refine w_aload_n dX2_isTold_0 rfl ?_
  refine w_geti dX2_isTold_1 fl_X2_43 rfl (by decide) ?_
  refine w_if_le 11 dX2_isTold_4 (by decide) (by omega) (fun c4 => ?_) (fun c4 => ?_)
  · refine w_iconst dX2_isTold_11 ?_
    exact w_zretE dX2_isTold_12 rfl (by first | (exfalso; omega) | (rw [fwB_t (by omega)]) | (rw [fwB_f (by omega)])) k
  · refine w_iconst dX2_isTold_7 ?_
    refine w_goto 12 dX2_isTold_8 (by decide) ?_
    exact w_zretE dX2_isTold_12 rfl (by first | (exfalso; omega) | (rw [fwB_t (by omega)]) | (rw [fwB_f (by omega)])) k
theorem fwShl1 : ∀ n : Nat, n ≤ 20 → fwShl 1 (n : Int) = 2 ^ n := by decide +kernel
theorem fwShl1_rng {x : Int} (hx : 0 ≤ x ∧ x ≤ 20) : 1 ≤ fwShl 1 x ∧ fwShl 1 x ≤ 1048576 := by
  obtain ⟨n, rfl⟩ : ∃ n : Nat, x = n := ⟨x.toNat, by omega⟩
  have key : ∀ n : Nat, n ≤ 20 → 1 ≤ fwShl 1 (n : Int) ∧ fwShl 1 (n : Int) ≤ 1048576 := by decide +kernel
  exact key n (by omega)
set_option maxRecDepth 100000 in
set_option maxHeartbeats 4000000 in
theorem c_X2_hasSet {d : Nat} {h : fwH} {Q : Option fwV → fwH → Prop} (x : Int) (hl : 0 ≤ h 3 0 6 ∧ h 3 0 6 ≤ 1000) (hP : pOk h 0) (hx : -2147483648 ≤ x ∧ x < 2147483648) (k : Q (some (aI (fwB (0 < h 3 0 6 ∧ 0 ≤ x ∧ x < fwShl 1 (h 5 0 3))))) h) : fwCt mX2_hasSet (d + 1) [aR 3 0, aI x] h Q := by
  refine fwCt_of [some (aR 3 0), some (aI x)] rfl rfl rfl ?_
  have hp := hP.1
  refine w_aload_n dX2_hasSet_0 rfl ?_
  refine w_callV (d := d + 0) (S := []) [] dX2_hasSet_1 ml_X2_53 ok_X2_isTold vi_X2_isTold rfl rfl (by decide) rfl (Nat.le_of_ble_eq_true rfl) ?_
  refine c_X2_isTold (d := d) (show 0 ≤ h 3 0 6 ∧ h 3 0 6 ≤ 1000 by first | assumption | omega | decide) ?_
  show fwWP mX2_hasSet (d + 1) 4 [some (aR 3 0), some (aI x)] [aI (fwB (0 < h 3 0 6))] h Q
  refine w_ifB_eq 28 dX2_hasSet_4 (by decide) (fun c4 => ?_) (fun c4 => ?_)
  · refine w_iconst dX2_hasSet_28 ?_
    exact w_zretE dX2_hasSet_29 rfl (by first | (exfalso; omega) | (rw [fwB_t (by omega)]) | (rw [fwB_f (by omega)])) k
  · refine w_iload_n dX2_hasSet_7 rfl ?_
    refine w_if_lt 28 dX2_hasSet_8 (by decide) (by omega) (fun c8 => ?_) (fun c8 => ?_)
    · refine w_iconst dX2_hasSet_28 ?_
      exact w_zretE dX2_hasSet_29 rfl (by first | (exfalso; omega) | (rw [fwB_t (by omega)]) | (rw [fwB_f (by omega)])) k
    · refine w_iload_n dX2_hasSet_11 rfl ?_
      refine w_iconst dX2_hasSet_12 ?_
      refine w_aload_n dX2_hasSet_13 rfl ?_
      refine w_getr 5 0 dX2_hasSet_14 fl_X2_21 rfl (by decide) ?_
      refine w_geti dX2_hasSet_17 fl_X2_57 rfl (by decide) ?_
      have hsh := fwShl1_rng (x := h 5 0 3) (by omega)
      refine w_ishl dX2_hasSet_20 ?_
      refine w_icmp_ge 28 dX2_hasSet_21 (by decide) (by omega) (by omega) (fun c21 => ?_) (fun c21 => ?_)
      · refine w_iconst dX2_hasSet_28 ?_
        exact w_zretE dX2_hasSet_29 rfl (by first | (exfalso; omega) | (rw [fwB_t (by omega)]) | (rw [fwB_f (by omega)])) k
      · refine w_iconst dX2_hasSet_24 ?_
        refine w_goto 29 dX2_hasSet_25 (by decide) ?_
        exact w_zretE dX2_hasSet_29 rfl (by first | (exfalso; omega) | (rw [fwB_t (by omega)]) | (rw [fwB_f (by omega)])) k
set_option maxRecDepth 100000 in
set_option maxHeartbeats 4000000 in
theorem c_X2_hasRoom {d : Nat} {h : fwH} {Q : Option fwV → fwH → Prop}  (ha : 0 ≤ h 3 0 3 ∧ h 3 0 3 ≤ 60) (k : Q (some (aI (fwB (h 3 0 3 < 60)))) h) : fwCt mX2_hasRoomForAct (d + 0) [aR 3 0] h Q := by
  refine fwCt_of [some (aR 3 0)] rfl rfl rfl ?_
  refine w_aload_n dX2_hasRoomForAct_0 rfl ?_
  refine w_geti dX2_hasRoomForAct_1 fl_X2_33 rfl (by decide) ?_
  refine w_if_lt 20 dX2_hasRoomForAct_4 (by decide) (by omega) (fun c4 => ?_) (fun c4 => ?_)
  · refine w_iconst dX2_hasRoomForAct_20 ?_
    exact w_zretE dX2_hasRoomForAct_21 rfl (by first | (exfalso; omega) | (rw [fwB_t (by omega)]) | (rw [fwB_f (by omega)])) k
  · refine w_aload_n dX2_hasRoomForAct_7 rfl ?_
    refine w_geti dX2_hasRoomForAct_8 fl_X2_33 rfl (by decide) ?_
    refine w_bipush dX2_hasRoomForAct_11 rfl ?_
    refine w_icmp_ge 20 dX2_hasRoomForAct_13 (by decide) (by omega) (by omega) (fun c13 => ?_) (fun c13 => ?_)
    · refine w_iconst dX2_hasRoomForAct_20 ?_
      exact w_zretE dX2_hasRoomForAct_21 rfl (by first | (exfalso; omega) | (rw [fwB_t (by omega)]) | (rw [fwB_f (by omega)])) k
    · refine w_iconst dX2_hasRoomForAct_16 ?_
      refine w_goto 21 dX2_hasRoomForAct_17 (by decide) ?_
      exact w_zretE dX2_hasRoomForAct_21 rfl (by first | (exfalso; omega) | (rw [fwB_t (by omega)]) | (rw [fwB_f (by omega)])) k
set_option maxRecDepth 100000 in
set_option maxHeartbeats 4000000 in
theorem c_X2_act {d : Nat} {h : fwH} {Q : Option fwV → fwH → Prop} (x y : Int) (ha : 0 ≤ h 3 0 3 ∧ h 3 0 3 ≤ 60) (hr : h 3 0 3 < 60) (hG : gOk h 0) (h0 : 0 ≤ x) (h1 : x < h 4 0 1) (k : Q none (fwUp (fwUp (fwUc h 17 0 (fwFu (h 17 0) x.toNat (h 17 0 x.toNat + y))) 21 0 (h 3 0 3).toNat (y * (x + 1))) 3 0 3 (h 3 0 3 + 1))) : fwCt mX2_act (d + 2) [aR 3 0, aI x, aI y] h Q := by
  refine fwCt_of [some (aR 3 0), some (aI x), some (aI y)] rfl rfl rfl ?_
  refine w_aload_n dX2_act_0 rfl ?_
  refine w_callV (d := d + 1) (S := []) [] dX2_act_1 ml_X2_60 ok_X2_hasRoomForAct vi_X2_hasRoomForAct rfl rfl (by decide) rfl (Nat.le_of_ble_eq_true rfl) ?_
  refine c_X2_hasRoom (d := (d + 1)) (by first | assumption | omega | decide) ?_
  show fwWP mX2_act (d + 2) 4 [some (aR 3 0), some (aI x), some (aI y)] [aI (fwB (h 3 0 3 < 60))] h Q
  refine w_ifB_eq 40 dX2_act_4 (by decide) (fun c4 => ?_) (fun c4 => ?_)
  · (exfalso; omega)
  · refine w_aload_n dX2_act_7 rfl ?_
    refine w_getr 4 0 dX2_act_8 fl_X2_12 rfl (by decide) ?_
    refine w_iload_n dX2_act_11 rfl ?_
    refine w_iload_n dX2_act_12 rfl ?_
    refine w_callV (d := d + 1) (S := []) [aI x, aI y] dX2_act_13 ml_X2_63 ok_X1_change vi_X1_change rfl rfl (by decide) rfl (Nat.le_of_ble_eq_true rfl) ?_
    refine c_X1_changeE (d := d) 0 x y (by decide) (by first | assumption | omega | decide) (by first | assumption | omega | decide) (show x < h 4 0 1 by first | assumption | omega | decide) ?_
    show fwWP mX2_act (d + 2) 16 [some (aR 3 0), some (aI x), some (aI y)] [] (fwUc h 17 0 (fwFu (h 17 0) (x).toNat (h 17 0 (x).toNat + y))) Q
    refine w_aload_n dX2_act_16 rfl ?_
    refine w_getr 21 0 dX2_act_17 fl_X2_25 rfl (by decide) ?_
    refine w_aload_n dX2_act_20 rfl ?_
    refine w_getiE (v := h 3 0 3) dX2_act_21 fl_X2_33 rfl (by decide) rfl ?_
    refine w_iload_n dX2_act_24 rfl ?_
    refine w_iload_n dX2_act_25 rfl ?_
    refine w_iconst dX2_act_26 ?_
    refine w_iadd dX2_act_27 ?_
    refine w_imul dX2_act_28 ?_
    refine w_iast dX2_act_29 rfl (by decide) (by omega) (by omega) ?_
    refine w_aload_n dX2_act_30 rfl ?_
    refine w_dup dX2_act_31 rfl ?_
    refine w_getiE (v := h 3 0 3) dX2_act_32 fl_X2_33 rfl (by decide) rfl ?_
    refine w_iconst dX2_act_35 ?_
    refine w_iadd dX2_act_36 ?_
    refine w_puti dX2_act_37 fl_X2_33 fp_3_3 rfl (by decide) ?_
    exact w_vret dX2_act_40 rfl (k)
def mBackC (a : Int) : Int := if a < 0 then -a - 1 else a - 1
def mBackD (a : Int) : Int := if a < 0 then 1 else -1
def mBack (h : fwH) : fwH := fwUc (fwUp h 3 0 3 (h 3 0 3 - 1)) 17 0 (fwFu (h 17 0) (mBackC (h 21 0 (h 3 0 3 - 1).toNat)).toNat (h 17 0 (mBackC (h 21 0 (h 3 0 3 - 1).toNat)).toNat + mBackD (h 21 0 (h 3 0 3 - 1).toNat)))
set_option maxRecDepth 100000 in
set_option maxHeartbeats 4000000 in
theorem c_X2_takeBack {d : Nat} {h : fwH} {Q : Option fwV → fwH → Prop}  (ha : 0 ≤ h 3 0 3 ∧ h 3 0 3 ≤ 60) (hG : gOk h 0) (hv : 0 < h 3 0 3 → ((-20 ≤ h 21 0 (h 3 0 3 - 1).toNat ∧ h 21 0 (h 3 0 3 - 1).toNat ≤ 20) ∧ (h 21 0 (h 3 0 3 - 1).toNat < 0 → 0 ≤ -(h 21 0 (h 3 0 3 - 1).toNat) - 1 ∧ -(h 21 0 (h 3 0 3 - 1).toNat) - 1 < h 4 0 1) ∧ (0 ≤ h 21 0 (h 3 0 3 - 1).toNat → 0 ≤ h 21 0 (h 3 0 3 - 1).toNat - 1 ∧ h 21 0 (h 3 0 3 - 1).toNat - 1 < h 4 0 1))) (k : Q (some (aI (fwB (0 < h 3 0 3)))) (if 0 < h 3 0 3 then mBack h else h)) : fwCt mX2_takeBack (d + 2) [aR 3 0] h Q := by
  refine fwCt_of [some (aR 3 0), none] rfl rfl rfl ?_
  have hgn := hG.1
  refine w_aload_n dX2_takeBack_0 rfl ?_
  refine w_getiE (v := h 3 0 3) dX2_takeBack_1 fl_X2_33 rfl (by decide) rfl ?_
  refine w_iconst dX2_takeBack_4 ?_
  refine w_icmp_lt 17 dX2_takeBack_5 (by decide) (by omega) (by omega) (fun c5 => ?_) (fun c5 => ?_)
  · refine w_iconst dX2_takeBack_17 ?_
    exact w_zretE (P := 0 < h 3 0 3) dX2_takeBack_18 rfl (by rw [fwB_f (by omega)]) (by rw [if_neg (by omega)] at k; exact k)
  · refine w_aload_n dX2_takeBack_8 rfl ?_
    refine w_getiE (v := h 3 0 3) dX2_takeBack_9 fl_X2_33 rfl (by decide) rfl ?_
    refine w_bipush dX2_takeBack_12 rfl ?_
    refine w_icmp_le 19 dX2_takeBack_14 (by decide) (by omega) (by omega) (fun c14 => ?_) (fun c14 => ?_)
    · refine w_aload_n dX2_takeBack_19 rfl ?_
      refine w_dup dX2_takeBack_20 rfl ?_
      refine w_getiE (v := h 3 0 3) dX2_takeBack_21 fl_X2_33 rfl (by decide) rfl ?_
      refine w_iconst dX2_takeBack_24 ?_
      refine w_isub dX2_takeBack_25 ?_
      refine w_puti dX2_takeBack_26 fl_X2_33 fp_3_3 rfl (by decide) ?_
      refine w_aload_n dX2_takeBack_29 rfl ?_
      refine w_getr 21 0 dX2_takeBack_30 fl_X2_25 rfl (by decide) ?_
      refine w_aload_n dX2_takeBack_33 rfl ?_
      refine w_getiE (v := h 3 0 3 - 1) dX2_takeBack_34 fl_X2_33 rfl (by decide) rfl ?_
      refine w_ialdE (v := h 21 0 (h 3 0 3 - 1).toNat) dX2_takeBack_37 rfl (by decide) (by omega) (by omega) rfl ?_
      refine w_istore_n [some (aR 3 0), some (aI (h 21 0 (h 3 0 3 - 1).toNat))] dX2_takeBack_38 rfl (by decide) ?_
      refine w_iload_n dX2_takeBack_39 rfl ?_
      refine w_if_ge 58 dX2_takeBack_40 (by decide) (by omega) (fun c40 => ?_) (fun c40 => ?_)
      · refine w_aload_n dX2_takeBack_58 rfl ?_
        refine w_getr 4 0 dX2_takeBack_59 fl_X2_12 rfl (by decide) ?_
        refine w_iload_n dX2_takeBack_62 rfl ?_
        refine w_iconst dX2_takeBack_63 ?_
        refine w_isub dX2_takeBack_64 ?_
        refine w_iconst dX2_takeBack_65 ?_
        refine w_callV (d := d + 1) (S := []) [aI ((h 21 0 (h 3 0 3 - 1).toNat) - 1), aI (-1)] dX2_takeBack_66 ml_X2_63 ok_X1_change vi_X1_change rfl rfl (by decide) rfl (Nat.le_of_ble_eq_true rfl) ?_
        refine c_X1_changeE (d := d) 0 ((h 21 0 (h 3 0 3 - 1).toNat) - 1) (-1) (by decide) (by first | assumption | omega | decide) (by first | assumption | omega | decide) (show (h 21 0 (h 3 0 3 - 1).toNat) - 1 < h 4 0 1 by first | assumption | omega | decide) ?_
        show fwWP mX2_takeBack (d + 2) 69 [some (aR 3 0), some (aI (h 21 0 (h 3 0 3 - 1).toNat))] [] (fwUc (fwUp h 3 0 3 ((h 3 0 3) - 1)) 17 0 (fwFu (h 17 0) ((h 21 0 (h 3 0 3 - 1).toNat) - 1).toNat (h 17 0 ((h 21 0 (h 3 0 3 - 1).toNat) - 1).toNat + (-1)))) Q
        refine w_iconst dX2_takeBack_69 ?_
        exact w_zretE (P := 0 < h 3 0 3) dX2_takeBack_70 rfl (by rw [fwB_t (by omega)]) (by rw [if_pos (by omega), mBack, mBackC, mBackD] at k; first | (rw [if_pos (by omega), if_pos (by omega)] at k; exact k) | (rw [if_neg (by omega), if_neg (by omega)] at k; exact k))
      · refine w_aload_n dX2_takeBack_43 rfl ?_
        refine w_getr 4 0 dX2_takeBack_44 fl_X2_12 rfl (by decide) ?_
        refine w_iload_n dX2_takeBack_47 rfl ?_
        refine w_ineg dX2_takeBack_48 ?_
        refine w_iconst dX2_takeBack_49 ?_
        refine w_isub dX2_takeBack_50 ?_
        refine w_iconst dX2_takeBack_51 ?_
        refine w_callV (d := d + 1) (S := []) [aI ((-(h 21 0 (h 3 0 3 - 1).toNat)) - 1), aI 1] dX2_takeBack_52 ml_X2_63 ok_X1_change vi_X1_change rfl rfl (by decide) rfl (Nat.le_of_ble_eq_true rfl) ?_
        refine c_X1_changeE (d := d) 0 ((-(h 21 0 (h 3 0 3 - 1).toNat)) - 1) 1 (by decide) (by first | assumption | omega | decide) (by first | assumption | omega | decide) (show (-(h 21 0 (h 3 0 3 - 1).toNat)) - 1 < h 4 0 1 by first | assumption | omega | decide) ?_
        show fwWP mX2_takeBack (d + 2) 55 [some (aR 3 0), some (aI (h 21 0 (h 3 0 3 - 1).toNat))] [] (fwUc (fwUp h 3 0 3 ((h 3 0 3) - 1)) 17 0 (fwFu (h 17 0) ((-(h 21 0 (h 3 0 3 - 1).toNat)) - 1).toNat (h 17 0 ((-(h 21 0 (h 3 0 3 - 1).toNat)) - 1).toNat + 1))) Q
        refine w_goto 69 dX2_takeBack_55 (by decide) ?_
        refine w_iconst dX2_takeBack_69 ?_
        exact w_zretE (P := 0 < h 3 0 3) dX2_takeBack_70 rfl (by rw [fwB_t (by omega)]) (by rw [if_pos (by omega), mBack, mBackC, mBackD] at k; first | (rw [if_pos (by omega), if_pos (by omega)] at k; exact k) | (rw [if_neg (by omega), if_neg (by omega)] at k; exact k))
    · (exfalso; omega)
theorem mNames_rng {F : Nat → Int} (x : Int) : ∀ n : Nat, n ≤ 8 → (∀ f : Nat, f < 8 → 0 ≤ F (7 * f + 1) ∧ F (7 * f + 1) ≤ 99) → 0 ≤ mNames F x n ∧ mNames F x n ≤ 99 * n := by
  intro n
  induction n with
  | zero => intro _ _; simp [mNames]
  | succ n ih =>
    intro hn hF
    have h1 := ih (by omega) hF
    have h2 := hF n (by omega)
    rw [mNames]
    split <;> omega
theorem mNames_r2 {h : fwH} (hP : pOk h 0) (x : Int) : 0 ≤ mNames (h 18 0) x (h 5 0 3).toNat ∧ mNames (h 18 0) x (h 5 0 3).toNat ≤ 792 := by
  have := mNames_rng (F := h 18 0) x (h 5 0 3).toNat (by have := hP.1; omega) (fun f hf => (hP.2 f hf).2.1)
  have h2 := hP.1
  omega
abbrev mEno (F : Nat → Int) (n : Nat) (lw su ba : Int) : Prop := lw ≤ mNames F (mSign F n su ba) n
set_option maxRecDepth 100000 in
set_option maxHeartbeats 4000000 in
theorem c_X2_isEnough {d : Nat} {h : fwH} {Q : Option fwV → fwH → Prop} (x y : Int) (hP : pOk h 0) (hlw : 0 ≤ h 3 0 4 ∧ h 3 0 4 ≤ 999) (k : Q (some (aI (fwB (mEno (h 18 0) (h 5 0 3).toNat (h 3 0 4) x y)))) h) : fwCt mX2_isEnough (d + 2) [aR 3 0, aI x, aI y] h Q := by
  refine fwCt_of [some (aR 3 0), some (aI x), some (aI y)] rfl rfl rfl ?_
  refine w_aload_n dX2_isEnough_0 rfl ?_
  refine w_getr 5 0 dX2_isEnough_1 fl_X2_21 rfl (by decide) ?_
  refine w_aload_n dX2_isEnough_4 rfl ?_
  refine w_getr 5 0 dX2_isEnough_5 fl_X2_21 rfl (by decide) ?_
  refine w_iload_n dX2_isEnough_8 rfl ?_
  refine w_iload_n dX2_isEnough_9 rfl ?_
  refine w_callV (d := d + 1) (S := [aR 5 0]) [aI x, aI y] dX2_isEnough_10 ml_X2_67 ok_X3_signersOf vi_X3_signersOf rfl rfl (by decide) rfl (Nat.le_of_ble_eq_true rfl) ?_
  refine c_X3_signersOf (d := d) 0 x y (by decide) (by first | assumption | omega | decide) ?_
  show fwWP mX2_isEnough (d + 2) 13 [some (aR 3 0), some (aI x), some (aI y)] [aI (mSign (h 18 0) (h 5 0 3).toNat x y), aR 5 0] h Q
  refine w_callV (d := d + 1) (S := []) [aI (mSign (h 18 0) (h 5 0 3).toNat x y)] dX2_isEnough_13 ml_X2_71 ok_X3_namesOf vi_X3_namesOf rfl rfl (by decide) rfl (Nat.le_of_ble_eq_true rfl) ?_
  refine c_X3_namesOf (d := d) 0 (mSign (h 18 0) (h 5 0 3).toNat x y) (by decide) (by first | assumption | omega | decide) ?_
  show fwWP mX2_isEnough (d + 2) 16 [some (aR 3 0), some (aI x), some (aI y)] [aI (mNames (h 18 0) (mSign (h 18 0) (h 5 0 3).toNat x y) (h 5 0 3).toNat)] h Q
  have hnr := mNames_r2 hP (mSign (h 18 0) (h 5 0 3).toNat x y)
  refine w_aload_n dX2_isEnough_16 rfl ?_
  refine w_geti dX2_isEnough_17 fl_X2_37 rfl (by decide) ?_
  refine w_icmp_lt 27 dX2_isEnough_20 (by decide) (by omega) (by omega) (fun c20 => ?_) (fun c20 => ?_)
  · refine w_iconst dX2_isEnough_27 ?_
    exact w_zretE dX2_isEnough_28 rfl (by first | (exfalso; omega) | (rw [fwB_t (by omega)]) | (rw [fwB_f (by omega)])) k
  · refine w_iconst dX2_isEnough_23 ?_
    refine w_goto 28 dX2_isEnough_24 (by decide) ?_
    exact w_zretE dX2_isEnough_28 rfl (by first | (exfalso; omega) | (rw [fwB_t (by omega)]) | (rw [fwB_f (by omega)])) k

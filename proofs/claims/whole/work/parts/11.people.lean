/-! FootLower$People -/
def pOk (h : fwH) (p : Nat) : Prop := (0 ≤ h 5 p 3 ∧ h 5 p 3 ≤ 8) ∧ ∀ f : Nat, f < 8 → (0 ≤ h 18 p (7 * f) ∧ h 18 p (7 * f) < 10) ∧ (0 ≤ h 18 p (7 * f + 1) ∧ h 18 p (7 * f + 1) ≤ 99) ∧ (0 ≤ h 18 p (7 * f + 2) ∧ h 18 p (7 * f + 2) ≤ 9) ∧ (0 ≤ h 18 p (7 * f + 3) ∧ h 18 p (7 * f + 3) ≤ 9) ∧ (0 ≤ h 18 p (7 * f + 4) ∧ h 18 p (7 * f + 4) ≤ 9) ∧ (0 ≤ h 18 p (7 * f + 5) ∧ h 18 p (7 * f + 5) ≤ 7) ∧ (0 ≤ h 18 p (7 * f + 6) ∧ h 18 p (7 * f + 6) ≤ 255)
set_option maxRecDepth 100000 in
set_option maxHeartbeats 4000000 in
theorem c_X3_has {d : Nat} {h : fwH} {Q : Option fwV → fwH → Prop} (p : Nat) (x : Int) (hp : p < 5) (hP : pOk h p) (hx : -2147483648 ≤ x ∧ x < 2147483648) (k : Q (some (aI (fwB (0 ≤ x ∧ x < h 5 p 3)))) h) : fwCt mX3_has (d + 0) [aR 5 p, aI x] h Q := by
  refine fwCt_of [some (aR 5 p), some (aI x)] rfl rfl rfl ?_
  obtain ⟨⟨p1, p2⟩, p3⟩ := id hP
  refine w_iload_n dX3_has_0 rfl ?_
  refine w_if_lt 22 dX3_has_1 (by decide) (by omega) (fun c1 => ?_) (fun c1 => ?_)
  · refine w_iconst dX3_has_22 ?_
    exact w_zretE dX3_has_23 rfl (by first | (exfalso; omega) | (rw [fwB_t (by omega)]) | (rw [fwB_f (by omega)])) k
  · refine w_iload_n dX3_has_4 rfl ?_
    refine w_aload_n dX3_has_5 rfl ?_
    refine w_geti dX3_has_6 fl_X3_21 rfl hp ?_
    refine w_icmp_ge 22 dX3_has_9 (by decide) (by omega) (by omega) (fun c9 => ?_) (fun c9 => ?_)
    · refine w_iconst dX3_has_22 ?_
      exact w_zretE dX3_has_23 rfl (by first | (exfalso; omega) | (rw [fwB_t (by omega)]) | (rw [fwB_f (by omega)])) k
    · refine w_iload_n dX3_has_12 rfl ?_
      refine w_bipush dX3_has_13 rfl ?_
      refine w_icmp_ge 22 dX3_has_15 (by decide) (by omega) (by omega) (fun c15 => ?_) (fun c15 => ?_)
      · refine w_iconst dX3_has_22 ?_
        exact w_zretE dX3_has_23 rfl (by first | (exfalso; omega) | (rw [fwB_t (by omega)]) | (rw [fwB_f (by omega)])) k
      · refine w_iconst dX3_has_18 ?_
        refine w_goto 23 dX3_has_19 (by decide) ?_
        exact w_zretE dX3_has_23 rfl (by first | (exfalso; omega) | (rw [fwB_t (by omega)]) | (rw [fwB_f (by omega)])) k
set_option maxRecDepth 100000 in
set_option maxHeartbeats 4000000 in
theorem c_X3_fact {d : Nat} {h : fwH} {Q : Option fwV → fwH → Prop} (p f w : Nat) (hp : p < 5) (hf : f < 8) (hw : w < 7) (k : Q (some (aI (h 18 p (7 * f + w)))) h) : fwCt mX3_fact (d + 0) [aR 5 p, aI (f : Int), aI (w : Int)] h Q := by
  refine fwCt_of [some (aR 5 p), some (aI (f : Int)), some (aI (w : Int)), none] rfl rfl rfl ?_
  refine w_iload_n dX3_fact_0 rfl ?_
  refine w_if_lt 24 dX3_fact_1 (by decide) (by omega) (fun c1 => ?_) (fun c1 => ?_)
  · (exfalso; omega)
  · refine w_iload_n dX3_fact_4 rfl ?_
    refine w_bipush dX3_fact_5 rfl ?_
    refine w_icmp_ge 24 dX3_fact_7 (by decide) (by omega) (by omega) (fun c7 => ?_) (fun c7 => ?_)
    · (exfalso; omega)
    · refine w_iload_n dX3_fact_10 rfl ?_
      refine w_if_lt 24 dX3_fact_11 (by decide) (by omega) (fun c11 => ?_) (fun c11 => ?_)
      · (exfalso; omega)
      · refine w_iload_n dX3_fact_14 rfl ?_
        refine w_bipush dX3_fact_15 rfl ?_
        refine w_icmp_ge 24 dX3_fact_17 (by decide) (by omega) (by omega) (fun c17 => ?_) (fun c17 => ?_)
        · (exfalso; omega)
        · refine w_iconst dX3_fact_20 ?_
          refine w_goto 25 dX3_fact_21 (by decide) ?_
          refine w_istore_n [some (aR 5 p), some (aI (f : Int)), some (aI (w : Int)), some (aI 1)] dX3_fact_25 rfl (by decide) ?_
          refine w_iload_n dX3_fact_26 rfl ?_
          refine w_if_eq 44 dX3_fact_27 (by decide) (by omega) (fun c27 => ?_) (fun c27 => ?_)
          · (exfalso; omega)
          · refine w_aload_n dX3_fact_30 rfl ?_
            refine w_getr 18 p dX3_fact_31 fl_X3_9 rfl hp ?_
            refine w_iload_n dX3_fact_34 rfl ?_
            refine w_bipush dX3_fact_35 rfl ?_
            refine w_imul dX3_fact_37 ?_
            refine w_iload_n dX3_fact_38 rfl ?_
            refine w_iadd dX3_fact_39 ?_
            refine w_ialdE (v := h 18 p (7 * f + w)) dX3_fact_40 rfl hp (by omega) (by omega) (by rw [show ((f : Int) * 7 + (w : Int)).toNat = 7 * f + w by omega]) ?_
            refine w_goto 45 dX3_fact_41 (by decide) ?_
            exact w_iretE dX3_fact_45 rfl (by rfl) k
set_option maxRecDepth 100000 in
set_option maxHeartbeats 4000000 in
theorem c_X3_setFact {d : Nat} {h : fwH} {Q : Option fwV → fwH → Prop} (p f w : Nat) (x : Int) (hp : p < 5) (hf : f < 8) (hw : w < 7) (k : Q none (fwUp h 18 p (7 * f + w) x)) : fwCt mX3_setFact (d + 0) [aR 5 p, aI (f : Int), aI (w : Int), aI x] h Q := by
  refine fwCt_of [some (aR 5 p), some (aI (f : Int)), some (aI (w : Int)), some (aI x)] rfl rfl rfl ?_
  refine w_iload_n dX3_setFact_0 rfl ?_
  refine w_if_lt 32 dX3_setFact_1 (by decide) (by omega) (fun c1 => ?_) (fun c1 => ?_)
  · (exfalso; omega)
  · refine w_iload_n dX3_setFact_4 rfl ?_
    refine w_bipush dX3_setFact_5 rfl ?_
    refine w_icmp_ge 32 dX3_setFact_7 (by decide) (by omega) (by omega) (fun c7 => ?_) (fun c7 => ?_)
    · (exfalso; omega)
    · refine w_iload_n dX3_setFact_10 rfl ?_
      refine w_if_lt 32 dX3_setFact_11 (by decide) (by omega) (fun c11 => ?_) (fun c11 => ?_)
      · (exfalso; omega)
      · refine w_iload_n dX3_setFact_14 rfl ?_
        refine w_bipush dX3_setFact_15 rfl ?_
        refine w_icmp_ge 32 dX3_setFact_17 (by decide) (by omega) (by omega) (fun c17 => ?_) (fun c17 => ?_)
        · (exfalso; omega)
        · refine w_aload_n dX3_setFact_20 rfl ?_
          refine w_getr 18 p dX3_setFact_21 fl_X3_9 rfl hp ?_
          refine w_iload_n dX3_setFact_24 rfl ?_
          refine w_bipush dX3_setFact_25 rfl ?_
          refine w_imul dX3_setFact_27 ?_
          refine w_iload_n dX3_setFact_28 rfl ?_
          refine w_iadd dX3_setFact_29 ?_
          refine w_iload_n dX3_setFact_30 rfl ?_
          refine w_iast dX3_setFact_31 rfl hp (by omega) (by omega) ?_
          rw [show ((f : Int) * 7 + (w : Int)).toNat = 7 * f + w by omega]
          exact w_vret dX3_setFact_32 rfl k
set_option maxRecDepth 100000 in
set_option maxHeartbeats 4000000 in
theorem c_X3_befriend {d : Nat} {h : fwH} {Q : Option fwV → fwH → Prop} (p f g : Nat) (hp : p < 5) (hf : f < 8) (hg : g < 8) (k : Q none (fwUp (fwUp h 18 p (7 * f + 6) (fwOr (h 18 p (7 * f + 6)) (fwShl 1 (g : Int)))) 18 p (7 * g + 6) (fwOr ((fwUp h 18 p (7 * f + 6) (fwOr (h 18 p (7 * f + 6)) (fwShl 1 (g : Int)))) 18 p (7 * g + 6)) (fwShl 1 (f : Int))))) : fwCt mX3_befriend (d + 1) [aR 5 p, aI (f : Int), aI (g : Int)] h Q := by
  refine fwCt_of [some (aR 5 p), some (aI (f : Int)), some (aI (g : Int))] rfl rfl rfl ?_
  refine w_aload_n dX3_befriend_0 rfl ?_
  refine w_iload_n dX3_befriend_1 rfl ?_
  refine w_bipush dX3_befriend_2 rfl ?_
  refine w_aload_n dX3_befriend_4 rfl ?_
  refine w_iload_n dX3_befriend_5 rfl ?_
  refine w_bipush dX3_befriend_6 rfl ?_
  refine w_callV (d := d + 0) (S := [aI 6, aI (f : Int), aR 5 p]) [aI (f : Int), aI 6] dX3_befriend_8 ml_X3_25 ok_X3_fact vi_X3_fact rfl rfl hp rfl (Nat.le_of_ble_eq_true rfl) ?_
  refine c_X3_fact (d := d) p f 6 hp (by first | assumption | omega | decide) (by first | assumption | omega | decide) ?_
  show fwWP mX3_befriend (d + 1) 11 [some (aR 5 p), some (aI (f : Int)), some (aI (g : Int))] [aI (h 18 p (7 * f + 6)), aI 6, aI (f : Int), aR 5 p] h Q
  refine w_iconst dX3_befriend_11 ?_
  refine w_iload_n dX3_befriend_12 rfl ?_
  refine w_ishl dX3_befriend_13 ?_
  refine w_ior dX3_befriend_14 ?_
  refine w_callV (d := d + 0) (S := []) [aI (f : Int), aI 6, aI (fwOr (h 18 p (7 * f + 6)) (fwShl 1 (g : Int)))] dX3_befriend_15 ml_X3_29 ok_X3_setFact vi_X3_setFact rfl rfl hp rfl (Nat.le_of_ble_eq_true rfl) ?_
  refine c_X3_setFact (d := d) p f 6 (fwOr (h 18 p (7 * f + 6)) (fwShl 1 (g : Int))) hp (by first | assumption | omega | decide) (by first | assumption | omega | decide) ?_
  show fwWP mX3_befriend (d + 1) 18 [some (aR 5 p), some (aI (f : Int)), some (aI (g : Int))] [] (fwUp h 18 p (7 * f + 6) (fwOr (h 18 p (7 * f + 6)) (fwShl 1 (g : Int)))) Q
  refine w_aload_n dX3_befriend_18 rfl ?_
  refine w_iload_n dX3_befriend_19 rfl ?_
  refine w_bipush dX3_befriend_20 rfl ?_
  refine w_aload_n dX3_befriend_22 rfl ?_
  refine w_iload_n dX3_befriend_23 rfl ?_
  refine w_bipush dX3_befriend_24 rfl ?_
  refine w_callV (d := d + 0) (S := [aI 6, aI (g : Int), aR 5 p]) [aI (g : Int), aI 6] dX3_befriend_26 ml_X3_25 ok_X3_fact vi_X3_fact rfl rfl hp rfl (Nat.le_of_ble_eq_true rfl) ?_
  refine c_X3_fact (d := d) p g 6 hp (by first | assumption | omega | decide) (by first | assumption | omega | decide) ?_
  show fwWP mX3_befriend (d + 1) 29 [some (aR 5 p), some (aI (f : Int)), some (aI (g : Int))] [aI ((fwUp h 18 p (7 * f + 6) (fwOr (h 18 p (7 * f + 6)) (fwShl 1 (g : Int)))) 18 p (7 * g + 6)), aI 6, aI (g : Int), aR 5 p] (fwUp h 18 p (7 * f + 6) (fwOr (h 18 p (7 * f + 6)) (fwShl 1 (g : Int)))) Q
  refine w_iconst dX3_befriend_29 ?_
  refine w_iload_n dX3_befriend_30 rfl ?_
  refine w_ishl dX3_befriend_31 ?_
  refine w_ior dX3_befriend_32 ?_
  refine w_callV (d := d + 0) (S := []) [aI (g : Int), aI 6, aI (fwOr ((fwUp h 18 p (7 * f + 6) (fwOr (h 18 p (7 * f + 6)) (fwShl 1 (g : Int)))) 18 p (7 * g + 6)) (fwShl 1 (f : Int)))] dX3_befriend_33 ml_X3_29 ok_X3_setFact vi_X3_setFact rfl rfl hp rfl (Nat.le_of_ble_eq_true rfl) ?_
  refine c_X3_setFact (d := d) p g 6 (fwOr ((fwUp h 18 p (7 * f + 6) (fwOr (h 18 p (7 * f + 6)) (fwShl 1 (g : Int)))) 18 p (7 * g + 6)) (fwShl 1 (f : Int))) hp (by first | assumption | omega | decide) (by first | assumption | omega | decide) ?_
  show fwWP mX3_befriend (d + 1) 36 [some (aR 5 p), some (aI (f : Int)), some (aI (g : Int))] [] (fwUp (fwUp h 18 p (7 * f + 6) (fwOr (h 18 p (7 * f + 6)) (fwShl 1 (g : Int)))) 18 p (7 * g + 6) (fwOr ((fwUp h 18 p (7 * f + 6) (fwOr (h 18 p (7 * f + 6)) (fwShl 1 (g : Int)))) 18 p (7 * g + 6)) (fwShl 1 (f : Int)))) Q
  exact w_vret dX3_befriend_36 rfl (k)
theorem fwFl_all {g f : Nat → Int} {n : Nat} {h : fwH} {k i : Nat} (hl : fwLim k ≤ n) : fwE (fwUc h k i (fwFl g f n)) (fwUc h k i g) := fwE_uc (fun s hs _ => fwFl_lt (by omega))
set_option maxRecDepth 100000 in
set_option maxHeartbeats 4000000 in
theorem c_X3_clear {d : Nat} {h : fwH} {Q : Option fwV → fwH → Prop} (p : Nat) (hp : p < 5) (k : Q none (fwUc (fwUp h 5 p 3 0) 18 p (fun _ => 0))) : fwCt mX3_clear (d + 0) [aR 5 p] h Q := by
  refine fwCt_of [some (aR 5 p), none] rfl rfl rfl ?_
  refine w_aload_n dX3_clear_0 rfl ?_
  refine w_iconst dX3_clear_1 ?_
  refine w_puti dX3_clear_2 fl_X3_21 fp_5_3 rfl hp ?_
  refine w_iconst dX3_clear_5 ?_
  refine w_istore_n [some (aR 5 p), some (aI 0)] dX3_clear_6 rfl (by decide) ?_
  have lp7 : ∀ c : Nat, c ≤ 56 → ∀ (y7  : Int) (hh7 : fwH), y7 = (c : Int) → hh7 = (fwUc (fwUp h 5 p 3 0) 18 p (fwFl (fun _ => 0) (h 18 p) c)) → fwWP mX3_clear (d + 0) 7 [some (aR 5 p), some (aI y7)] [] hh7 Q := by
    refine fw_up (fun c hc7 ih7 => ?_)
    intro y7  hh7 ey7 eh7
    subst ey7
    subst eh7
    show fwWP mX3_clear (d + 0) 7 [some (aR 5 p), some (aI (c : Int))] [] (fwUc (fwUp h 5 p 3 0) 18 p (fwFl (fun _ => 0) (h 18 p) c)) Q
    refine w_iload_n dX3_clear_7 rfl ?_
    refine w_aload_n dX3_clear_8 rfl ?_
    refine w_getr 18 p dX3_clear_9 fl_X3_9 rfl hp ?_
    refine w_alen dX3_clear_12 rfl (by decide) hp ?_
    refine w_icmp_ge 29 dX3_clear_13 (by decide) (by omega) (by omega) (fun c13 => ?_) (fun c13 => ?_)
    · have ec7 : c = 56 := by omega
      subst ec7
      refine w_heq _ (fwFl_all (by decide)) ?_
      exact w_vret dX3_clear_29 rfl k
    · refine w_aload_n dX3_clear_16 rfl ?_
      refine w_getr 18 p dX3_clear_17 fl_X3_9 rfl hp ?_
      refine w_iload_n dX3_clear_20 rfl ?_
      refine w_iconst dX3_clear_21 ?_
      refine w_iast dX3_clear_22 rfl hp (by omega) (by omega) ?_
      refine w_iinc [some (aR 5 p), some (aI ((c : Int) + 1))] dX3_clear_23 rfl rfl (by decide) ?_
      refine w_goto 7 dX3_clear_26 (by decide) ?_
      refine ih7 (by omega) _ _ ?_ ?_
      · exact (by omega)
      · exact (by rw [fwUp_uc, Int.toNat_natCast]; exact congrArg _ (fwFl_succ (fun _ => 0) (h 18 p) c))
  refine lp7 0 (Nat.zero_le _) _ _ ?_ ?_
  · exact (by omega)
  · exact (by rw [fwFl_0]; exact (fwUc_self _ 18 p).symm)
set_option maxRecDepth 100000 in
set_option maxHeartbeats 4000000 in
theorem c_X3_copyFrom {d : Nat} {h : fwH} {Q : Option fwV → fwH → Prop} (p q : Nat) (hp : p < 5) (hq : q < 5) (hpq : p ≠ q) (k : Q none (fwUp (fwUc h 18 p (h 18 q)) 5 p 3 (h 5 q 3))) : fwCt mX3_copyFrom (d + 0) [aR 5 p, aR 5 q] h Q := by
  refine fwCt_of [some (aR 5 p), some (aR 5 q), none] rfl rfl rfl ?_
  refine w_iconst dX3_copyFrom_0 ?_
  refine w_istore_n [some (aR 5 p), some (aR 5 q), some (aI 0)] dX3_copyFrom_1 rfl (by decide) ?_
  have lp2 : ∀ c : Nat, c ≤ 56 → ∀ (y2  : Int) (hh2 : fwH), y2 = (c : Int) → hh2 = (fwUc h 18 p (fwFl (h 18 q) (h 18 p) c)) → fwWP mX3_copyFrom (d + 0) 2 [some (aR 5 p), some (aR 5 q), some (aI y2)] [] hh2 Q := by
    refine fw_up (fun c hc2 ih2 => ?_)
    intro y2  hh2 ey2 eh2
    subst ey2
    subst eh2
    show fwWP mX3_copyFrom (d + 0) 2 [some (aR 5 p), some (aR 5 q), some (aI (c : Int))] [] (fwUc h 18 p (fwFl (h 18 q) (h 18 p) c)) Q
    refine w_iload_n dX3_copyFrom_2 rfl ?_
    refine w_aload_n dX3_copyFrom_3 rfl ?_
    refine w_getr 18 p dX3_copyFrom_4 fl_X3_9 rfl hp ?_
    refine w_alen dX3_copyFrom_7 rfl (by decide) hp ?_
    refine w_icmp_ge 29 dX3_copyFrom_8 (by decide) (by omega) (by omega) (fun c8 => ?_) (fun c8 => ?_)
    · have ec2 : c = 56 := by omega
      subst ec2
      refine w_heq _ (fwFl_all (by decide)) ?_
      refine w_aload_n dX3_copyFrom_29 rfl ?_
      refine w_aload_n dX3_copyFrom_30 rfl ?_
      refine w_getiE (v := h 5 q 3) dX3_copyFrom_31 fl_X3_21 rfl hq (by rfl) ?_
      refine w_puti dX3_copyFrom_34 fl_X3_21 fp_5_3 rfl hp ?_
      exact w_vret dX3_copyFrom_37 rfl k
    · refine w_aload_n dX3_copyFrom_11 rfl ?_
      refine w_getr 18 p dX3_copyFrom_12 fl_X3_9 rfl hp ?_
      refine w_iload_n dX3_copyFrom_15 rfl ?_
      refine w_aload_n dX3_copyFrom_16 rfl ?_
      refine w_getr 18 q dX3_copyFrom_17 fl_X3_9 rfl hq ?_
      refine w_iload_n dX3_copyFrom_20 rfl ?_
      refine w_ialdE (v := h 18 q c) dX3_copyFrom_21 rfl hq (by omega) (by omega) (by rw [fwUc_ne (fun z => hpq z.2.symm)]; rfl) ?_
      refine w_iast dX3_copyFrom_22 rfl hp (by omega) (by omega) ?_
      refine w_iinc [some (aR 5 p), some (aR 5 q), some (aI ((c : Int) + 1))] dX3_copyFrom_23 rfl rfl (by decide) ?_
      refine w_goto 2 dX3_copyFrom_26 (by decide) ?_
      refine ih2 (by omega) _ _ ?_ ?_
      · exact (by omega)
      · exact (by rw [fwUp_uc, Int.toNat_natCast, fwFl_succ])
  refine lp2 0 (Nat.zero_le _) _ _ ?_ ?_
  · exact (by omega)
  · exact (by rw [fwFl_0, fwUc_self])

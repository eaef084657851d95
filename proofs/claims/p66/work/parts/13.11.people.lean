/-! FootLower$People -/
def pOk (h : fwH) (p : Nat) : Prop := (0 ≤ h 5 p 3 ∧ h 5 p 3 ≤ 8) ∧ ∀ f : Nat, f < 8 → (0 ≤ h 18 p (7 * f) ∧ h 18 p (7 * f) < 10) ∧ (0 ≤ h 18 p (7 * f + 1) ∧ h 18 p (7 * f + 1) ≤ 99) ∧ (0 ≤ h 18 p (7 * f + 2) ∧ h 18 p (7 * f + 2) ≤ 9) ∧ (0 ≤ h 18 p (7 * f + 3) ∧ h 18 p (7 * f + 3) ≤ 9) ∧ (0 ≤ h 18 p (7 * f + 4) ∧ h 18 p (7 * f + 4) ≤ 9) ∧ (0 ≤ h 18 p (7 * f + 5) ∧ h 18 p (7 * f + 5) ≤ 7) ∧ (0 ≤ h 18 p (7 * f + 6) ∧ h 18 p (7 * f + 6) ≤ 255)
set_option maxRecDepth 100000 in
set_option maxHeartbeats 4000000 in
theorem c_X3_has {d : Nat} {h : fwH} {Q : Option fwV → fwH → Prop} (p : Nat) (x : Int) (hp : p < 5) (hP : pOk h p) (hx : -2147483648 ≤ x ∧ x < 2147483648) (k : Q (some (aI (fwB (0 ≤ x ∧ x < h 5 p 3)))) h) : fwCt mX3_has (d + 0) [aR 5 p, aI x] h Q := by
  refine fwCt_of [some (aR 5 p), some (aI x)] rfl rfl rfl ?_
  obtain ⟨⟨p1, p2⟩, p3⟩ := id hP
  refine w_iload_n dX3_has_0 rfl ?_
  refine w_if_lt 22 dX3_has_1 (by decide) (by omega) (fun c1 => ?_) (fun c1 => ?_)
  · refine w_iconst dX3_has_22 ?_
    exact w_zretE dX3_has_23 rfl (by first | (exfalso; omega) | (rw [fwB_t (by omega)]) | (rw [fwB_f (by omega)])) k
  · refine w_iload_n dX3_has_4 rfl ?_
    refine w_aload_n dX3_has_5 rfl ?_
    refine w_geti dX3_has_6 fl_X3_21 rfl hp ?_
    refine w_icmp_ge 22 dX3_has_9 (by decide) (by omega) (by omega) (fun c9 => ?_) (fun c9 => ?_)
    · refine w_iconst dX3_has_22 ?_
      exact w_zretE dX3_has_23 rfl (by first | (exfalso; omega) | (rw [fwB_t (by omega)]) | (rw [fwB_f (by omega)])) k
    · refine w_iload_n dX3_has_12 rfl ?_
      refine w_bipush dX3_has_13 rfl ?_
      refine w_icmp_ge 22 dX3_has_15 (by decide) (by omega) (by omega) (fun c15 => ?_) (fun c15 => ?_)
      · refine w_iconst dX3_has_22 ?_
        exact w_zretE dX3_has_23 rfl (by first | (exfalso; omega) | (rw [fwB_t (by omega)]) | (rw [fwB_f (by omega)])) k
      · refine w_iconst dX3_has_18 ?_
        refine w_goto 23 dX3_has_19 (by decide) ?_
        exact w_zretE dX3_has_23 rfl (by first | (exfalso; omega) | (rw [fwB_t (by omega)]) | (rw [fwB_f (by omega)])) k
set_option maxRecDepth 100000 in
set_option maxHeartbeats 4000000 in
theorem c_X3_fact {d : Nat} {h : fwH} {Q : Option fwV → fwH → Prop} (p f w : Nat) (hp : p < 5) (hf : f < 8) (hw : w < 7) (k : Q (some (aI (h 18 p (7 * f + w)))) h) : fwCt mX3_fact (d + 0) [aR 5 p, aI (f : Int), aI (w : Int)] h Q := by
  refine fwCt_of [some (aR 5 p), some (aI (f : Int)), some (aI (w : Int)), none] rfl rfl rfl ?_
  refine w_iload_n dX3_fact_0 rfl ?_
  refine w_if_lt 24 dX3_fact_1 (by decide) (by omega) (fun c1 => ?_) (fun c1 => ?_)
  · (exfalso; omega)
  · refine w_iload_n dX3_fact_4 rfl ?_
    refine w_bipush dX3_fact_5 rfl ?_
    refine w_icmp_ge 24 dX3_fact_7 (by decide) (by omega) (by omega) (fun c7 => ?_) (fun c7 => ?_)
    · (exfalso; omega)
    · refine w_iload_n dX3_fact_10 rfl ?_
      refine w_if_lt 24 dX3_fact_11 (by decide) (by omega) (fun c11 => ?_) (fun c11 => ?_)
      · (exfalso; omega)
      · refine w_iload_n dX3_fact_14 rfl ?_
        refine w_bipush dX3_fact_15 rfl ?_
        refine w_icmp_ge 24 dX3_fact_17 (by decide) (by omega) (by omega) (fun c17 => ?_) (fun c17 => ?_)
        · (exfalso; omega)
        · refine w_iconst dX3_fact_20 ?_
          refine w_goto 25 dX3_fact_21 (by decide) ?_
          refine w_istore_n [some (aR 5 p), some (aI (f : Int)), some (aI (w : Int)), some (aI 1)] dX3_fact_25 rfl (by decide) ?_
          refine w_iload_n dX3_fact_26 rfl ?_
          refine w_if_eq 44 dX3_fact_27 (by decide) (by omega) (fun c27 => ?_) (fun c27 => ?_)
          · (exfalso; omega)
          · refine w_aload_n dX3_fact_30 rfl ?_
            refine w_getr 18 p dX3_fact_31 fl_X3_9 rfl hp ?_
            refine w_iload_n dX3_fact_34 rfl ?_
            refine w_bipush dX3_fact_35 rfl ?_
            refine w_imul dX3_fact_37 ?_
            refine w_iload_n dX3_fact_38 rfl ?_
            refine w_iadd dX3_fact_39 ?_
            refine w_ialdE (v := h 18 p (7 * f + w)) dX3_fact_40 rfl hp (by omega) (by omega) (by rw [show ((f : Int) * 7 + (w : Int)).toNat = 7 * f + w by omega]) ?_
            refine w_goto 45 dX3_fact_41 (by decide) ?_
            exact w_iretE dX3_fact_45 rfl (by rfl) k
theorem c_X3_factE {d : Nat} {h : fwH} {Q : Option fwV → fwH → Prop} (p f w : Nat) (x : Int) (e : x = (f : Int)) (hp : p < 5) (hf : f < 8) (hw : w < 7) (k : Q (some (aI (h 18 p (7 * f + w)))) h) : fwCt mX3_fact d [aR 5 p, aI x, aI (w : Int)] h Q := by
  subst e
  exact c_X3_fact p f w hp hf hw k
set_option maxRecDepth 100000 in
set_option maxHeartbeats 4000000 in
theorem c_X3_setFact {d : Nat} {h : fwH} {Q : Option fwV → fwH → Prop} (p f w : Nat) (x : Int) (hp : p < 5) (hf : f < 8) (hw : w < 7) (k : Q none (fwUp h 18 p (7 * f + w) x)) : fwCt mX3_setFact (d + 0) [aR 5 p, aI (f : Int), aI (w : Int), aI x] h Q := by
  refine fwCt_of [some (aR 5 p), some (aI (f : Int)), some (aI (w : Int)), some (aI x)] rfl rfl rfl ?_
  refine w_iload_n dX3_setFact_0 rfl ?_
  refine w_if_lt 32 dX3_setFact_1 (by decide) (by omega) (fun c1 => ?_) (fun c1 => ?_)
  · (exfalso; omega)
  · refine w_iload_n dX3_setFact_4 rfl ?_
    refine w_bipush dX3_setFact_5 rfl ?_
    refine w_icmp_ge 32 dX3_setFact_7 (by decide) (by omega) (by omega) (fun c7 => ?_) (fun c7 => ?_)
    · (exfalso; omega)
    · refine w_iload_n dX3_setFact_10 rfl ?_
      refine w_if_lt 32 dX3_setFact_11 (by decide) (by omega) (fun c11 => ?_) (fun c11 => ?_)
      · (exfalso; omega)
      · refine w_iload_n dX3_setFact_14 rfl ?_
        refine w_bipush dX3_setFact_15 rfl ?_
        refine w_icmp_ge 32 dX3_setFact_17 (by decide) (by omega) (by omega) (fun c17 => ?_) (fun c17 => ?_)
        · (exfalso; omega)
        · refine w_aload_n dX3_setFact_20 rfl ?_
          refine w_getr 18 p dX3_setFact_21 fl_X3_9 rfl hp ?_
          refine w_iload_n dX3_setFact_24 rfl ?_
          refine w_bipush dX3_setFact_25 rfl ?_
          refine w_imul dX3_setFact_27 ?_
          refine w_iload_n dX3_setFact_28 rfl ?_
          refine w_iadd dX3_setFact_29 ?_
          refine w_iload_n dX3_setFact_30 rfl ?_
          refine w_iast dX3_setFact_31 rfl hp (by omega) (by omega) ?_
          rw [show ((f : Int) * 7 + (w : Int)).toNat = 7 * f + w by omega]
          exact w_vret dX3_setFact_32 rfl k
set_option maxRecDepth 100000 in
set_option maxHeartbeats 4000000 in
theorem c_X3_befriend {d : Nat} {h : fwH} {Q : Option fwV → fwH → Prop} (p f g : Nat) (hp : p < 5) (hf : f < 8) (hg : g < 8) (k : Q none (fwUp (fwUp h 18 p (7 * f + 6) (fwOr (h 18 p (7 * f + 6)) (fwShl 1 (g : Int)))) 18 p (7 * g + 6) (fwOr ((fwUp h 18 p (7 * f + 6) (fwOr (h 18 p (7 * f + 6)) (fwShl 1 (g : Int)))) 18 p (7 * g + 6)) (fwShl 1 (f : Int))))) : fwCt mX3_befriend (d + 1) [aR 5 p, aI (f : Int), aI (g : Int)] h Q := by
  refine fwCt_of [some (aR 5 p), some (aI (f : Int)), some (aI (g : Int))] rfl rfl rfl ?_
  refine w_aload_n dX3_befriend_0 rfl ?_
  refine w_iload_n dX3_befriend_1 rfl ?_
  refine w_bipush dX3_befriend_2 rfl ?_
  refine w_aload_n dX3_befriend_4 rfl ?_
  refine w_iload_n dX3_befriend_5 rfl ?_
  refine w_bipush dX3_befriend_6 rfl ?_
  refine w_callV (d := d + 0) (S := [aI 6, aI (f : Int), aR 5 p]) [aI (f : Int), aI 6] dX3_befriend_8 ml_X3_25 ok_X3_fact vi_X3_fact rfl rfl hp rfl (Nat.le_of_ble_eq_true rfl) ?_
  refine c_X3_fact (d := d) p f 6 hp (by first | assumption | omega | decide) (by first | assumption | omega | decide) ?_
  show fwWP mX3_befriend (d + 1) 11 [some (aR 5 p), some (aI (f : Int)), some (aI (g : Int))] [aI (h 18 p (7 * f + 6)), aI 6, aI (f : Int), aR 5 p] h Q
  refine w_iconst dX3_befriend_11 ?_
  refine w_iload_n dX3_befriend_12 rfl ?_
  refine w_ishl dX3_befriend_13 ?_
  refine w_ior dX3_befriend_14 ?_
  refine w_callV (d := d + 0) (S := []) [aI (f : Int), aI 6, aI (fwOr (h 18 p (7 * f + 6)) (fwShl 1 (g : Int)))] dX3_befriend_15 ml_X3_29 ok_X3_setFact vi_X3_setFact rfl rfl hp rfl (Nat.le_of_ble_eq_true rfl) ?_
  refine c_X3_setFact (d := d) p f 6 (fwOr (h 18 p (7 * f + 6)) (fwShl 1 (g : Int))) hp (by first | assumption | omega | decide) (by first | assumption | omega | decide) ?_
  show fwWP mX3_befriend (d + 1) 18 [some (aR 5 p), some (aI (f : Int)), some (aI (g : Int))] [] (fwUp h 18 p (7 * f + 6) (fwOr (h 18 p (7 * f + 6)) (fwShl 1 (g : Int)))) Q
  refine w_aload_n dX3_befriend_18 rfl ?_
  refine w_iload_n dX3_befriend_19 rfl ?_
  refine w_bipush dX3_befriend_20 rfl ?_
  refine w_aload_n dX3_befriend_22 rfl ?_
  refine w_iload_n dX3_befriend_23 rfl ?_
  refine w_bipush dX3_befriend_24 rfl ?_
  refine w_callV (d := d + 0) (S := [aI 6, aI (g : Int), aR 5 p]) [aI (g : Int), aI 6] dX3_befriend_26 ml_X3_25 ok_X3_fact vi_X3_fact rfl rfl hp rfl (Nat.le_of_ble_eq_true rfl) ?_
  refine c_X3_fact (d := d) p g 6 hp (by first | assumption | omega | decide) (by first | assumption | omega | decide) ?_
  show fwWP mX3_befriend (d + 1) 29 [some (aR 5 p), some (aI (f : Int)), some (aI (g : Int))] [aI ((fwUp h 18 p (7 * f + 6) (fwOr (h 18 p (7 * f + 6)) (fwShl 1 (g : Int)))) 18 p (7 * g + 6)), aI 6, aI (g : Int), aR 5 p] (fwUp h 18 p (7 * f + 6) (fwOr (h 18 p (7 * f + 6)) (fwShl 1 (g : Int)))) Q
  refine w_iconst dX3_befriend_29 ?_
  refine w_iload_n dX3_befriend_30 rfl ?_
  refine w_ishl dX3_befriend_31 ?_
  refine w_ior dX3_befriend_32 ?_
  refine w_callV (d := d + 0) (S := []) [aI (g : Int), aI 6, aI (fwOr ((fwUp h 18 p (7 * f + 6) (fwOr (h 18 p (7 * f + 6)) (fwShl 1 (g : Int)))) 18 p (7 * g + 6)) (fwShl 1 (f : Int)))] dX3_befriend_33 ml_X3_29 ok_X3_setFact vi_X3_setFact rfl rfl hp rfl (Nat.le_of_ble_eq_true rfl) ?_
  refine c_X3_setFact (d := d) p g 6 (fwOr ((fwUp h 18 p (7 * f + 6) (fwOr (h 18 p (7 * f + 6)) (fwShl 1 (g : Int)))) 18 p (7 * g + 6)) (fwShl 1 (f : Int))) hp (by first | assumption | omega | decide) (by first | assumption | omega | decide) ?_
  show fwWP mX3_befriend (d + 1) 36 [some (aR 5 p), some (aI (f : Int)), some (aI (g : Int))] [] (fwUp (fwUp h 18 p (7 * f + 6) (fwOr (h 18 p (7 * f + 6)) (fwShl 1 (g : Int)))) 18 p (7 * g + 6) (fwOr ((fwUp h 18 p (7 * f + 6) (fwOr (h 18 p (7 * f + 6)) (fwShl 1 (g : Int)))) 18 p (7 * g + 6)) (fwShl 1 (f : Int)))) Q
  exact w_vret dX3_befriend_36 rfl (k)
theorem fwFl_all {g f : Nat → Int} {n : Nat} {h : fwH} {k i : Nat} (hl : fwLim k ≤ n) : fwE (fwUc h k i (fwFl g f n)) (fwUc h k i g) := fwE_uc (fun s hs _ => fwFl_lt (by omega))
set_option maxRecDepth 100000 in
set_option maxHeartbeats 4000000 in
theorem c_X3_clear {d : Nat} {h : fwH} {Q : Option fwV → fwH → Prop} (p : Nat) (hp : p < 5) (k : Q none (fwUc (fwUp h 5 p 3 0) 18 p (fun _ => 0))) : fwCt mX3_clear (d + 0) [aR 5 p] h Q := by
  refine fwCt_of [some (aR 5 p), none] rfl rfl rfl ?_
  refine w_aload_n dX3_clear_0 rfl ?_
  refine w_iconst dX3_clear_1 ?_
  refine w_puti dX3_clear_2 fl_X3_21 fp_5_3 rfl hp ?_
  refine w_iconst dX3_clear_5 ?_
  refine w_istore_n [some (aR 5 p), some (aI 0)] dX3_clear_6 rfl (by decide) ?_
  have lp7 : ∀ c : Nat, c ≤ 56 → ∀ (y7  : Int) (hh7 : fwH), y7 = (c : Int) → hh7 = (fwUc (fwUp h 5 p 3 0) 18 p (fwFl (fun _ => 0) (h 18 p) c)) → fwWP mX3_clear (d + 0) 7 [some (aR 5 p), some (aI y7)] [] hh7 Q := by
    refine fw_up (fun c hc7 ih7 => ?_)
    intro y7  hh7 ey7 eh7
    subst ey7
    subst eh7
    show fwWP mX3_clear (d + 0) 7 [some (aR 5 p), some (aI (c : Int))] [] (fwUc (fwUp h 5 p 3 0) 18 p (fwFl (fun _ => 0) (h 18 p) c)) Q
    refine w_iload_n dX3_clear_7 rfl ?_
    refine w_aload_n dX3_clear_8 rfl ?_
    refine w_getr 18 p dX3_clear_9 fl_X3_9 rfl hp ?_
    refine w_alen dX3_clear_12 rfl (by decide) hp ?_
    refine w_icmp_ge 29 dX3_clear_13 (by decide) (by omega) (by omega) (fun c13 => ?_) (fun c13 => ?_)
    · have ec7 : 56 = c := by omega
      subst ec7
      refine w_heq _ (fwFl_all (by decide)) ?_
      exact w_vret dX3_clear_29 rfl k
    · refine w_aload_n dX3_clear_16 rfl ?_
      refine w_getr 18 p dX3_clear_17 fl_X3_9 rfl hp ?_
      refine w_iload_n dX3_clear_20 rfl ?_
      refine w_iconst dX3_clear_21 ?_
      refine w_iast dX3_clear_22 rfl hp (by omega) (by omega) ?_
      refine w_iinc [some (aR 5 p), some (aI ((c : Int) + 1))] dX3_clear_23 rfl rfl (by decide) ?_
      refine w_goto 7 dX3_clear_26 (by decide) ?_
      refine ih7 (by omega) _ _ ?_ ?_
      · exact (by omega)
      · exact (by rw [fwUp_uc, Int.toNat_natCast]; exact congrArg _ (fwFl_succ (fun _ => 0) (h 18 p) c))
  refine lp7 0 (Nat.zero_le _) _ _ ?_ ?_
  · exact (by omega)
  · exact (by rw [fwFl_0]; exact (fwUc_self _ 18 p).symm)
set_option maxRecDepth 100000 in
set_option maxHeartbeats 4000000 in
theorem c_X3_copyFrom {d : Nat} {h : fwH} {Q : Option fwV → fwH → Prop} (p q : Nat) (hp : p < 5) (hq : q < 5) (hpq : p ≠ q) (k : Q none (fwUp (fwUc h 18 p (h 18 q)) 5 p 3 (h 5 q 3))) : fwCt mX3_copyFrom (d + 0) [aR 5 p, aR 5 q] h Q := by
  refine fwCt_of [some (aR 5 p), some (aR 5 q), none] rfl rfl rfl ?_
  refine w_iconst dX3_copyFrom_0 ?_
  refine w_istore_n [some (aR 5 p), some (aR 5 q), some (aI 0)] dX3_copyFrom_1 rfl (by decide) ?_
  have lp2 : ∀ c : Nat, c ≤ 56 → ∀ (y2  : Int) (hh2 : fwH), y2 = (c : Int) → hh2 = (fwUc h 18 p (fwFl (h 18 q) (h 18 p) c)) → fwWP mX3_copyFrom (d + 0) 2 [some (aR 5 p), some (aR 5 q), some (aI y2)] [] hh2 Q := by
    refine fw_up (fun c hc2 ih2 => ?_)
    intro y2  hh2 ey2 eh2
    subst ey2
    subst eh2
    show fwWP mX3_copyFrom (d + 0) 2 [some (aR 5 p), some (aR 5 q), some (aI (c : Int))] [] (fwUc h 18 p (fwFl (h 18 q) (h 18 p) c)) Q
    refine w_iload_n dX3_copyFrom_2 rfl ?_
    refine w_aload_n dX3_copyFrom_3 rfl ?_
    refine w_getr 18 p dX3_copyFrom_4 fl_X3_9 rfl hp ?_
    refine w_alen dX3_copyFrom_7 rfl (by decide) hp ?_
    refine w_icmp_ge 29 dX3_copyFrom_8 (by decide) (by omega) (by omega) (fun c8 => ?_) (fun c8 => ?_)
    · have ec2 : 56 = c := by omega
      subst ec2
      refine w_heq _ (fwFl_all (by decide)) ?_
      refine w_aload_n dX3_copyFrom_29 rfl ?_
      refine w_aload_n dX3_copyFrom_30 rfl ?_
      refine w_getiE (v := h 5 q 3) dX3_copyFrom_31 fl_X3_21 rfl hq (by rfl) ?_
      refine w_puti dX3_copyFrom_34 fl_X3_21 fp_5_3 rfl hp ?_
      exact w_vret dX3_copyFrom_37 rfl k
    · refine w_aload_n dX3_copyFrom_11 rfl ?_
      refine w_getr 18 p dX3_copyFrom_12 fl_X3_9 rfl hp ?_
      refine w_iload_n dX3_copyFrom_15 rfl ?_
      refine w_aload_n dX3_copyFrom_16 rfl ?_
      refine w_getr 18 q dX3_copyFrom_17 fl_X3_9 rfl hq ?_
      refine w_iload_n dX3_copyFrom_20 rfl ?_
      refine w_ialdE (v := h 18 q c) dX3_copyFrom_21 rfl hq (by omega) (by omega) (by rw [fwUc_ne (fun z => hpq z.2.symm)]; rfl) ?_
      refine w_iast dX3_copyFrom_22 rfl hp (by omega) (by omega) ?_
      refine w_iinc [some (aR 5 p), some (aR 5 q), some (aI ((c : Int) + 1))] dX3_copyFrom_23 rfl rfl (by decide) ?_
      refine w_goto 2 dX3_copyFrom_26 (by decide) ?_
      refine ih2 (by omega) _ _ ?_ ?_
      · exact (by omega)
      · exact (by rw [fwUp_uc, Int.toNat_natCast, fwFl_succ])
  refine lp2 0 (Nat.zero_le _) _ _ ?_ ?_
  · exact (by omega)
  · exact (by rw [fwFl_0, fwUc_self])
def fwFlA (g f : Nat → Int) (a c : Nat) : Nat → Int := fun s => if a ≤ s ∧ s < a + c then g (s - a) else f s
theorem fwFlA_0 (g f : Nat → Int) (a : Nat) : fwFlA g f a 0 = f := by
  funext s
  unfold fwFlA
  rw [if_neg (by omega)]
theorem fwFlA_succ (g f : Nat → Int) (a c : Nat) : fwFu (fwFlA g f a c) (a + c) (g c) = fwFlA g f a (c + 1) := by
  funext s
  unfold fwFu fwFlA
  by_cases e : s = a + c
  · subst e
    rw [if_pos rfl, if_pos (by omega), show a + c - a = c by omega]
  · rw [if_neg e]
    by_cases e3 : a ≤ s ∧ s < a + c
    · rw [if_pos e3, if_pos (by omega)]
    · rw [if_neg e3, if_neg (by omega)]
theorem fwFlA_in {g f : Nat → Int} {a c s : Nat} (h : s < c) : fwFlA g f a c (a + s) = g s := by
  unfold fwFlA
  rw [if_pos (by omega), show a + s - a = s by omega]
theorem fwFlA_in0 {g f : Nat → Int} {c s : Nat} (h : s < c) : fwFlA g f 0 c s = g s := by
  unfold fwFlA
  rw [if_pos (by omega)]
  rfl
/-- GAIN of the FOLK f: n cells, H heights, sl snow's line, F the facts -/
def mGain (n : Int) (H : Nat → Int) (sl : Int) (F : Nat → Int) (f : Nat) : Int := F (7 * f + 2) * (18 - mSh n H (F (7 * f)) (-1) - mSh n H (F (7 * f)) 1) + F (7 * f + 3) * fwPop (mBits (fun c => decide (sl ≤ H c)) n.toNat) + F (7 * f + 4) * mMax H n.toNat
theorem fw_mulP {a b : Int} (ha : 0 ≤ a ∧ a ≤ 9) (hb : 0 ≤ b ∧ b ≤ 1000) : 0 ≤ a * b ∧ a * b ≤ 9000 := by
  rcases (show a = 0 ∨ a = 1 ∨ a = 2 ∨ a = 3 ∨ a = 4 ∨ a = 5 ∨ a = 6 ∨ a = 7 ∨ a = 8 ∨ a = 9 by omega) with rfl | rfl | rfl | rfl | rfl | rfl | rfl | rfl | rfl | rfl <;> omega
theorem mGain_rng {n : Int} {H : Nat → Int} {sl : Int} {F : Nat → Int} {f : Nat} (hn : n ≤ 10) (hH : ∀ c : Nat, c < 10 → 0 ≤ H c ∧ H c ≤ 1000) (h2 : 0 ≤ F (7 * f + 2) ∧ F (7 * f + 2) ≤ 9) (h3 : 0 ≤ F (7 * f + 3) ∧ F (7 * f + 3) ≤ 9) (h4 : 0 ≤ F (7 * f + 4) ∧ F (7 * f + 4) ≤ 9) : 0 ≤ mGain n H sl F f ∧ mGain n H sl F f ≤ 27000 := by
  unfold mGain
  have a1 := mSh_rng (n := n) (H := H) (x := F (7 * f)) (st := -1) hn hH
  have a2 := mSh_rng (n := n) (H := H) (x := F (7 * f)) (st := 1) hn hH
  have a3 := fwPop_rng (mBits (fun c => decide (sl ≤ H c)) n.toNat)
  have a4 := mMax_rng (H := H) (b := 1000) (by omega) n.toNat (fun j hj => hH j (by omega))
  have b1 := fw_mulP (a := F (7 * f + 2)) (b := 18 - mSh n H (F (7 * f)) (-1) - mSh n H (F (7 * f)) 1) h2 (by omega)
  have b2 := fw_mulP (a := F (7 * f + 3)) (b := fwPop (mBits (fun c => decide (sl ≤ H c)) n.toNat)) h3 (by omega)
  have b3 := fw_mulP (a := F (7 * f + 4)) (b := mMax H n.toNat) h4 (by omega)
  omega
set_option maxRecDepth 100000 in
set_option maxHeartbeats 4000000 in
theorem c_fillGains19 {d : Nat} {h : fwH} {Q : Option fwV → fwH → Prop} (p g a : Nat) (hp : p < 5) (hg : g < 6) (hP : pOk h p) (hG : gOk h g) (ha : a = 0) (k : Q none (fwUc h 19 p (fwFlA (mGain (h 4 g 1) (h 17 g) (h 4 g 2) (h 18 p)) (h 19 p) a (h 5 p 3).toNat))) : fwCt mX3_fillGains (d + 2) [aR 5 p, aR 4 g, aR 19 p, aI (a : Int)] h Q := by
  refine fwCt_of [some (aR 5 p), some (aR 4 g), some (aR 19 p), some (aI (a : Int)), none, none, none, none, none, none] rfl rfl rfl ?_
  obtain ⟨⟨p1, p2⟩, p3⟩ := id hP
  obtain ⟨⟨g1, g2⟩, ⟨g3, g4⟩, ⟨g5, g6⟩, g7, g8⟩ := id hG
  refine w_aload_n dX3_fillGains_0 rfl ?_
  refine w_callV (d := d + 1) (S := []) [] dX3_fillGains_1 ml_X3_37 ok_X1_snowyCells vi_X1_snowyCells rfl rfl hg rfl (Nat.le_of_ble_eq_true rfl) ?_
  refine c_X1_snowyCells (d := d) g  hg (by first | assumption | omega | decide) ?_
  show fwWP mX3_fillGains (d + 2) 4 [some (aR 5 p), some (aR 4 g), some (aR 19 p), some (aI (a : Int)), none, none, none, none, none, none] [aI (mBits (fun c => decide ((h 4 g 2) ≤ (h 17 g) c)) (h 4 g 1).toNat)] h Q
  refine w_callS (d := d + 1) (S := []) [aI (mBits (fun c => decide ((h 4 g 2) ≤ (h 17 g) c)) (h 4 g 1).toNat)] dX3_fillGains_4 ml_X3_43 ok_J6_bitCount_0f7a4 st_J6_bitCount_0f7a4 rfl (Nat.le_of_ble_eq_true rfl) ?_
  refine c_bitCount (d := (d + 1)) (mBits (fun c => decide ((h 4 g 2) ≤ (h 17 g) c)) (h 4 g 1).toNat) ?_
  show fwWP mX3_fillGains (d + 2) 7 [some (aR 5 p), some (aR 4 g), some (aR 19 p), some (aI (a : Int)), none, none, none, none, none, none] [aI (fwPop (mBits (fun c => decide ((h 4 g 2) ≤ (h 17 g) c)) (h 4 g 1).toNat))] h Q
  refine w_istore [some (aR 5 p), some (aR 4 g), some (aR 19 p), some (aI (a : Int)), some (aI (fwPop (mBits (fun c => decide ((h 4 g 2) ≤ (h 17 g) c)) (h 4 g 1).toNat))), none, none, none, none, none] dX3_fillGains_7 rfl (by decide) ?_
  refine w_aload_n dX3_fillGains_9 rfl ?_
  refine w_callV (d := d + 1) (S := []) [] dX3_fillGains_10 ml_X3_49 ok_X1_topHeight vi_X1_topHeight rfl rfl hg rfl (Nat.le_of_ble_eq_true rfl) ?_
  refine c_X1_topHeight (d := d) g hg (by first | assumption | omega | decide) ?_
  show fwWP mX3_fillGains (d + 2) 13 [some (aR 5 p), some (aR 4 g), some (aR 19 p), some (aI (a : Int)), some (aI (fwPop (mBits (fun c => decide ((h 4 g 2) ≤ (h 17 g) c)) (h 4 g 1).toNat))), none, none, none, none, none] [aI (mMax (h 17 g) (h 4 g 1).toNat)] h Q
  refine w_istore [some (aR 5 p), some (aR 4 g), some (aR 19 p), some (aI (a : Int)), some (aI (fwPop (mBits (fun c => decide ((h 4 g 2) ≤ (h 17 g) c)) (h 4 g 1).toNat))), some (aI (mMax (h 17 g) (h 4 g 1).toNat)), none, none, none, none] dX3_fillGains_13 rfl (by decide) ?_
  refine w_iconst dX3_fillGains_15 ?_
  refine w_istore [some (aR 5 p), some (aR 4 g), some (aR 19 p), some (aI (a : Int)), some (aI (fwPop (mBits (fun c => decide ((h 4 g 2) ≤ (h 17 g) c)) (h 4 g 1).toNat))), some (aI (mMax (h 17 g) (h 4 g 1).toNat)), some (aI 0), none, none, none] dX3_fillGains_16 rfl (by decide) ?_
  have lp18 : ∀ c : Nat, c ≤ (h 5 p 3).toNat → ∀ (y18  : Int) (hh18 : fwH), y18 = (c : Int) → hh18 = (fwUc h 19 p (fwFlA (mGain (h 4 g 1) (h 17 g) (h 4 g 2) (h 18 p)) (h 19 p) a c)) → fwWP mX3_fillGains (d + 2) 18 [some (aR 5 p), some (aR 4 g), some (aR 19 p), some (aI (a : Int)), some (aI (fwPop (mBits (fun c => decide ((h 4 g 2) ≤ (h 17 g) c)) (h 4 g 1).toNat))), some (aI (mMax (h 17 g) (h 4 g 1).toNat)), some (aI y18), none, none, none] [] hh18 Q := by
    refine fw_up (fun c hc18 ih18 => ?_)
    intro y18  hh18 ey18 eh18
    subst ey18
    subst eh18
    show fwWP mX3_fillGains (d + 2) 18 [some (aR 5 p), some (aR 4 g), some (aR 19 p), some (aI (a : Int)), some (aI (fwPop (mBits (fun c => decide ((h 4 g 2) ≤ (h 17 g) c)) (h 4 g 1).toNat))), some (aI (mMax (h 17 g) (h 4 g 1).toNat)), some (aI (c : Int)), none, none, none] [] (fwUc h 19 p (fwFlA (mGain (h 4 g 1) (h 17 g) (h 4 g 2) (h 18 p)) (h 19 p) a c)) Q
    refine w_iload dX3_fillGains_18 rfl ?_
    refine w_aload_n dX3_fillGains_20 rfl ?_
    refine w_getiE (v := h 5 p 3) dX3_fillGains_21 fl_X3_21 rfl hp (by first | rfl | simp [fwUp, fwUc]) ?_
    refine w_icmp_ge 113 dX3_fillGains_24 (by decide) (by omega) (by omega) (fun c24 => ?_) (fun c24 => ?_)
    · have ec18 : (h 5 p 3).toNat = c := by omega
      subst ec18
      exact w_vret dX3_fillGains_113 rfl (k)
    · have hf := p3 c (by omega)
      refine w_aload_n dX3_fillGains_27 rfl ?_
      refine w_iload dX3_fillGains_28 rfl ?_
      refine w_iconst dX3_fillGains_30 ?_
      refine w_callV (d := d + 1) (S := []) [aI (c : Int), aI 2] dX3_fillGains_31 ml_X3_25 ok_X3_fact vi_X3_fact rfl rfl hp rfl (Nat.le_of_ble_eq_true rfl) ?_
      refine c_X3_fact (d := (d + 1)) p c 2 hp (by first | assumption | omega | decide) (by first | assumption | omega | decide) ?_
      show fwWP mX3_fillGains (d + 2) 34 [some (aR 5 p), some (aR 4 g), some (aR 19 p), some (aI (a : Int)), some (aI (fwPop (mBits (fun c => decide ((h 4 g 2) ≤ (h 17 g) c)) (h 4 g 1).toNat))), some (aI (mMax (h 17 g) (h 4 g 1).toNat)), some (aI (c : Int)), none, none, none] [aI (h 18 p (7 * c + 2))] (fwUc h 19 p (fwFlA (mGain (h 4 g 1) (h 17 g) (h 4 g 2) (h 18 p)) (h 19 p) a c)) Q
      refine w_istore [some (aR 5 p), some (aR 4 g), some (aR 19 p), some (aI (a : Int)), some (aI (fwPop (mBits (fun c => decide ((h 4 g 2) ≤ (h 17 g) c)) (h 4 g 1).toNat))), some (aI (mMax (h 17 g) (h 4 g 1).toNat)), some (aI (c : Int)), some (aI (h 18 p (7 * c + 2))), none, none] dX3_fillGains_34 rfl (by decide) ?_
      have J59 : ∀ v : Int, v = h 18 p (7 * c + 2) * (18 - mSh (h 4 g 1) (h 17 g) (h 18 p (7 * c)) (-1) - mSh (h 4 g 1) (h 17 g) (h 18 p (7 * c)) 1) → fwWP mX3_fillGains (d + 2) 59 [some (aR 5 p), some (aR 4 g), some (aR 19 p), some (aI (a : Int)), some (aI (fwPop (mBits (fun c => decide ((h 4 g 2) ≤ (h 17 g) c)) (h 4 g 1).toNat))), some (aI (mMax (h 17 g) (h 4 g 1).toNat)), some (aI (c : Int)), some (aI (h 18 p (7 * c + 2))), none, none] [aI v] (fwUc h 19 p (fwFlA (mGain (h 4 g 1) (h 17 g) (h 4 g 2) (h 18 p)) (h 19 p) a c)) Q := by
        intro v ev
        subst ev
        refine w_istore [some (aR 5 p), some (aR 4 g), some (aR 19 p), some (aI (a : Int)), some (aI (fwPop (mBits (fun c => decide ((h 4 g 2) ≤ (h 17 g) c)) (h 4 g 1).toNat))), some (aI (mMax (h 17 g) (h 4 g 1).toNat)), some (aI (c : Int)), some (aI (h 18 p (7 * c + 2))), some (aI (h 18 p (7 * c + 2) * (18 - mSh (h 4 g 1) (h 17 g) (h 18 p (7 * c)) (-1) - mSh (h 4 g 1) (h 17 g) (h 18 p (7 * c)) 1))), none] dX3_fillGains_59 rfl (by decide) ?_
        refine w_iload_n dX3_fillGains_61 rfl ?_
        refine w_iload dX3_fillGains_62 rfl ?_
        refine w_iadd dX3_fillGains_64 ?_
        refine w_istore [some (aR 5 p), some (aR 4 g), some (aR 19 p), some (aI (a : Int)), some (aI (fwPop (mBits (fun c => decide ((h 4 g 2) ≤ (h 17 g) c)) (h 4 g 1).toNat))), some (aI (mMax (h 17 g) (h 4 g 1).toNat)), some (aI (c : Int)), some (aI (h 18 p (7 * c + 2))), some (aI (h 18 p (7 * c + 2) * (18 - mSh (h 4 g 1) (h 17 g) (h 18 p (7 * c)) (-1) - mSh (h 4 g 1) (h 17 g) (h 18 p (7 * c)) 1))), some (aI ((a : Int) + (c : Int)))] dX3_fillGains_65 rfl (by decide) ?_
        refine w_iload dX3_fillGains_67 rfl ?_
        refine w_if_lt 107 dX3_fillGains_69 (by decide) (by omega) (fun c69 => ?_) (fun c69 => ?_)
        · (exfalso; omega)
        · refine w_iload dX3_fillGains_72 rfl ?_
          refine w_aload_n dX3_fillGains_74 rfl ?_
          refine w_alen dX3_fillGains_75 rfl (by decide) hp ?_
          refine w_icmp_ge 107 dX3_fillGains_76 (by decide) (by omega) (by omega) (fun c76 => ?_) (fun c76 => ?_)
          · (exfalso; omega)
          · refine w_aload_n dX3_fillGains_79 rfl ?_
            refine w_iload dX3_fillGains_80 rfl ?_
            refine w_iload dX3_fillGains_82 rfl ?_
            refine w_aload_n dX3_fillGains_84 rfl ?_
            refine w_iload dX3_fillGains_85 rfl ?_
            refine w_iconst dX3_fillGains_87 ?_
            refine w_callV (d := d + 1) (S := [aI (h 18 p (7 * c + 2) * (18 - mSh (h 4 g 1) (h 17 g) (h 18 p (7 * c)) (-1) - mSh (h 4 g 1) (h 17 g) (h 18 p (7 * c)) 1)), aI ((a : Int) + (c : Int)), aR 19 p]) [aI (c : Int), aI 3] dX3_fillGains_88 ml_X3_25 ok_X3_fact vi_X3_fact rfl rfl hp rfl (Nat.le_of_ble_eq_true rfl) ?_
            refine c_X3_fact (d := (d + 1)) p c 3 hp (by first | assumption | omega | decide) (by first | assumption | omega | decide) ?_
            show fwWP mX3_fillGains (d + 2) 91 [some (aR 5 p), some (aR 4 g), some (aR 19 p), some (aI (a : Int)), some (aI (fwPop (mBits (fun c => decide ((h 4 g 2) ≤ (h 17 g) c)) (h 4 g 1).toNat))), some (aI (mMax (h 17 g) (h 4 g 1).toNat)), some (aI (c : Int)), some (aI (h 18 p (7 * c + 2))), some (aI (h 18 p (7 * c + 2) * (18 - mSh (h 4 g 1) (h 17 g) (h 18 p (7 * c)) (-1) - mSh (h 4 g 1) (h 17 g) (h 18 p (7 * c)) 1))), some (aI ((a : Int) + (c : Int)))] [aI (h 18 p (7 * c + 3)), aI (h 18 p (7 * c + 2) * (18 - mSh (h 4 g 1) (h 17 g) (h 18 p (7 * c)) (-1) - mSh (h 4 g 1) (h 17 g) (h 18 p (7 * c)) 1)), aI ((a : Int) + (c : Int)), aR 19 p] (fwUc h 19 p (fwFlA (mGain (h 4 g 1) (h 17 g) (h 4 g 2) (h 18 p)) (h 19 p) a c)) Q
            refine w_iload dX3_fillGains_91 rfl ?_
            refine w_imul dX3_fillGains_93 ?_
            refine w_iadd dX3_fillGains_94 ?_
            refine w_aload_n dX3_fillGains_95 rfl ?_
            refine w_iload dX3_fillGains_96 rfl ?_
            refine w_iconst dX3_fillGains_98 ?_
            refine w_callV (d := d + 1) (S := [aI ((h 18 p (7 * c + 2) * (18 - mSh (h 4 g 1) (h 17 g) (h 18 p (7 * c)) (-1) - mSh (h 4 g 1) (h 17 g) (h 18 p (7 * c)) 1)) + ((h 18 p (7 * c + 3)) * (fwPop (mBits (fun c => decide ((h 4 g 2) ≤ (h 17 g) c)) (h 4 g 1).toNat)))), aI ((a : Int) + (c : Int)), aR 19 p]) [aI (c : Int), aI 4] dX3_fillGains_99 ml_X3_25 ok_X3_fact vi_X3_fact rfl rfl hp rfl (Nat.le_of_ble_eq_true rfl) ?_
            refine c_X3_fact (d := (d + 1)) p c 4 hp (by first | assumption | omega | decide) (by first | assumption | omega | decide) ?_
            show fwWP mX3_fillGains (d + 2) 102 [some (aR 5 p), some (aR 4 g), some (aR 19 p), some (aI (a : Int)), some (aI (fwPop (mBits (fun c => decide ((h 4 g 2) ≤ (h 17 g) c)) (h 4 g 1).toNat))), some (aI (mMax (h 17 g) (h 4 g 1).toNat)), some (aI (c : Int)), some (aI (h 18 p (7 * c + 2))), some (aI (h 18 p (7 * c + 2) * (18 - mSh (h 4 g 1) (h 17 g) (h 18 p (7 * c)) (-1) - mSh (h 4 g 1) (h 17 g) (h 18 p (7 * c)) 1))), some (aI ((a : Int) + (c : Int)))] [aI (h 18 p (7 * c + 4)), aI ((h 18 p (7 * c + 2) * (18 - mSh (h 4 g 1) (h 17 g) (h 18 p (7 * c)) (-1) - mSh (h 4 g 1) (h 17 g) (h 18 p (7 * c)) 1)) + ((h 18 p (7 * c + 3)) * (fwPop (mBits (fun c => decide ((h 4 g 2) ≤ (h 17 g) c)) (h 4 g 1).toNat)))), aI ((a : Int) + (c : Int)), aR 19 p] (fwUc h 19 p (fwFlA (mGain (h 4 g 1) (h 17 g) (h 4 g 2) (h 18 p)) (h 19 p) a c)) Q
            refine w_iload dX3_fillGains_102 rfl ?_
            refine w_imul dX3_fillGains_104 ?_
            refine w_iadd dX3_fillGains_105 ?_
            refine w_iast dX3_fillGains_106 rfl hp (by omega) (by omega) ?_
            refine w_iinc [some (aR 5 p), some (aR 4 g), some (aR 19 p), some (aI (a : Int)), some (aI (fwPop (mBits (fun c => decide ((h 4 g 2) ≤ (h 17 g) c)) (h 4 g 1).toNat))), some (aI (mMax (h 17 g) (h 4 g 1).toNat)), some (aI ((c : Int) + 1)), some (aI (h 18 p (7 * c + 2))), some (aI (h 18 p (7 * c + 2) * (18 - mSh (h 4 g 1) (h 17 g) (h 18 p (7 * c)) (-1) - mSh (h 4 g 1) (h 17 g) (h 18 p (7 * c)) 1))), some (aI ((a : Int) + (c : Int)))] dX3_fillGains_107 rfl rfl (by decide) ?_
            refine w_goto 18 dX3_fillGains_110 (by decide) ?_
            refine w_drop [7, 8, 9] [some (aR 5 p), some (aR 4 g), some (aR 19 p), some (aI (a : Int)), some (aI (fwPop (mBits (fun c => decide ((h 4 g 2) ≤ (h 17 g) c)) (h 4 g 1).toNat))), some (aI (mMax (h 17 g) (h 4 g 1).toNat)), some (aI ((c : Int) + 1)), none, none, none] rfl ?_
            refine ih18 (by omega) _ _ ?_ ?_
            · exact (by omega)
            · exact (by rw [fwUp_uc, show ((a : Int) + (c : Int)).toNat = a + c by omega]; exact congrArg _ (fwFlA_succ (mGain (h 4 g 1) (h 17 g) (h 4 g 2) (h 18 p)) (h 19 p) a c))
      refine w_iload dX3_fillGains_36 rfl ?_
      refine w_if_ne 45 dX3_fillGains_38 (by decide) (by omega) (fun c38 => ?_) (fun c38 => ?_)
      · refine w_iload dX3_fillGains_45 rfl ?_
        refine w_aload_n dX3_fillGains_47 rfl ?_
        refine w_aload_n dX3_fillGains_48 rfl ?_
        refine w_iload dX3_fillGains_49 rfl ?_
        refine w_iconst dX3_fillGains_51 ?_
        refine w_callV (d := d + 1) (S := [aR 4 g, aI (h 18 p (7 * c + 2))]) [aI (c : Int), aI 0] dX3_fillGains_52 ml_X3_25 ok_X3_fact vi_X3_fact rfl rfl hp rfl (Nat.le_of_ble_eq_true rfl) ?_
        refine c_X3_fact (d := (d + 1)) p c 0 hp (by first | assumption | omega | decide) (by first | assumption | omega | decide) ?_
        show fwWP mX3_fillGains (d + 2) 55 [some (aR 5 p), some (aR 4 g), some (aR 19 p), some (aI (a : Int)), some (aI (fwPop (mBits (fun c => decide ((h 4 g 2) ≤ (h 17 g) c)) (h 4 g 1).toNat))), some (aI (mMax (h 17 g) (h 4 g 1).toNat)), some (aI (c : Int)), some (aI (h 18 p (7 * c + 2))), none, none] [aI (h 18 p (7 * c)), aR 4 g, aI (h 18 p (7 * c + 2))] (fwUc h 19 p (fwFlA (mGain (h 4 g 1) (h 17 g) (h 4 g 2) (h 18 p)) (h 19 p) a c)) Q
        refine w_callV (d := d + 1) (S := [aI (h 18 p (7 * c + 2))]) [aI (h 18 p (7 * c))] dX3_fillGains_55 ml_X3_52 ok_X1_lightOf vi_X1_lightOf rfl rfl hg rfl (Nat.le_of_ble_eq_true rfl) ?_
        refine c_X1_lightOf (d := d) g (h 18 p (7 * c)) hg (by first | assumption | omega | decide) (by first | assumption | omega | decide) ?_
        show fwWP mX3_fillGains (d + 2) 58 [some (aR 5 p), some (aR 4 g), some (aR 19 p), some (aI (a : Int)), some (aI (fwPop (mBits (fun c => decide ((h 4 g 2) ≤ (h 17 g) c)) (h 4 g 1).toNat))), some (aI (mMax (h 17 g) (h 4 g 1).toNat)), some (aI (c : Int)), some (aI (h 18 p (7 * c + 2))), none, none] [aI (18 - mSh (h 4 g 1) (h 17 g) (h 18 p (7 * c)) (-1) - mSh (h 4 g 1) (h 17 g) (h 18 p (7 * c)) 1), aI (h 18 p (7 * c + 2))] (fwUc h 19 p (fwFlA (mGain (h 4 g 1) (h 17 g) (h 4 g 2) (h 18 p)) (h 19 p) a c)) Q
        have hs5 := mSh_rng (n := (h 4 g 1)) (H := (h 17 g)) (x := (h 18 p (7 * c))) (st := -1) (by omega) (by assumption)
        have hs6 := mSh_rng (n := (h 4 g 1)) (H := (h 17 g)) (x := (h 18 p (7 * c))) (st := 1) (by omega) (by assumption)
        refine w_imul dX3_fillGains_58 ?_
        exact J59 _ rfl
      · refine w_iconst dX3_fillGains_41 ?_
        refine w_goto 59 dX3_fillGains_42 (by decide) ?_
        exact J59 _ (by rw [c38, Int.zero_mul])
  refine lp18 0 (Nat.zero_le _) _ _ ?_ ?_
  · exact (by omega)
  · exact (by rw [fwFlA_0, fwUc_self])
set_option maxRecDepth 100000 in
set_option maxHeartbeats 4000000 in
theorem c_fillGains20 {d : Nat} {h : fwH} {Q : Option fwV → fwH → Prop} (p g a : Nat) (hp : p < 5) (hg : g < 6) (hP : pOk h p) (hG : gOk h g) (ha : a = 0) (k : Q none (fwUc h 20 p (fwFlA (mGain (h 4 g 1) (h 17 g) (h 4 g 2) (h 18 p)) (h 20 p) a (h 5 p 3).toNat))) : fwCt mX3_fillGains (d + 2) [aR 5 p, aR 4 g, aR 20 p, aI (a : Int)] h Q := by
  refine fwCt_of [some (aR 5 p), some (aR 4 g), some (aR 20 p), some (aI (a : Int)), none, none, none, none, none, none] rfl rfl rfl ?_
  obtain ⟨⟨p1, p2⟩, p3⟩ := id hP
  obtain ⟨⟨g1, g2⟩, ⟨g3, g4⟩, ⟨g5, g6⟩, g7, g8⟩ := id hG
  refine w_aload_n dX3_fillGains_0 rfl ?_
  refine w_callV (d := d + 1) (S := []) [] dX3_fillGains_1 ml_X3_37 ok_X1_snowyCells vi_X1_snowyCells rfl rfl hg rfl (Nat.le_of_ble_eq_true rfl) ?_
  refine c_X1_snowyCells (d := d) g  hg (by first | assumption | omega | decide) ?_
  show fwWP mX3_fillGains (d + 2) 4 [some (aR 5 p), some (aR 4 g), some (aR 20 p), some (aI (a : Int)), none, none, none, none, none, none] [aI (mBits (fun c => decide ((h 4 g 2) ≤ (h 17 g) c)) (h 4 g 1).toNat)] h Q
  refine w_callS (d := d + 1) (S := []) [aI (mBits (fun c => decide ((h 4 g 2) ≤ (h 17 g) c)) (h 4 g 1).toNat)] dX3_fillGains_4 ml_X3_43 ok_J6_bitCount_0f7a4 st_J6_bitCount_0f7a4 rfl (Nat.le_of_ble_eq_true rfl) ?_
  refine c_bitCount (d := (d + 1)) (mBits (fun c => decide ((h 4 g 2) ≤ (h 17 g) c)) (h 4 g 1).toNat) ?_
  show fwWP mX3_fillGains (d + 2) 7 [some (aR 5 p), some (aR 4 g), some (aR 20 p), some (aI (a : Int)), none, none, none, none, none, none] [aI (fwPop (mBits (fun c => decide ((h 4 g 2) ≤ (h 17 g) c)) (h 4 g 1).toNat))] h Q
  refine w_istore [some (aR 5 p), some (aR 4 g), some (aR 20 p), some (aI (a : Int)), some (aI (fwPop (mBits (fun c => decide ((h 4 g 2) ≤ (h 17 g) c)) (h 4 g 1).toNat))), none, none, none, none, none] dX3_fillGains_7 rfl (by decide) ?_
  refine w_aload_n dX3_fillGains_9 rfl ?_
  refine w_callV (d := d + 1) (S := []) [] dX3_fillGains_10 ml_X3_49 ok_X1_topHeight vi_X1_topHeight rfl rfl hg rfl (Nat.le_of_ble_eq_true rfl) ?_
  refine c_X1_topHeight (d := d) g hg (by first | assumption | omega | decide) ?_
  show fwWP mX3_fillGains (d + 2) 13 [some (aR 5 p), some (aR 4 g), some (aR 20 p), some (aI (a : Int)), some (aI (fwPop (mBits (fun c => decide ((h 4 g 2) ≤ (h 17 g) c)) (h 4 g 1).toNat))), none, none, none, none, none] [aI (mMax (h 17 g) (h 4 g 1).toNat)] h Q
  refine w_istore [some (aR 5 p), some (aR 4 g), some (aR 20 p), some (aI (a : Int)), some (aI (fwPop (mBits (fun c => decide ((h 4 g 2) ≤ (h 17 g) c)) (h 4 g 1).toNat))), some (aI (mMax (h 17 g) (h 4 g 1).toNat)), none, none, none, none] dX3_fillGains_13 rfl (by decide) ?_
  refine w_iconst dX3_fillGains_15 ?_
  refine w_istore [some (aR 5 p), some (aR 4 g), some (aR 20 p), some (aI (a : Int)), some (aI (fwPop (mBits (fun c => decide ((h 4 g 2) ≤ (h 17 g) c)) (h 4 g 1).toNat))), some (aI (mMax (h 17 g) (h 4 g 1).toNat)), some (aI 0), none, none, none] dX3_fillGains_16 rfl (by decide) ?_
  have lp18 : ∀ c : Nat, c ≤ (h 5 p 3).toNat → ∀ (y18  : Int) (hh18 : fwH), y18 = (c : Int) → hh18 = (fwUc h 20 p (fwFlA (mGain (h 4 g 1) (h 17 g) (h 4 g 2) (h 18 p)) (h 20 p) a c)) → fwWP mX3_fillGains (d + 2) 18 [some (aR 5 p), some (aR 4 g), some (aR 20 p), some (aI (a : Int)), some (aI (fwPop (mBits (fun c => decide ((h 4 g 2) ≤ (h 17 g) c)) (h 4 g 1).toNat))), some (aI (mMax (h 17 g) (h 4 g 1).toNat)), some (aI y18), none, none, none] [] hh18 Q := by
    refine fw_up (fun c hc18 ih18 => ?_)
    intro y18  hh18 ey18 eh18
    subst ey18
    subst eh18
    show fwWP mX3_fillGains (d + 2) 18 [some (aR 5 p), some (aR 4 g), some (aR 20 p), some (aI (a : Int)), some (aI (fwPop (mBits (fun c => decide ((h 4 g 2) ≤ (h 17 g) c)) (h 4 g 1).toNat))), some (aI (mMax (h 17 g) (h 4 g 1).toNat)), some (aI (c : Int)), none, none, none] [] (fwUc h 20 p (fwFlA (mGain (h 4 g 1) (h 17 g) (h 4 g 2) (h 18 p)) (h 20 p) a c)) Q
    refine w_iload dX3_fillGains_18 rfl ?_
    refine w_aload_n dX3_fillGains_20 rfl ?_
    refine w_getiE (v := h 5 p 3) dX3_fillGains_21 fl_X3_21 rfl hp (by first | rfl | simp [fwUp, fwUc]) ?_
    refine w_icmp_ge 113 dX3_fillGains_24 (by decide) (by omega) (by omega) (fun c24 => ?_) (fun c24 => ?_)
    · have ec18 : (h 5 p 3).toNat = c := by omega
      subst ec18
      exact w_vret dX3_fillGains_113 rfl (k)
    · have hf := p3 c (by omega)
      refine w_aload_n dX3_fillGains_27 rfl ?_
      refine w_iload dX3_fillGains_28 rfl ?_
      refine w_iconst dX3_fillGains_30 ?_
      refine w_callV (d := d + 1) (S := []) [aI (c : Int), aI 2] dX3_fillGains_31 ml_X3_25 ok_X3_fact vi_X3_fact rfl rfl hp rfl (Nat.le_of_ble_eq_true rfl) ?_
      refine c_X3_fact (d := (d + 1)) p c 2 hp (by first | assumption | omega | decide) (by first | assumption | omega | decide) ?_
      show fwWP mX3_fillGains (d + 2) 34 [some (aR 5 p), some (aR 4 g), some (aR 20 p), some (aI (a : Int)), some (aI (fwPop (mBits (fun c => decide ((h 4 g 2) ≤ (h 17 g) c)) (h 4 g 1).toNat))), some (aI (mMax (h 17 g) (h 4 g 1).toNat)), some (aI (c : Int)), none, none, none] [aI (h 18 p (7 * c + 2))] (fwUc h 20 p (fwFlA (mGain (h 4 g 1) (h 17 g) (h 4 g 2) (h 18 p)) (h 20 p) a c)) Q
      refine w_istore [some (aR 5 p), some (aR 4 g), some (aR 20 p), some (aI (a : Int)), some (aI (fwPop (mBits (fun c => decide ((h 4 g 2) ≤ (h 17 g) c)) (h 4 g 1).toNat))), some (aI (mMax (h 17 g) (h 4 g 1).toNat)), some (aI (c : Int)), some (aI (h 18 p (7 * c + 2))), none, none] dX3_fillGains_34 rfl (by decide) ?_
      have J59 : ∀ v : Int, v = h 18 p (7 * c + 2) * (18 - mSh (h 4 g 1) (h 17 g) (h 18 p (7 * c)) (-1) - mSh (h 4 g 1) (h 17 g) (h 18 p (7 * c)) 1) → fwWP mX3_fillGains (d + 2) 59 [some (aR 5 p), some (aR 4 g), some (aR 20 p), some (aI (a : Int)), some (aI (fwPop (mBits (fun c => decide ((h 4 g 2) ≤ (h 17 g) c)) (h 4 g 1).toNat))), some (aI (mMax (h 17 g) (h 4 g 1).toNat)), some (aI (c : Int)), some (aI (h 18 p (7 * c + 2))), none, none] [aI v] (fwUc h 20 p (fwFlA (mGain (h 4 g 1) (h 17 g) (h 4 g 2) (h 18 p)) (h 20 p) a c)) Q := by
        intro v ev
        subst ev
        refine w_istore [some (aR 5 p), some (aR 4 g), some (aR 20 p), some (aI (a : Int)), some (aI (fwPop (mBits (fun c => decide ((h 4 g 2) ≤ (h 17 g) c)) (h 4 g 1).toNat))), some (aI (mMax (h 17 g) (h 4 g 1).toNat)), some (aI (c : Int)), some (aI (h 18 p (7 * c + 2))), some (aI (h 18 p (7 * c + 2) * (18 - mSh (h 4 g 1) (h 17 g) (h 18 p (7 * c)) (-1) - mSh (h 4 g 1) (h 17 g) (h 18 p (7 * c)) 1))), none] dX3_fillGains_59 rfl (by decide) ?_
        refine w_iload_n dX3_fillGains_61 rfl ?_
        refine w_iload dX3_fillGains_62 rfl ?_
        refine w_iadd dX3_fillGains_64 ?_
        refine w_istore [some (aR 5 p), some (aR 4 g), some (aR 20 p), some (aI (a : Int)), some (aI (fwPop (mBits (fun c => decide ((h 4 g 2) ≤ (h 17 g) c)) (h 4 g 1).toNat))), some (aI (mMax (h 17 g) (h 4 g 1).toNat)), some (aI (c : Int)), some (aI (h 18 p (7 * c + 2))), some (aI (h 18 p (7 * c + 2) * (18 - mSh (h 4 g 1) (h 17 g) (h 18 p (7 * c)) (-1) - mSh (h 4 g 1) (h 17 g) (h 18 p (7 * c)) 1))), some (aI ((a : Int) + (c : Int)))] dX3_fillGains_65 rfl (by decide) ?_
        refine w_iload dX3_fillGains_67 rfl ?_
        refine w_if_lt 107 dX3_fillGains_69 (by decide) (by omega) (fun c69 => ?_) (fun c69 => ?_)
        · (exfalso; omega)
        · refine w_iload dX3_fillGains_72 rfl ?_
          refine w_aload_n dX3_fillGains_74 rfl ?_
          refine w_alen dX3_fillGains_75 rfl (by decide) hp ?_
          refine w_icmp_ge 107 dX3_fillGains_76 (by decide) (by omega) (by omega) (fun c76 => ?_) (fun c76 => ?_)
          · (exfalso; omega)
          · refine w_aload_n dX3_fillGains_79 rfl ?_
            refine w_iload dX3_fillGains_80 rfl ?_
            refine w_iload dX3_fillGains_82 rfl ?_
            refine w_aload_n dX3_fillGains_84 rfl ?_
            refine w_iload dX3_fillGains_85 rfl ?_
            refine w_iconst dX3_fillGains_87 ?_
            refine w_callV (d := d + 1) (S := [aI (h 18 p (7 * c + 2) * (18 - mSh (h 4 g 1) (h 17 g) (h 18 p (7 * c)) (-1) - mSh (h 4 g 1) (h 17 g) (h 18 p (7 * c)) 1)), aI ((a : Int) + (c : Int)), aR 20 p]) [aI (c : Int), aI 3] dX3_fillGains_88 ml_X3_25 ok_X3_fact vi_X3_fact rfl rfl hp rfl (Nat.le_of_ble_eq_true rfl) ?_
            refine c_X3_fact (d := (d + 1)) p c 3 hp (by first | assumption | omega | decide) (by first | assumption | omega | decide) ?_
            show fwWP mX3_fillGains (d + 2) 91 [some (aR 5 p), some (aR 4 g), some (aR 20 p), some (aI (a : Int)), some (aI (fwPop (mBits (fun c => decide ((h 4 g 2) ≤ (h 17 g) c)) (h 4 g 1).toNat))), some (aI (mMax (h 17 g) (h 4 g 1).toNat)), some (aI (c : Int)), some (aI (h 18 p (7 * c + 2))), some (aI (h 18 p (7 * c + 2) * (18 - mSh (h 4 g 1) (h 17 g) (h 18 p (7 * c)) (-1) - mSh (h 4 g 1) (h 17 g) (h 18 p (7 * c)) 1))), some (aI ((a : Int) + (c : Int)))] [aI (h 18 p (7 * c + 3)), aI (h 18 p (7 * c + 2) * (18 - mSh (h 4 g 1) (h 17 g) (h 18 p (7 * c)) (-1) - mSh (h 4 g 1) (h 17 g) (h 18 p (7 * c)) 1)), aI ((a : Int) + (c : Int)), aR 20 p] (fwUc h 20 p (fwFlA (mGain (h 4 g 1) (h 17 g) (h 4 g 2) (h 18 p)) (h 20 p) a c)) Q
            refine w_iload dX3_fillGains_91 rfl ?_
            refine w_imul dX3_fillGains_93 ?_
            refine w_iadd dX3_fillGains_94 ?_
            refine w_aload_n dX3_fillGains_95 rfl ?_
            refine w_iload dX3_fillGains_96 rfl ?_
            refine w_iconst dX3_fillGains_98 ?_
            refine w_callV (d := d + 1) (S := [aI ((h 18 p (7 * c + 2) * (18 - mSh (h 4 g 1) (h 17 g) (h 18 p (7 * c)) (-1) - mSh (h 4 g 1) (h 17 g) (h 18 p (7 * c)) 1)) + ((h 18 p (7 * c + 3)) * (fwPop (mBits (fun c => decide ((h 4 g 2) ≤ (h 17 g) c)) (h 4 g 1).toNat)))), aI ((a : Int) + (c : Int)), aR 20 p]) [aI (c : Int), aI 4] dX3_fillGains_99 ml_X3_25 ok_X3_fact vi_X3_fact rfl rfl hp rfl (Nat.le_of_ble_eq_true rfl) ?_
            refine c_X3_fact (d := (d + 1)) p c 4 hp (by first | assumption | omega | decide) (by first | assumption | omega | decide) ?_
            show fwWP mX3_fillGains (d + 2) 102 [some (aR 5 p), some (aR 4 g), some (aR 20 p), some (aI (a : Int)), some (aI (fwPop (mBits (fun c => decide ((h 4 g 2) ≤ (h 17 g) c)) (h 4 g 1).toNat))), some (aI (mMax (h 17 g) (h 4 g 1).toNat)), some (aI (c : Int)), some (aI (h 18 p (7 * c + 2))), some (aI (h 18 p (7 * c + 2) * (18 - mSh (h 4 g 1) (h 17 g) (h 18 p (7 * c)) (-1) - mSh (h 4 g 1) (h 17 g) (h 18 p (7 * c)) 1))), some (aI ((a : Int) + (c : Int)))] [aI (h 18 p (7 * c + 4)), aI ((h 18 p (7 * c + 2) * (18 - mSh (h 4 g 1) (h 17 g) (h 18 p (7 * c)) (-1) - mSh (h 4 g 1) (h 17 g) (h 18 p (7 * c)) 1)) + ((h 18 p (7 * c + 3)) * (fwPop (mBits (fun c => decide ((h 4 g 2) ≤ (h 17 g) c)) (h 4 g 1).toNat)))), aI ((a : Int) + (c : Int)), aR 20 p] (fwUc h 20 p (fwFlA (mGain (h 4 g 1) (h 17 g) (h 4 g 2) (h 18 p)) (h 20 p) a c)) Q
            refine w_iload dX3_fillGains_102 rfl ?_
            refine w_imul dX3_fillGains_104 ?_
            refine w_iadd dX3_fillGains_105 ?_
            refine w_iast dX3_fillGains_106 rfl hp (by omega) (by omega) ?_
            refine w_iinc [some (aR 5 p), some (aR 4 g), some (aR 20 p), some (aI (a : Int)), some (aI (fwPop (mBits (fun c => decide ((h 4 g 2) ≤ (h 17 g) c)) (h 4 g 1).toNat))), some (aI (mMax (h 17 g) (h 4 g 1).toNat)), some (aI ((c : Int) + 1)), some (aI (h 18 p (7 * c + 2))), some (aI (h 18 p (7 * c + 2) * (18 - mSh (h 4 g 1) (h 17 g) (h 18 p (7 * c)) (-1) - mSh (h 4 g 1) (h 17 g) (h 18 p (7 * c)) 1))), some (aI ((a : Int) + (c : Int)))] dX3_fillGains_107 rfl rfl (by decide) ?_
            refine w_goto 18 dX3_fillGains_110 (by decide) ?_
            refine w_drop [7, 8, 9] [some (aR 5 p), some (aR 4 g), some (aR 20 p), some (aI (a : Int)), some (aI (fwPop (mBits (fun c => decide ((h 4 g 2) ≤ (h 17 g) c)) (h 4 g 1).toNat))), some (aI (mMax (h 17 g) (h 4 g 1).toNat)), some (aI ((c : Int) + 1)), none, none, none] rfl ?_
            refine ih18 (by omega) _ _ ?_ ?_
            · exact (by omega)
            · exact (by rw [fwUp_uc, show ((a : Int) + (c : Int)).toNat = a + c by omega]; exact congrArg _ (fwFlA_succ (mGain (h 4 g 1) (h 17 g) (h 4 g 2) (h 18 p)) (h 20 p) a c))
      refine w_iload dX3_fillGains_36 rfl ?_
      refine w_if_ne 45 dX3_fillGains_38 (by decide) (by omega) (fun c38 => ?_) (fun c38 => ?_)
      · refine w_iload dX3_fillGains_45 rfl ?_
        refine w_aload_n dX3_fillGains_47 rfl ?_
        refine w_aload_n dX3_fillGains_48 rfl ?_
        refine w_iload dX3_fillGains_49 rfl ?_
        refine w_iconst dX3_fillGains_51 ?_
        refine w_callV (d := d + 1) (S := [aR 4 g, aI (h 18 p (7 * c + 2))]) [aI (c : Int), aI 0] dX3_fillGains_52 ml_X3_25 ok_X3_fact vi_X3_fact rfl rfl hp rfl (Nat.le_of_ble_eq_true rfl) ?_
        refine c_X3_fact (d := (d + 1)) p c 0 hp (by first | assumption | omega | decide) (by first | assumption | omega | decide) ?_
        show fwWP mX3_fillGains (d + 2) 55 [some (aR 5 p), some (aR 4 g), some (aR 20 p), some (aI (a : Int)), some (aI (fwPop (mBits (fun c => decide ((h 4 g 2) ≤ (h 17 g) c)) (h 4 g 1).toNat))), some (aI (mMax (h 17 g) (h 4 g 1).toNat)), some (aI (c : Int)), some (aI (h 18 p (7 * c + 2))), none, none] [aI (h 18 p (7 * c)), aR 4 g, aI (h 18 p (7 * c + 2))] (fwUc h 20 p (fwFlA (mGain (h 4 g 1) (h 17 g) (h 4 g 2) (h 18 p)) (h 20 p) a c)) Q
        refine w_callV (d := d + 1) (S := [aI (h 18 p (7 * c + 2))]) [aI (h 18 p (7 * c))] dX3_fillGains_55 ml_X3_52 ok_X1_lightOf vi_X1_lightOf rfl rfl hg rfl (Nat.le_of_ble_eq_true rfl) ?_
        refine c_X1_lightOf (d := d) g (h 18 p (7 * c)) hg (by first | assumption | omega | decide) (by first | assumption | omega | decide) ?_
        show fwWP mX3_fillGains (d + 2) 58 [some (aR 5 p), some (aR 4 g), some (aR 20 p), some (aI (a : Int)), some (aI (fwPop (mBits (fun c => decide ((h 4 g 2) ≤ (h 17 g) c)) (h 4 g 1).toNat))), some (aI (mMax (h 17 g) (h 4 g 1).toNat)), some (aI (c : Int)), some (aI (h 18 p (7 * c + 2))), none, none] [aI (18 - mSh (h 4 g 1) (h 17 g) (h 18 p (7 * c)) (-1) - mSh (h 4 g 1) (h 17 g) (h 18 p (7 * c)) 1), aI (h 18 p (7 * c + 2))] (fwUc h 20 p (fwFlA (mGain (h 4 g 1) (h 17 g) (h 4 g 2) (h 18 p)) (h 20 p) a c)) Q
        have hs5 := mSh_rng (n := (h 4 g 1)) (H := (h 17 g)) (x := (h 18 p (7 * c))) (st := -1) (by omega) (by assumption)
        have hs6 := mSh_rng (n := (h 4 g 1)) (H := (h 17 g)) (x := (h 18 p (7 * c))) (st := 1) (by omega) (by assumption)
        refine w_imul dX3_fillGains_58 ?_
        exact J59 _ rfl
      · refine w_iconst dX3_fillGains_41 ?_
        refine w_goto 59 dX3_fillGains_42 (by decide) ?_
        exact J59 _ (by rw [c38, Int.zero_mul])
  refine lp18 0 (Nat.zero_le _) _ _ ?_ ?_
  · exact (by omega)
  · exact (by rw [fwFlA_0, fwUc_self])
set_option maxRecDepth 100000 in
set_option maxHeartbeats 4000000 in
theorem c_fillGains26 {d : Nat} {h : fwH} {Q : Option fwV → fwH → Prop} (p g a : Nat) (hp : p < 5) (hg : g < 6) (hP : pOk h p) (hG : gOk h g) (ha : a + 8 ≤ 80) (k : Q none (fwUc h 26 0 (fwFlA (mGain (h 4 g 1) (h 17 g) (h 4 g 2) (h 18 p)) (h 26 0) a (h 5 p 3).toNat))) : fwCt mX3_fillGains (d + 2) [aR 5 p, aR 4 g, aR 26 0, aI (a : Int)] h Q := by
  refine fwCt_of [some (aR 5 p), some (aR 4 g), some (aR 26 0), some (aI (a : Int)), none, none, none, none, none, none] rfl rfl rfl ?_
  obtain ⟨⟨p1, p2⟩, p3⟩ := id hP
  obtain ⟨⟨g1, g2⟩, ⟨g3, g4⟩, ⟨g5, g6⟩, g7, g8⟩ := id hG
  refine w_aload_n dX3_fillGains_0 rfl ?_
  refine w_callV (d := d + 1) (S := []) [] dX3_fillGains_1 ml_X3_37 ok_X1_snowyCells vi_X1_snowyCells rfl rfl hg rfl (Nat.le_of_ble_eq_true rfl) ?_
  refine c_X1_snowyCells (d := d) g  hg (by first | assumption | omega | decide) ?_
  show fwWP mX3_fillGains (d + 2) 4 [some (aR 5 p), some (aR 4 g), some (aR 26 0), some (aI (a : Int)), none, none, none, none, none, none] [aI (mBits (fun c => decide ((h 4 g 2) ≤ (h 17 g) c)) (h 4 g 1).toNat)] h Q
  refine w_callS (d := d + 1) (S := []) [aI (mBits (fun c => decide ((h 4 g 2) ≤ (h 17 g) c)) (h 4 g 1).toNat)] dX3_fillGains_4 ml_X3_43 ok_J6_bitCount_0f7a4 st_J6_bitCount_0f7a4 rfl (Nat.le_of_ble_eq_true rfl) ?_
  refine c_bitCount (d := (d + 1)) (mBits (fun c => decide ((h 4 g 2) ≤ (h 17 g) c)) (h 4 g 1).toNat) ?_
  show fwWP mX3_fillGains (d + 2) 7 [some (aR 5 p), some (aR 4 g), some (aR 26 0), some (aI (a : Int)), none, none, none, none, none, none] [aI (fwPop (mBits (fun c => decide ((h 4 g 2) ≤ (h 17 g) c)) (h 4 g 1).toNat))] h Q
  refine w_istore [some (aR 5 p), some (aR 4 g), some (aR 26 0), some (aI (a : Int)), some (aI (fwPop (mBits (fun c => decide ((h 4 g 2) ≤ (h 17 g) c)) (h 4 g 1).toNat))), none, none, none, none, none] dX3_fillGains_7 rfl (by decide) ?_
  refine w_aload_n dX3_fillGains_9 rfl ?_
  refine w_callV (d := d + 1) (S := []) [] dX3_fillGains_10 ml_X3_49 ok_X1_topHeight vi_X1_topHeight rfl rfl hg rfl (Nat.le_of_ble_eq_true rfl) ?_
  refine c_X1_topHeight (d := d) g hg (by first | assumption | omega | decide) ?_
  show fwWP mX3_fillGains (d + 2) 13 [some (aR 5 p), some (aR 4 g), some (aR 26 0), some (aI (a : Int)), some (aI (fwPop (mBits (fun c => decide ((h 4 g 2) ≤ (h 17 g) c)) (h 4 g 1).toNat))), none, none, none, none, none] [aI (mMax (h 17 g) (h 4 g 1).toNat)] h Q
  refine w_istore [some (aR 5 p), some (aR 4 g), some (aR 26 0), some (aI (a : Int)), some (aI (fwPop (mBits (fun c => decide ((h 4 g 2) ≤ (h 17 g) c)) (h 4 g 1).toNat))), some (aI (mMax (h 17 g) (h 4 g 1).toNat)), none, none, none, none] dX3_fillGains_13 rfl (by decide) ?_
  refine w_iconst dX3_fillGains_15 ?_
  refine w_istore [some (aR 5 p), some (aR 4 g), some (aR 26 0), some (aI (a : Int)), some (aI (fwPop (mBits (fun c => decide ((h 4 g 2) ≤ (h 17 g) c)) (h 4 g 1).toNat))), some (aI (mMax (h 17 g) (h 4 g 1).toNat)), some (aI 0), none, none, none] dX3_fillGains_16 rfl (by decide) ?_
  have lp18 : ∀ c : Nat, c ≤ (h 5 p 3).toNat → ∀ (y18  : Int) (hh18 : fwH), y18 = (c : Int) → hh18 = (fwUc h 26 0 (fwFlA (mGain (h 4 g 1) (h 17 g) (h 4 g 2) (h 18 p)) (h 26 0) a c)) → fwWP mX3_fillGains (d + 2) 18 [some (aR 5 p), some (aR 4 g), some (aR 26 0), some (aI (a : Int)), some (aI (fwPop (mBits (fun c => decide ((h 4 g 2) ≤ (h 17 g) c)) (h 4 g 1).toNat))), some (aI (mMax (h 17 g) (h 4 g 1).toNat)), some (aI y18), none, none, none] [] hh18 Q := by
    refine fw_up (fun c hc18 ih18 => ?_)
    intro y18  hh18 ey18 eh18
    subst ey18
    subst eh18
    show fwWP mX3_fillGains (d + 2) 18 [some (aR 5 p), some (aR 4 g), some (aR 26 0), some (aI (a : Int)), some (aI (fwPop (mBits (fun c => decide ((h 4 g 2) ≤ (h 17 g) c)) (h 4 g 1).toNat))), some (aI (mMax (h 17 g) (h 4 g 1).toNat)), some (aI (c : Int)), none, none, none] [] (fwUc h 26 0 (fwFlA (mGain (h 4 g 1) (h 17 g) (h 4 g 2) (h 18 p)) (h 26 0) a c)) Q
    refine w_iload dX3_fillGains_18 rfl ?_
    refine w_aload_n dX3_fillGains_20 rfl ?_
    refine w_getiE (v := h 5 p 3) dX3_fillGains_21 fl_X3_21 rfl hp (by first | rfl | simp [fwUp, fwUc]) ?_
    refine w_icmp_ge 113 dX3_fillGains_24 (by decide) (by omega) (by omega) (fun c24 => ?_) (fun c24 => ?_)
    · have ec18 : (h 5 p 3).toNat = c := by omega
      subst ec18
      exact w_vret dX3_fillGains_113 rfl (k)
    · have hf := p3 c (by omega)
      refine w_aload_n dX3_fillGains_27 rfl ?_
      refine w_iload dX3_fillGains_28 rfl ?_
      refine w_iconst dX3_fillGains_30 ?_
      refine w_callV (d := d + 1) (S := []) [aI (c : Int), aI 2] dX3_fillGains_31 ml_X3_25 ok_X3_fact vi_X3_fact rfl rfl hp rfl (Nat.le_of_ble_eq_true rfl) ?_
      refine c_X3_fact (d := (d + 1)) p c 2 hp (by first | assumption | omega | decide) (by first | assumption | omega | decide) ?_
      show fwWP mX3_fillGains (d + 2) 34 [some (aR 5 p), some (aR 4 g), some (aR 26 0), some (aI (a : Int)), some (aI (fwPop (mBits (fun c => decide ((h 4 g 2) ≤ (h 17 g) c)) (h 4 g 1).toNat))), some (aI (mMax (h 17 g) (h 4 g 1).toNat)), some (aI (c : Int)), none, none, none] [aI (h 18 p (7 * c + 2))] (fwUc h 26 0 (fwFlA (mGain (h 4 g 1) (h 17 g) (h 4 g 2) (h 18 p)) (h 26 0) a c)) Q
      refine w_istore [some (aR 5 p), some (aR 4 g), some (aR 26 0), some (aI (a : Int)), some (aI (fwPop (mBits (fun c => decide ((h 4 g 2) ≤ (h 17 g) c)) (h 4 g 1).toNat))), some (aI (mMax (h 17 g) (h 4 g 1).toNat)), some (aI (c : Int)), some (aI (h 18 p (7 * c + 2))), none, none] dX3_fillGains_34 rfl (by decide) ?_
      have J59 : ∀ v : Int, v = h 18 p (7 * c + 2) * (18 - mSh (h 4 g 1) (h 17 g) (h 18 p (7 * c)) (-1) - mSh (h 4 g 1) (h 17 g) (h 18 p (7 * c)) 1) → fwWP mX3_fillGains (d + 2) 59 [some (aR 5 p), some (aR 4 g), some (aR 26 0), some (aI (a : Int)), some (aI (fwPop (mBits (fun c => decide ((h 4 g 2) ≤ (h 17 g) c)) (h 4 g 1).toNat))), some (aI (mMax (h 17 g) (h 4 g 1).toNat)), some (aI (c : Int)), some (aI (h 18 p (7 * c + 2))), none, none] [aI v] (fwUc h 26 0 (fwFlA (mGain (h 4 g 1) (h 17 g) (h 4 g 2) (h 18 p)) (h 26 0) a c)) Q := by
        intro v ev
        subst ev
        refine w_istore [some (aR 5 p), some (aR 4 g), some (aR 26 0), some (aI (a : Int)), some (aI (fwPop (mBits (fun c => decide ((h 4 g 2) ≤ (h 17 g) c)) (h 4 g 1).toNat))), some (aI (mMax (h 17 g) (h 4 g 1).toNat)), some (aI (c : Int)), some (aI (h 18 p (7 * c + 2))), some (aI (h 18 p (7 * c + 2) * (18 - mSh (h 4 g 1) (h 17 g) (h 18 p (7 * c)) (-1) - mSh (h 4 g 1) (h 17 g) (h 18 p (7 * c)) 1))), none] dX3_fillGains_59 rfl (by decide) ?_
        refine w_iload_n dX3_fillGains_61 rfl ?_
        refine w_iload dX3_fillGains_62 rfl ?_
        refine w_iadd dX3_fillGains_64 ?_
        refine w_istore [some (aR 5 p), some (aR 4 g), some (aR 26 0), some (aI (a : Int)), some (aI (fwPop (mBits (fun c => decide ((h 4 g 2) ≤ (h 17 g) c)) (h 4 g 1).toNat))), some (aI (mMax (h 17 g) (h 4 g 1).toNat)), some (aI (c : Int)), some (aI (h 18 p (7 * c + 2))), some (aI (h 18 p (7 * c + 2) * (18 - mSh (h 4 g 1) (h 17 g) (h 18 p (7 * c)) (-1) - mSh (h 4 g 1) (h 17 g) (h 18 p (7 * c)) 1))), some (aI ((a : Int) + (c : Int)))] dX3_fillGains_65 rfl (by decide) ?_
        refine w_iload dX3_fillGains_67 rfl ?_
        refine w_if_lt 107 dX3_fillGains_69 (by decide) (by omega) (fun c69 => ?_) (fun c69 => ?_)
        · (exfalso; omega)
        · refine w_iload dX3_fillGains_72 rfl ?_
          refine w_aload_n dX3_fillGains_74 rfl ?_
          refine w_alen dX3_fillGains_75 rfl (by decide) (by decide) ?_
          refine w_icmp_ge 107 dX3_fillGains_76 (by decide) (by omega) (by omega) (fun c76 => ?_) (fun c76 => ?_)
          · (exfalso; omega)
          · refine w_aload_n dX3_fillGains_79 rfl ?_
            refine w_iload dX3_fillGains_80 rfl ?_
            refine w_iload dX3_fillGains_82 rfl ?_
            refine w_aload_n dX3_fillGains_84 rfl ?_
            refine w_iload dX3_fillGains_85 rfl ?_
            refine w_iconst dX3_fillGains_87 ?_
            refine w_callV (d := d + 1) (S := [aI (h 18 p (7 * c + 2) * (18 - mSh (h 4 g 1) (h 17 g) (h 18 p (7 * c)) (-1) - mSh (h 4 g 1) (h 17 g) (h 18 p (7 * c)) 1)), aI ((a : Int) + (c : Int)), aR 26 0]) [aI (c : Int), aI 3] dX3_fillGains_88 ml_X3_25 ok_X3_fact vi_X3_fact rfl rfl hp rfl (Nat.le_of_ble_eq_true rfl) ?_
            refine c_X3_fact (d := (d + 1)) p c 3 hp (by first | assumption | omega | decide) (by first | assumption | omega | decide) ?_
            show fwWP mX3_fillGains (d + 2) 91 [some (aR 5 p), some (aR 4 g), some (aR 26 0), some (aI (a : Int)), some (aI (fwPop (mBits (fun c => decide ((h 4 g 2) ≤ (h 17 g) c)) (h 4 g 1).toNat))), some (aI (mMax (h 17 g) (h 4 g 1).toNat)), some (aI (c : Int)), some (aI (h 18 p (7 * c + 2))), some (aI (h 18 p (7 * c + 2) * (18 - mSh (h 4 g 1) (h 17 g) (h 18 p (7 * c)) (-1) - mSh (h 4 g 1) (h 17 g) (h 18 p (7 * c)) 1))), some (aI ((a : Int) + (c : Int)))] [aI (h 18 p (7 * c + 3)), aI (h 18 p (7 * c + 2) * (18 - mSh (h 4 g 1) (h 17 g) (h 18 p (7 * c)) (-1) - mSh (h 4 g 1) (h 17 g) (h 18 p (7 * c)) 1)), aI ((a : Int) + (c : Int)), aR 26 0] (fwUc h 26 0 (fwFlA (mGain (h 4 g 1) (h 17 g) (h 4 g 2) (h 18 p)) (h 26 0) a c)) Q
            refine w_iload dX3_fillGains_91 rfl ?_
            refine w_imul dX3_fillGains_93 ?_
            refine w_iadd dX3_fillGains_94 ?_
            refine w_aload_n dX3_fillGains_95 rfl ?_
            refine w_iload dX3_fillGains_96 rfl ?_
            refine w_iconst dX3_fillGains_98 ?_
            refine w_callV (d := d + 1) (S := [aI ((h 18 p (7 * c + 2) * (18 - mSh (h 4 g 1) (h 17 g) (h 18 p (7 * c)) (-1) - mSh (h 4 g 1) (h 17 g) (h 18 p (7 * c)) 1)) + ((h 18 p (7 * c + 3)) * (fwPop (mBits (fun c => decide ((h 4 g 2) ≤ (h 17 g) c)) (h 4 g 1).toNat)))), aI ((a : Int) + (c : Int)), aR 26 0]) [aI (c : Int), aI 4] dX3_fillGains_99 ml_X3_25 ok_X3_fact vi_X3_fact rfl rfl hp rfl (Nat.le_of_ble_eq_true rfl) ?_
            refine c_X3_fact (d := (d + 1)) p c 4 hp (by first | assumption | omega | decide) (by first | assumption | omega | decide) ?_
            show fwWP mX3_fillGains (d + 2) 102 [some (aR 5 p), some (aR 4 g), some (aR 26 0), some (aI (a : Int)), some (aI (fwPop (mBits (fun c => decide ((h 4 g 2) ≤ (h 17 g) c)) (h 4 g 1).toNat))), some (aI (mMax (h 17 g) (h 4 g 1).toNat)), some (aI (c : Int)), some (aI (h 18 p (7 * c + 2))), some (aI (h 18 p (7 * c + 2) * (18 - mSh (h 4 g 1) (h 17 g) (h 18 p (7 * c)) (-1) - mSh (h 4 g 1) (h 17 g) (h 18 p (7 * c)) 1))), some (aI ((a : Int) + (c : Int)))] [aI (h 18 p (7 * c + 4)), aI ((h 18 p (7 * c + 2) * (18 - mSh (h 4 g 1) (h 17 g) (h 18 p (7 * c)) (-1) - mSh (h 4 g 1) (h 17 g) (h 18 p (7 * c)) 1)) + ((h 18 p (7 * c + 3)) * (fwPop (mBits (fun c => decide ((h 4 g 2) ≤ (h 17 g) c)) (h 4 g 1).toNat)))), aI ((a : Int) + (c : Int)), aR 26 0] (fwUc h 26 0 (fwFlA (mGain (h 4 g 1) (h 17 g) (h 4 g 2) (h 18 p)) (h 26 0) a c)) Q
            refine w_iload dX3_fillGains_102 rfl ?_
            refine w_imul dX3_fillGains_104 ?_
            refine w_iadd dX3_fillGains_105 ?_
            refine w_iast dX3_fillGains_106 rfl (by decide) (by omega) (by omega) ?_
            refine w_iinc [some (aR 5 p), some (aR 4 g), some (aR 26 0), some (aI (a : Int)), some (aI (fwPop (mBits (fun c => decide ((h 4 g 2) ≤ (h 17 g) c)) (h 4 g 1).toNat))), some (aI (mMax (h 17 g) (h 4 g 1).toNat)), some (aI ((c : Int) + 1)), some (aI (h 18 p (7 * c + 2))), some (aI (h 18 p (7 * c + 2) * (18 - mSh (h 4 g 1) (h 17 g) (h 18 p (7 * c)) (-1) - mSh (h 4 g 1) (h 17 g) (h 18 p (7 * c)) 1))), some (aI ((a : Int) + (c : Int)))] dX3_fillGains_107 rfl rfl (by decide) ?_
            refine w_goto 18 dX3_fillGains_110 (by decide) ?_
            refine w_drop [7, 8, 9] [some (aR 5 p), some (aR 4 g), some (aR 26 0), some (aI (a : Int)), some (aI (fwPop (mBits (fun c => decide ((h 4 g 2) ≤ (h 17 g) c)) (h 4 g 1).toNat))), some (aI (mMax (h 17 g) (h 4 g 1).toNat)), some (aI ((c : Int) + 1)), none, none, none] rfl ?_
            refine ih18 (by omega) _ _ ?_ ?_
            · exact (by omega)
            · exact (by rw [fwUp_uc, show ((a : Int) + (c : Int)).toNat = a + c by omega]; exact congrArg _ (fwFlA_succ (mGain (h 4 g 1) (h 17 g) (h 4 g 2) (h 18 p)) (h 26 0) a c))
      refine w_iload dX3_fillGains_36 rfl ?_
      refine w_if_ne 45 dX3_fillGains_38 (by decide) (by omega) (fun c38 => ?_) (fun c38 => ?_)
      · refine w_iload dX3_fillGains_45 rfl ?_
        refine w_aload_n dX3_fillGains_47 rfl ?_
        refine w_aload_n dX3_fillGains_48 rfl ?_
        refine w_iload dX3_fillGains_49 rfl ?_
        refine w_iconst dX3_fillGains_51 ?_
        refine w_callV (d := d + 1) (S := [aR 4 g, aI (h 18 p (7 * c + 2))]) [aI (c : Int), aI 0] dX3_fillGains_52 ml_X3_25 ok_X3_fact vi_X3_fact rfl rfl hp rfl (Nat.le_of_ble_eq_true rfl) ?_
        refine c_X3_fact (d := (d + 1)) p c 0 hp (by first | assumption | omega | decide) (by first | assumption | omega | decide) ?_
        show fwWP mX3_fillGains (d + 2) 55 [some (aR 5 p), some (aR 4 g), some (aR 26 0), some (aI (a : Int)), some (aI (fwPop (mBits (fun c => decide ((h 4 g 2) ≤ (h 17 g) c)) (h 4 g 1).toNat))), some (aI (mMax (h 17 g) (h 4 g 1).toNat)), some (aI (c : Int)), some (aI (h 18 p (7 * c + 2))), none, none] [aI (h 18 p (7 * c)), aR 4 g, aI (h 18 p (7 * c + 2))] (fwUc h 26 0 (fwFlA (mGain (h 4 g 1) (h 17 g) (h 4 g 2) (h 18 p)) (h 26 0) a c)) Q
        refine w_callV (d := d + 1) (S := [aI (h 18 p (7 * c + 2))]) [aI (h 18 p (7 * c))] dX3_fillGains_55 ml_X3_52 ok_X1_lightOf vi_X1_lightOf rfl rfl hg rfl (Nat.le_of_ble_eq_true rfl) ?_
        refine c_X1_lightOf (d := d) g (h 18 p (7 * c)) hg (by first | assumption | omega | decide) (by first | assumption | omega | decide) ?_
        show fwWP mX3_fillGains (d + 2) 58 [some (aR 5 p), some (aR 4 g), some (aR 26 0), some (aI (a : Int)), some (aI (fwPop (mBits (fun c => decide ((h 4 g 2) ≤ (h 17 g) c)) (h 4 g 1).toNat))), some (aI (mMax (h 17 g) (h 4 g 1).toNat)), some (aI (c : Int)), some (aI (h 18 p (7 * c + 2))), none, none] [aI (18 - mSh (h 4 g 1) (h 17 g) (h 18 p (7 * c)) (-1) - mSh (h 4 g 1) (h 17 g) (h 18 p (7 * c)) 1), aI (h 18 p (7 * c + 2))] (fwUc h 26 0 (fwFlA (mGain (h 4 g 1) (h 17 g) (h 4 g 2) (h 18 p)) (h 26 0) a c)) Q
        have hs5 := mSh_rng (n := (h 4 g 1)) (H := (h 17 g)) (x := (h 18 p (7 * c))) (st := -1) (by omega) (by assumption)
        have hs6 := mSh_rng (n := (h 4 g 1)) (H := (h 17 g)) (x := (h 18 p (7 * c))) (st := 1) (by omega) (by assumption)
        refine w_imul dX3_fillGains_58 ?_
        exact J59 _ rfl
      · refine w_iconst dX3_fillGains_41 ?_
        refine w_goto 59 dX3_fillGains_42 (by decide) ?_
        exact J59 _ (by rw [c38, Int.zero_mul])
  refine lp18 0 (Nat.zero_le _) _ _ ?_ ?_
  · exact (by omega)
  · exact (by rw [fwFlA_0, fwUc_self])
set_option maxRecDepth 100000 in
set_option maxHeartbeats 4000000 in
theorem c_X3_gainOn {d : Nat} {h : fwH} {Q : Option fwV → fwH → Prop} (p g f : Nat) (hp : p < 5) (hg : g < 6) (hP : pOk h p) (hG : gOk h g) (hf : (f : Int) < h 5 p 3) (k : ∀ A, Q (some (aI (mGain (h 4 g 1) (h 17 g) (h 4 g 2) (h 18 p) f))) (fwUc h 20 p A)) : fwCt mX3_gainOn (d + 3) [aR 5 p, aR 4 g, aI (f : Int)] h Q := by
  refine fwCt_of [some (aR 5 p), some (aR 4 g), some (aI (f : Int))] rfl rfl rfl ?_
  obtain ⟨⟨p1, p2⟩, p3⟩ := id hP
  obtain ⟨⟨g1, g2⟩, ⟨g3, g4⟩, ⟨g5, g6⟩, g7, g8⟩ := id hG
  refine w_aload_n dX3_gainOn_0 rfl ?_
  refine w_aload_n dX3_gainOn_1 rfl ?_
  refine w_aload_n dX3_gainOn_2 rfl ?_
  refine w_getr 20 p dX3_gainOn_3 fl_X3_18 rfl hp ?_
  refine w_iconst dX3_gainOn_6 ?_
  refine w_callV (d := d + 2) (S := []) [aR 4 g, aR 20 p, aI 0] dX3_gainOn_7 ml_X3_33 ok_X3_fillGains vi_X3_fillGains rfl rfl hp rfl (Nat.le_of_ble_eq_true rfl) ?_
  refine c_fillGains20 (d := d) p g 0 hp hg (by first | assumption | omega | decide) (by first | assumption | omega | decide) (by first | assumption | omega | decide) ?_
  show fwWP mX3_gainOn (d + 3) 10 [some (aR 5 p), some (aR 4 g), some (aI (f : Int))] [] (fwUc h 20 p (fwFlA (mGain (h 4 g 1) (h 17 g) (h 4 g 2) (h 18 p)) (h 20 p) 0 (h 5 p 3).toNat)) Q
  refine w_iload_n dX3_gainOn_10 rfl ?_
  refine w_if_lt 29 dX3_gainOn_11 (by decide) (by omega) (fun c11 => ?_) (fun c11 => ?_)
  · (exfalso; omega)
  · refine w_iload_n dX3_gainOn_14 rfl ?_
    refine w_bipush dX3_gainOn_15 rfl ?_
    refine w_icmp_ge 29 dX3_gainOn_17 (by decide) (by omega) (by omega) (fun c17 => ?_) (fun c17 => ?_)
    · (exfalso; omega)
    · refine w_aload_n dX3_gainOn_20 rfl ?_
      refine w_getr 20 p dX3_gainOn_21 fl_X3_18 rfl hp ?_
      refine w_iload_n dX3_gainOn_24 rfl ?_
      refine w_ialdE (v := mGain (h 4 g 1) (h 17 g) (h 4 g 2) (h 18 p) f) dX3_gainOn_25 rfl hp (by omega) (by omega) (by rw [fwUc_at]; exact fwFlA_in0 (by omega)) ?_
      refine w_goto 30 dX3_gainOn_26 (by decide) ?_
      exact w_iret dX3_gainOn_30 rfl (k _)
set_option maxRecDepth 100000 in
set_option maxHeartbeats 4000000 in
theorem c_X3_gainsOn {d : Nat} {h : fwH} {Q : Option fwV → fwH → Prop} (p g : Nat) (hp : p < 5) (hg : g < 6) (hP : pOk h p) (hG : gOk h g) (k : ∀ A, Q (some (aI (mSum (mGain (h 4 g 1) (h 17 g) (h 4 g 2) (h 18 p)) (h 5 p 3).toNat))) (fwUc h 20 p A)) : fwCt mX3_gainsOn (d + 3) [aR 5 p, aR 4 g] h Q := by
  refine fwCt_of [some (aR 5 p), some (aR 4 g), none, none] rfl rfl rfl ?_
  obtain ⟨⟨p1, p2⟩, p3⟩ := id hP
  obtain ⟨⟨g1, g2⟩, ⟨g3, g4⟩, ⟨g5, g6⟩, g7, g8⟩ := id hG
  refine w_aload_n dX3_gainsOn_0 rfl ?_
  refine w_aload_n dX3_gainsOn_1 rfl ?_
  refine w_aload_n dX3_gainsOn_2 rfl ?_
  refine w_getr 20 p dX3_gainsOn_3 fl_X3_18 rfl hp ?_
  refine w_iconst dX3_gainsOn_6 ?_
  refine w_callV (d := d + 2) (S := []) [aR 4 g, aR 20 p, aI 0] dX3_gainsOn_7 ml_X3_33 ok_X3_fillGains vi_X3_fillGains rfl rfl hp rfl (Nat.le_of_ble_eq_true rfl) ?_
  refine c_fillGains20 (d := d) p g 0 hp hg (by first | assumption | omega | decide) (by first | assumption | omega | decide) (by first | assumption | omega | decide) ?_
  show fwWP mX3_gainsOn (d + 3) 10 [some (aR 5 p), some (aR 4 g), none, none] [] (fwUc h 20 p (fwFlA (mGain (h 4 g 1) (h 17 g) (h 4 g 2) (h 18 p)) (h 20 p) 0 (h 5 p 3).toNat)) Q
  refine w_iconst dX3_gainsOn_10 ?_
  refine w_istore_n [some (aR 5 p), some (aR 4 g), some (aI 0), none] dX3_gainsOn_11 rfl (by decide) ?_
  refine w_iconst dX3_gainsOn_12 ?_
  refine w_istore_n [some (aR 5 p), some (aR 4 g), some (aI 0), some (aI 0)] dX3_gainsOn_13 rfl (by decide) ?_
  have lp14 : ∀ c : Nat, c ≤ (h 5 p 3).toNat → ∀ (y14 su : Int), y14 = (c : Int) → su = mSum (mGain (h 4 g 1) (h 17 g) (h 4 g 2) (h 18 p)) c → fwWP mX3_gainsOn (d + 3) 14 [some (aR 5 p), some (aR 4 g), some (aI su), some (aI y14)] [] (fwUc h 20 p (fwFlA (mGain (h 4 g 1) (h 17 g) (h 4 g 2) (h 18 p)) (h 20 p) 0 (h 5 p 3).toNat)) Q := by
    refine fw_up (fun c hc14 ih14 => ?_)
    intro y14 su ey14 e_su
    subst ey14
    subst e_su
    show fwWP mX3_gainsOn (d + 3) 14 [some (aR 5 p), some (aR 4 g), some (aI (mSum (mGain (h 4 g 1) (h 17 g) (h 4 g 2) (h 18 p)) c)), some (aI (c : Int))] [] (fwUc h 20 p (fwFlA (mGain (h 4 g 1) (h 17 g) (h 4 g 2) (h 18 p)) (h 20 p) 0 (h 5 p 3).toNat)) Q
    refine w_iload_n dX3_gainsOn_14 rfl ?_
    refine w_aload_n dX3_gainsOn_15 rfl ?_
    refine w_getiE (v := h 5 p 3) dX3_gainsOn_16 fl_X3_21 rfl hp rfl ?_
    refine w_icmp_ge 43 dX3_gainsOn_19 (by decide) (by omega) (by omega) (fun c19 => ?_) (fun c19 => ?_)
    · have ec14 : (h 5 p 3).toNat = c := by omega
      subst ec14
      refine w_iload_n dX3_gainsOn_43 rfl ?_
      exact w_iret dX3_gainsOn_44 rfl (k _)
    · refine w_iload_n dX3_gainsOn_22 rfl ?_
      refine w_bipush dX3_gainsOn_23 rfl ?_
      refine w_icmp_ge 43 dX3_gainsOn_25 (by decide) (by omega) (by omega) (fun c25 => ?_) (fun c25 => ?_)
      · (exfalso; omega)
      · refine w_iload_n dX3_gainsOn_28 rfl ?_
        refine w_aload_n dX3_gainsOn_29 rfl ?_
        refine w_getr 20 p dX3_gainsOn_30 fl_X3_18 rfl hp ?_
        refine w_iload_n dX3_gainsOn_33 rfl ?_
        refine w_ialdE (v := mGain (h 4 g 1) (h 17 g) (h 4 g 2) (h 18 p) c) dX3_gainsOn_34 rfl hp (by omega) (by omega) (by rw [fwUc_at]; exact fwFlA_in0 (by omega)) ?_
        refine w_iadd dX3_gainsOn_35 ?_
        refine w_istore_n [some (aR 5 p), some (aR 4 g), some (aI ((mSum (mGain (h 4 g 1) (h 17 g) (h 4 g 2) (h 18 p)) c) + (mGain (h 4 g 1) (h 17 g) (h 4 g 2) (h 18 p) c))), some (aI (c : Int))] dX3_gainsOn_36 rfl (by decide) ?_
        refine w_iinc [some (aR 5 p), some (aR 4 g), some (aI ((mSum (mGain (h 4 g 1) (h 17 g) (h 4 g 2) (h 18 p)) c) + (mGain (h 4 g 1) (h 17 g) (h 4 g 2) (h 18 p) c))), some (aI ((c : Int) + 1))] dX3_gainsOn_37 rfl rfl (by decide) ?_
        refine w_goto 14 dX3_gainsOn_40 (by decide) ?_
        refine ih14 (by omega) _ _ ?_ ?_
        · exact (by omega)
        · exact rfl
  refine lp14 0 (Nat.zero_le _) _ _ ?_ ?_
  · exact (by omega)
  · exact rfl
theorem gOk_set {h : fwH} {g : Nat} {H' : Nat → Int} (hG : gOk h g) (hH : ∀ c : Nat, c < 10 → 0 ≤ H' c ∧ H' c ≤ 1000) : gOk (fwUc h 17 g H') g := by
  obtain ⟨a1, a2, a3, a4, a5⟩ := hG
  refine ⟨a1, a2, a3, a4, ?_⟩
  rw [fwUc_at]
  exact hH
theorem fwFu_rng {H : Nat → Int} {t : Nat} {v : Int} (hH : ∀ c : Nat, c < 10 → 0 ≤ H c ∧ H c ≤ 1000) (hv : 0 ≤ v ∧ v ≤ 1000) : ∀ c : Nat, c < 10 → 0 ≤ fwFu H t v c ∧ fwFu H t v c ≤ 1000 := by
  intro c hc
  unfold fwFu
  split
  · exact hv
  · exact hH c hc
theorem fwFu_back (H : Nat → Int) (t : Nat) (y : Int) : fwFu (fwFu H t (H t + y)) t (fwFu H t (H t + y) t + -y) = H := by
  funext s
  unfold fwFu
  by_cases e : s = t
  · subst e
    simp
    omega
  · simp [e]
/-- who gains by feet on TOP -/
def mGers (n : Int) (H : Nat → Int) (sl ls : Int) (F : Nat → Int) (sz : Nat) (y : Int) : Int :=
  if H (mTop H ls n.toNat).toNat + y < 0 then 0 else mBits (fun f => decide (mGain n H sl F f < mGain n (fwFu H (mTop H ls n.toNat).toNat (H (mTop H ls n.toNat).toNat + y)) sl F f)) sz
set_option maxRecDepth 100000 in
set_option maxHeartbeats 4000000 in
theorem c_X3_gainersBy0 {d : Nat} {h : fwH} {Q : Option fwV → fwH → Prop} (y : Int) (hP : pOk h 0) (hG : gOk h 0) (hn : 1 ≤ h 4 0 1) (hM : ∀ c : Nat, c < 10 → h 17 0 c ≤ 999) (hy : y = 1 ∨ y = -1) (k : ∀ A B, Q (some (aI (mGers (h 4 0 1) (h 17 0) (h 4 0 2) (h 4 0 4) (h 18 0) (h 5 0 3).toNat y))) (fwUc (fwUc h 19 0 A) 20 0 B)) : fwCt mX3_gainersBy (d + 3) [aR 5 0, aR 4 0, aI y] h Q := by
  refine fwCt_of [some (aR 5 0), some (aR 4 0), some (aI y), none, none, none] rfl rfl rfl ?_
  obtain ⟨⟨p1, p2⟩, p3⟩ := id hP
  obtain ⟨⟨g1, g2⟩, ⟨g3, g4⟩, ⟨g5, g6⟩, g7, g8⟩ := id hG
  refine w_aload_n dX3_gainersBy_0 rfl ?_
  refine w_callV (d := d + 2) (S := []) [] dX3_gainersBy_1 ml_X3_55 ok_X1_topCell vi_X1_topCell rfl rfl (by decide) rfl (Nat.le_of_ble_eq_true rfl) ?_
  refine c_X1_topCell (d := (d + 1)) 0 (by decide) (by first | assumption | omega | decide) ?_
  show fwWP mX3_gainersBy (d + 3) 4 [some (aR 5 0), some (aR 4 0), some (aI y), none, none, none] [aI (mTop (h 17 0) (h 4 0 4) (h 4 0 1).toNat)] h Q
  refine w_istore_n [some (aR 5 0), some (aR 4 0), some (aI y), some (aI (mTop (h 17 0) (h 4 0 4) (h 4 0 1).toNat)), none, none] dX3_gainersBy_4 rfl (by decide) ?_
  have ht := mTop_rng (h 17 0) (h 4 0 4) (h 4 0 1).toNat
  have hb0 := g8 (mTop (h 17 0) (h 4 0 4) (h 4 0 1).toNat).toNat (by omega)
  have hb9 := hM (mTop (h 17 0) (h 4 0 4) (h 4 0 1).toNat).toNat (by omega)
  refine w_aload_n dX3_gainersBy_5 rfl ?_
  refine w_iload_n dX3_gainersBy_6 rfl ?_
  refine w_callV (d := d + 2) (S := []) [aI (mTop (h 17 0) (h 4 0 4) (h 4 0 1).toNat)] dX3_gainersBy_7 ml_X3_58 ok_X1_heightOf vi_X1_heightOf rfl rfl (by decide) rfl (Nat.le_of_ble_eq_true rfl) ?_
  refine c_X1_heightOfE (d := (d + 2)) 0 (mTop (h 17 0) (h 4 0 4) (h 4 0 1).toNat) (h 17 0 (mTop (h 17 0) (h 4 0 4) (h 4 0 1).toNat).toNat) (by decide) (by first | assumption | omega | decide) (by first | assumption | omega | decide) (by unfold hOf; rw [if_pos (by omega)]) ?_
  show fwWP mX3_gainersBy (d + 3) 10 [some (aR 5 0), some (aR 4 0), some (aI y), some (aI (mTop (h 17 0) (h 4 0 4) (h 4 0 1).toNat)), none, none] [aI (h 17 0 (mTop (h 17 0) (h 4 0 4) (h 4 0 1).toNat).toNat)] h Q
  refine w_iload_n dX3_gainersBy_10 rfl ?_
  refine w_iadd dX3_gainersBy_11 ?_
  refine w_if_ge 17 dX3_gainersBy_12 (by decide) (by omega) (fun c12 => ?_) (fun c12 => ?_)
  · refine w_aload_n dX3_gainersBy_17 rfl ?_
    refine w_aload_n dX3_gainersBy_18 rfl ?_
    refine w_aload_n dX3_gainersBy_19 rfl ?_
    refine w_getr 19 0 dX3_gainersBy_20 fl_X3_15 rfl (by decide) ?_
    refine w_iconst dX3_gainersBy_23 ?_
    refine w_callV (d := d + 2) (S := []) [aR 4 0, aR 19 0, aI 0] dX3_gainersBy_24 ml_X3_33 ok_X3_fillGains vi_X3_fillGains rfl rfl (by decide) rfl (Nat.le_of_ble_eq_true rfl) ?_
    refine c_fillGains19 (d := d) 0 0 0 (by decide) (by decide) (by first | assumption | omega | decide) (by first | assumption | omega | decide) (by first | assumption | omega | decide) ?_
    show fwWP mX3_gainersBy (d + 3) 27 [some (aR 5 0), some (aR 4 0), some (aI y), some (aI (mTop (h 17 0) (h 4 0 4) (h 4 0 1).toNat)), none, none] [] (fwUc h 19 0 (fwFlA (mGain (h 4 0 1) (h 17 0) (h 4 0 2) (h 18 0)) (h 19 0) 0 (h 5 0 3).toNat)) Q
    refine w_aload_n dX3_gainersBy_27 rfl ?_
    refine w_iload_n dX3_gainersBy_28 rfl ?_
    refine w_iload_n dX3_gainersBy_29 rfl ?_
    refine w_callV (d := d + 2) (S := []) [aI (mTop (h 17 0) (h 4 0 4) (h 4 0 1).toNat), aI y] dX3_gainersBy_30 ml_X3_61 ok_X1_change vi_X1_change rfl rfl (by decide) rfl (Nat.le_of_ble_eq_true rfl) ?_
    refine c_X1_changeE (d := (d + 1)) 0 (mTop (h 17 0) (h 4 0 4) (h 4 0 1).toNat) y (by decide) (by first | assumption | omega | decide) (by first | assumption | omega | decide) (show mTop (h 17 0) (h 4 0 4) (h 4 0 1).toNat < h 4 0 1 by first | assumption | omega | decide) ?_
    show fwWP mX3_gainersBy (d + 3) 33 [some (aR 5 0), some (aR 4 0), some (aI y), some (aI (mTop (h 17 0) (h 4 0 4) (h 4 0 1).toNat)), none, none] [] (fwUc (fwUc h 19 0 (fwFlA (mGain (h 4 0 1) (h 17 0) (h 4 0 2) (h 18 0)) (h 19 0) 0 (h 5 0 3).toNat)) 17 0 (fwFu (h 17 0) (mTop (h 17 0) (h 4 0 4) (h 4 0 1).toNat).toNat (h 17 0 (mTop (h 17 0) (h 4 0 4) (h 4 0 1).toNat).toNat + y))) Q
    rw [show fwUc (fwUc h 19 0 (fwFlA (mGain (h 4 0 1) (h 17 0) (h 4 0 2) (h 18 0)) (h 19 0) 0 (h 5 0 3).toNat)) 17 0 (fwFu (h 17 0) (mTop (h 17 0) (h 4 0 4) (h 4 0 1).toNat).toNat (h 17 0 (mTop (h 17 0) (h 4 0 4) (h 4 0 1).toNat).toNat + y)) = (fwUc (fwUc h 17 0 (fwFu (h 17 0) (mTop (h 17 0) (h 4 0 4) (h 4 0 1).toNat).toNat (h 17 0 (mTop (h 17 0) (h 4 0 4) (h 4 0 1).toNat).toNat + y))) 19 0 (fwFlA (mGain (h 4 0 1) (h 17 0) (h 4 0 2) (h 18 0)) (h 19 0) 0 (h 5 0 3).toNat)) from by funext a b; simp only [fwUc]; (repeat' split); all_goals first | rfl | (exfalso; omega)]
    have g8b := fwFu_rng (H := h 17 0) (t := (mTop (h 17 0) (h 4 0 4) (h 4 0 1).toNat).toNat) (v := h 17 0 (mTop (h 17 0) (h 4 0 4) (h 4 0 1).toNat).toNat + y) g8 (by omega)
    have hG2 := gOk_set hG g8b
    refine w_aload_n dX3_gainersBy_33 rfl ?_
    refine w_aload_n dX3_gainersBy_34 rfl ?_
    refine w_aload_n dX3_gainersBy_35 rfl ?_
    refine w_getr 20 0 dX3_gainersBy_36 fl_X3_18 rfl (by decide) ?_
    refine w_iconst dX3_gainersBy_39 ?_
    refine w_callV (d := d + 2) (S := []) [aR 4 0, aR 20 0, aI 0] dX3_gainersBy_40 ml_X3_33 ok_X3_fillGains vi_X3_fillGains rfl rfl (by decide) rfl (Nat.le_of_ble_eq_true rfl) ?_
    refine c_fillGains20 (d := d) 0 0 0 (by decide) (by decide) (by first | assumption | omega | decide) (by first | assumption | omega | decide) (by first | assumption | omega | decide) ?_
    show fwWP mX3_gainersBy (d + 3) 43 [some (aR 5 0), some (aR 4 0), some (aI y), some (aI (mTop (h 17 0) (h 4 0 4) (h 4 0 1).toNat)), none, none] [] (fwUc (fwUc (fwUc h 17 0 (fwFu (h 17 0) (mTop (h 17 0) (h 4 0 4) (h 4 0 1).toNat).toNat (h 17 0 (mTop (h 17 0) (h 4 0 4) (h 4 0 1).toNat).toNat + y))) 19 0 (fwFlA (mGain (h 4 0 1) (h 17 0) (h 4 0 2) (h 18 0)) (h 19 0) 0 (h 5 0 3).toNat)) 20 0 (fwFlA (mGain (h 4 0 1) (fwFu (h 17 0) (mTop (h 17 0) (h 4 0 4) (h 4 0 1).toNat).toNat (h 17 0 (mTop (h 17 0) (h 4 0 4) (h 4 0 1).toNat).toNat + y)) (h 4 0 2) (h 18 0)) (h 20 0) 0 (h 5 0 3).toNat)) Q
    refine w_aload_n dX3_gainersBy_43 rfl ?_
    refine w_iload_n dX3_gainersBy_44 rfl ?_
    refine w_iload_n dX3_gainersBy_45 rfl ?_
    refine w_ineg dX3_gainersBy_46 ?_
    refine w_callV (d := d + 2) (S := []) [aI (mTop (h 17 0) (h 4 0 4) (h 4 0 1).toNat), aI (-y)] dX3_gainersBy_47 ml_X3_61 ok_X1_change vi_X1_change rfl rfl (by decide) rfl (Nat.le_of_ble_eq_true rfl) ?_
    refine c_X1_changeE (d := (d + 1)) 0 (mTop (h 17 0) (h 4 0 4) (h 4 0 1).toNat) (-y) (by decide) (by first | assumption | omega | decide) (by first | assumption | omega | decide) (show mTop (h 17 0) (h 4 0 4) (h 4 0 1).toNat < h 4 0 1 by first | assumption | omega | decide) ?_
    show fwWP mX3_gainersBy (d + 3) 50 [some (aR 5 0), some (aR 4 0), some (aI y), some (aI (mTop (h 17 0) (h 4 0 4) (h 4 0 1).toNat)), none, none] [] (fwUc (fwUc (fwUc (fwUc h 17 0 (fwFu (h 17 0) (mTop (h 17 0) (h 4 0 4) (h 4 0 1).toNat).toNat (h 17 0 (mTop (h 17 0) (h 4 0 4) (h 4 0 1).toNat).toNat + y))) 19 0 (fwFlA (mGain (h 4 0 1) (h 17 0) (h 4 0 2) (h 18 0)) (h 19 0) 0 (h 5 0 3).toNat)) 20 0 (fwFlA (mGain (h 4 0 1) (fwFu (h 17 0) (mTop (h 17 0) (h 4 0 4) (h 4 0 1).toNat).toNat (h 17 0 (mTop (h 17 0) (h 4 0 4) (h 4 0 1).toNat).toNat + y)) (h 4 0 2) (h 18 0)) (h 20 0) 0 (h 5 0 3).toNat)) 17 0 (fwFu ((fwFu (h 17 0) (mTop (h 17 0) (h 4 0 4) (h 4 0 1).toNat).toNat (h 17 0 (mTop (h 17 0) (h 4 0 4) (h 4 0 1).toNat).toNat + y))) (mTop (h 17 0) (h 4 0 4) (h 4 0 1).toNat).toNat ((fwFu (h 17 0) (mTop (h 17 0) (h 4 0 4) (h 4 0 1).toNat).toNat (h 17 0 (mTop (h 17 0) (h 4 0 4) (h 4 0 1).toNat).toNat + y)) (mTop (h 17 0) (h 4 0 4) (h 4 0 1).toNat).toNat + (-y)))) Q
    rw [show fwUc (fwUc (fwUc (fwUc h 17 0 (fwFu (h 17 0) (mTop (h 17 0) (h 4 0 4) (h 4 0 1).toNat).toNat (h 17 0 (mTop (h 17 0) (h 4 0 4) (h 4 0 1).toNat).toNat + y))) 19 0 (fwFlA (mGain (h 4 0 1) (h 17 0) (h 4 0 2) (h 18 0)) (h 19 0) 0 (h 5 0 3).toNat)) 20 0 (fwFlA (mGain (h 4 0 1) (fwFu (h 17 0) (mTop (h 17 0) (h 4 0 4) (h 4 0 1).toNat).toNat (h 17 0 (mTop (h 17 0) (h 4 0 4) (h 4 0 1).toNat).toNat + y)) (h 4 0 2) (h 18 0)) (h 20 0) 0 (h 5 0 3).toNat)) 17 0 (fwFu ((fwFu (h 17 0) (mTop (h 17 0) (h 4 0 4) (h 4 0 1).toNat).toNat (h 17 0 (mTop (h 17 0) (h 4 0 4) (h 4 0 1).toNat).toNat + y))) (mTop (h 17 0) (h 4 0 4) (h 4 0 1).toNat).toNat ((fwFu (h 17 0) (mTop (h 17 0) (h 4 0 4) (h 4 0 1).toNat).toNat (h 17 0 (mTop (h 17 0) (h 4 0 4) (h 4 0 1).toNat).toNat + y)) (mTop (h 17 0) (h 4 0 4) (h 4 0 1).toNat).toNat + (-y))) = (fwUc (fwUc (fwUc h 17 0 (fwFu ((fwFu (h 17 0) (mTop (h 17 0) (h 4 0 4) (h 4 0 1).toNat).toNat (h 17 0 (mTop (h 17 0) (h 4 0 4) (h 4 0 1).toNat).toNat + y))) (mTop (h 17 0) (h 4 0 4) (h 4 0 1).toNat).toNat ((fwFu (h 17 0) (mTop (h 17 0) (h 4 0 4) (h 4 0 1).toNat).toNat (h 17 0 (mTop (h 17 0) (h 4 0 4) (h 4 0 1).toNat).toNat + y)) (mTop (h 17 0) (h 4 0 4) (h 4 0 1).toNat).toNat + (-y)))) 19 0 (fwFlA (mGain (h 4 0 1) (h 17 0) (h 4 0 2) (h 18 0)) (h 19 0) 0 (h 5 0 3).toNat)) 20 0 (fwFlA (mGain (h 4 0 1) (fwFu (h 17 0) (mTop (h 17 0) (h 4 0 4) (h 4 0 1).toNat).toNat (h 17 0 (mTop (h 17 0) (h 4 0 4) (h 4 0 1).toNat).toNat + y)) (h 4 0 2) (h 18 0)) (h 20 0) 0 (h 5 0 3).toNat)) from by funext a b; simp only [fwUc]; (repeat' split); all_goals first | rfl | (exfalso; omega)]
    rw [fwFu_back, fwUc_self]
    refine w_iconst dX3_gainersBy_50 ?_
    refine w_istore [some (aR 5 0), some (aR 4 0), some (aI y), some (aI (mTop (h 17 0) (h 4 0 4) (h 4 0 1).toNat)), some (aI 0), none] dX3_gainersBy_51 rfl (by decide) ?_
    refine w_iconst dX3_gainersBy_53 ?_
    refine w_istore [some (aR 5 0), some (aR 4 0), some (aI y), some (aI (mTop (h 17 0) (h 4 0 4) (h 4 0 1).toNat)), some (aI 0), some (aI 0)] dX3_gainersBy_54 rfl (by decide) ?_
    have lp56 : ∀ c : Nat, c ≤ (h 5 0 3).toNat → ∀ (y56 bi : Int), y56 = (c : Int) → bi = mBits (fun f => decide (mGain (h 4 0 1) (h 17 0) (h 4 0 2) (h 18 0) f < mGain (h 4 0 1) (fwFu (h 17 0) (mTop (h 17 0) (h 4 0 4) (h 4 0 1).toNat).toNat (h 17 0 (mTop (h 17 0) (h 4 0 4) (h 4 0 1).toNat).toNat + y)) (h 4 0 2) (h 18 0) f)) c → fwWP mX3_gainersBy (d + 3) 56 [some (aR 5 0), some (aR 4 0), some (aI y), some (aI (mTop (h 17 0) (h 4 0 4) (h 4 0 1).toNat)), some (aI bi), some (aI y56)] [] (fwUc (fwUc h 19 0 (fwFlA (mGain (h 4 0 1) (h 17 0) (h 4 0 2) (h 18 0)) (h 19 0) 0 (h 5 0 3).toNat)) 20 0 (fwFlA (mGain (h 4 0 1) (fwFu (h 17 0) (mTop (h 17 0) (h 4 0 4) (h 4 0 1).toNat).toNat (h 17 0 (mTop (h 17 0) (h 4 0 4) (h 4 0 1).toNat).toNat + y)) (h 4 0 2) (h 18 0)) (h 20 0) 0 (h 5 0 3).toNat)) Q := by
      refine fw_up (fun c hc56 ih56 => ?_)
      intro y56 bi ey56 e_bi
      subst ey56
      subst e_bi
      show fwWP mX3_gainersBy (d + 3) 56 [some (aR 5 0), some (aR 4 0), some (aI y), some (aI (mTop (h 17 0) (h 4 0 4) (h 4 0 1).toNat)), some (aI (mBits (fun f => decide (mGain (h 4 0 1) (h 17 0) (h 4 0 2) (h 18 0) f < mGain (h 4 0 1) (fwFu (h 17 0) (mTop (h 17 0) (h 4 0 4) (h 4 0 1).toNat).toNat (h 17 0 (mTop (h 17 0) (h 4 0 4) (h 4 0 1).toNat).toNat + y)) (h 4 0 2) (h 18 0) f)) c)), some (aI (c : Int))] [] (fwUc (fwUc h 19 0 (fwFlA (mGain (h 4 0 1) (h 17 0) (h 4 0 2) (h 18 0)) (h 19 0) 0 (h 5 0 3).toNat)) 20 0 (fwFlA (mGain (h 4 0 1) (fwFu (h 17 0) (mTop (h 17 0) (h 4 0 4) (h 4 0 1).toNat).toNat (h 17 0 (mTop (h 17 0) (h 4 0 4) (h 4 0 1).toNat).toNat + y)) (h 4 0 2) (h 18 0)) (h 20 0) 0 (h 5 0 3).toNat)) Q
      refine w_iload dX3_gainersBy_56 rfl ?_
      refine w_aload_n dX3_gainersBy_58 rfl ?_
      refine w_getiE (v := h 5 0 3) dX3_gainersBy_59 fl_X3_21 rfl (by decide) (by first | rfl | simp [fwUp, fwUc]) ?_
      refine w_icmp_ge 104 dX3_gainersBy_62 (by decide) (by omega) (by omega) (fun c62 => ?_) (fun c62 => ?_)
      · have ec56 : (h 5 0 3).toNat = c := by omega
        subst ec56
        refine w_iload dX3_gainersBy_104 rfl ?_
        exact w_iretE dX3_gainersBy_106 rfl (by rw [mGers, if_neg (by omega)]) (k _ _)
      · refine w_iload dX3_gainersBy_65 rfl ?_
        refine w_bipush dX3_gainersBy_67 rfl ?_
        refine w_icmp_ge 104 dX3_gainersBy_69 (by decide) (by omega) (by omega) (fun c69 => ?_) (fun c69 => ?_)
        · (exfalso; omega)
        · refine w_aload_n dX3_gainersBy_72 rfl ?_
          refine w_getr 20 0 dX3_gainersBy_73 fl_X3_18 rfl (by decide) ?_
          refine w_iload dX3_gainersBy_76 rfl ?_
          refine w_ialdE (v := mGain (h 4 0 1) (fwFu (h 17 0) (mTop (h 17 0) (h 4 0 4) (h 4 0 1).toNat).toNat (h 17 0 (mTop (h 17 0) (h 4 0 4) (h 4 0 1).toNat).toNat + y)) (h 4 0 2) (h 18 0) c) dX3_gainersBy_78 rfl (by decide) (by omega) (by omega) (by rw [fwUc_at]; exact fwFlA_in0 (by omega)) ?_
          refine w_aload_n dX3_gainersBy_79 rfl ?_
          refine w_getr 19 0 dX3_gainersBy_80 fl_X3_15 rfl (by decide) ?_
          refine w_iload dX3_gainersBy_83 rfl ?_
          refine w_ialdE (v := mGain (h 4 0 1) (h 17 0) (h 4 0 2) (h 18 0) c) dX3_gainersBy_85 rfl (by decide) (by omega) (by omega) (by first | (rw [fwUc_ne (by omega), fwUc_at]; exact fwFlA_in0 (by omega)) | (rw [fwUc_at]; exact fwFlA_in0 (by omega))) ?_
          have hf := p3 c (by omega)
          have hr1 := mGain_rng (n := h 4 0 1) (H := h 17 0) (sl := h 4 0 2) (F := h 18 0) (f := c) (by omega) g8 (by omega) (by omega) (by omega)
          have hr2 := mGain_rng (n := h 4 0 1) (H := fwFu (h 17 0) (mTop (h 17 0) (h 4 0 4) (h 4 0 1).toNat).toNat (h 17 0 (mTop (h 17 0) (h 4 0 4) (h 4 0 1).toNat).toNat + y)) (sl := h 4 0 2) (F := h 18 0) (f := c) (by omega) g8b (by omega) (by omega) (by omega)
          refine w_icmp_le 98 dX3_gainersBy_86 (by decide) (by omega) (by omega) (fun c86 => ?_) (fun c86 => ?_)
          · refine w_iinc [some (aR 5 0), some (aR 4 0), some (aI y), some (aI (mTop (h 17 0) (h 4 0 4) (h 4 0 1).toNat)), some (aI (mBits (fun f => decide (mGain (h 4 0 1) (h 17 0) (h 4 0 2) (h 18 0) f < mGain (h 4 0 1) (fwFu (h 17 0) (mTop (h 17 0) (h 4 0 4) (h 4 0 1).toNat).toNat (h 17 0 (mTop (h 17 0) (h 4 0 4) (h 4 0 1).toNat).toNat + y)) (h 4 0 2) (h 18 0) f)) c)), some (aI ((c : Int) + 1))] dX3_gainersBy_98 rfl rfl (by decide) ?_
            refine w_goto 56 dX3_gainersBy_101 (by decide) ?_
            refine ih56 (by omega) _ _ ?_ ?_
            · exact (by omega)
            · exact (by rw [mBits]; first | rw [if_pos (by simp only [decide_eq_true_eq]; omega)] | rw [if_neg (by simp only [decide_eq_true_eq]; omega)])
          · refine w_iload dX3_gainersBy_89 rfl ?_
            refine w_iconst dX3_gainersBy_91 ?_
            refine w_iload dX3_gainersBy_92 rfl ?_
            refine w_ishl dX3_gainersBy_94 ?_
            refine w_ior dX3_gainersBy_95 ?_
            refine w_istore [some (aR 5 0), some (aR 4 0), some (aI y), some (aI (mTop (h 17 0) (h 4 0 4) (h 4 0 1).toNat)), some (aI (fwOr (mBits (fun f => decide (mGain (h 4 0 1) (h 17 0) (h 4 0 2) (h 18 0) f < mGain (h 4 0 1) (fwFu (h 17 0) (mTop (h 17 0) (h 4 0 4) (h 4 0 1).toNat).toNat (h 17 0 (mTop (h 17 0) (h 4 0 4) (h 4 0 1).toNat).toNat + y)) (h 4 0 2) (h 18 0) f)) c) (fwShl 1 (c : Int)))), some (aI (c : Int))] dX3_gainersBy_96 rfl (by decide) ?_
            refine w_iinc [some (aR 5 0), some (aR 4 0), some (aI y), some (aI (mTop (h 17 0) (h 4 0 4) (h 4 0 1).toNat)), some (aI (fwOr (mBits (fun f => decide (mGain (h 4 0 1) (h 17 0) (h 4 0 2) (h 18 0) f < mGain (h 4 0 1) (fwFu (h 17 0) (mTop (h 17 0) (h 4 0 4) (h 4 0 1).toNat).toNat (h 17 0 (mTop (h 17 0) (h 4 0 4) (h 4 0 1).toNat).toNat + y)) (h 4 0 2) (h 18 0) f)) c) (fwShl 1 (c : Int)))), some (aI ((c : Int) + 1))] dX3_gainersBy_98 rfl rfl (by decide) ?_
            refine w_goto 56 dX3_gainersBy_101 (by decide) ?_
            refine ih56 (by omega) _ _ ?_ ?_
            · exact (by omega)
            · exact (by rw [mBits]; first | rw [if_pos (by simp only [decide_eq_true_eq]; omega)] | rw [if_neg (by simp only [decide_eq_true_eq]; omega)])
    refine lp56 0 (Nat.zero_le _) _ _ ?_ ?_
    · exact (by omega)
    · exact rfl
  · refine w_iconst dX3_gainersBy_15 ?_
    have k9 := k (h 19 0) (h 20 0)
    rw [mGers, if_pos (by omega), show fwUc (fwUc h 19 0 (h 19 0)) 20 0 (h 20 0) = h by rw [fwUc_self]; exact fwUc_self h 20 0] at k9
    exact w_iret dX3_gainersBy_16 rfl k9
set_option maxRecDepth 100000 in
set_option maxHeartbeats 4000000 in
theorem c_X3_gainersBy5 {d : Nat} {h : fwH} {Q : Option fwV → fwH → Prop} (y : Int) (hP : pOk h 0) (hG : gOk h 5) (hn : 1 ≤ h 4 5 1) (hM : ∀ c : Nat, c < 10 → h 17 5 c ≤ 999) (hy : y = 1 ∨ y = -1) (k : ∀ A B, Q (some (aI (mGers (h 4 5 1) (h 17 5) (h 4 5 2) (h 4 5 4) (h 18 0) (h 5 0 3).toNat y))) (fwUc (fwUc h 19 0 A) 20 0 B)) : fwCt mX3_gainersBy (d + 3) [aR 5 0, aR 4 5, aI y] h Q := by
  refine fwCt_of [some (aR 5 0), some (aR 4 5), some (aI y), none, none, none] rfl rfl rfl ?_
  obtain ⟨⟨p1, p2⟩, p3⟩ := id hP
  obtain ⟨⟨g1, g2⟩, ⟨g3, g4⟩, ⟨g5, g6⟩, g7, g8⟩ := id hG
  refine w_aload_n dX3_gainersBy_0 rfl ?_
  refine w_callV (d := d + 2) (S := []) [] dX3_gainersBy_1 ml_X3_55 ok_X1_topCell vi_X1_topCell rfl rfl (by decide) rfl (Nat.le_of_ble_eq_true rfl) ?_
  refine c_X1_topCell (d := (d + 1)) 5 (by decide) (by first | assumption | omega | decide) ?_
  show fwWP mX3_gainersBy (d + 3) 4 [some (aR 5 0), some (aR 4 5), some (aI y), none, none, none] [aI (mTop (h 17 5) (h 4 5 4) (h 4 5 1).toNat)] h Q
  refine w_istore_n [some (aR 5 0), some (aR 4 5), some (aI y), some (aI (mTop (h 17 5) (h 4 5 4) (h 4 5 1).toNat)), none, none] dX3_gainersBy_4 rfl (by decide) ?_
  have ht := mTop_rng (h 17 5) (h 4 5 4) (h 4 5 1).toNat
  have hb0 := g8 (mTop (h 17 5) (h 4 5 4) (h 4 5 1).toNat).toNat (by omega)
  have hb9 := hM (mTop (h 17 5) (h 4 5 4) (h 4 5 1).toNat).toNat (by omega)
  refine w_aload_n dX3_gainersBy_5 rfl ?_
  refine w_iload_n dX3_gainersBy_6 rfl ?_
  refine w_callV (d := d + 2) (S := []) [aI (mTop (h 17 5) (h 4 5 4) (h 4 5 1).toNat)] dX3_gainersBy_7 ml_X3_58 ok_X1_heightOf vi_X1_heightOf rfl rfl (by decide) rfl (Nat.le_of_ble_eq_true rfl) ?_
  refine c_X1_heightOfE (d := (d + 2)) 5 (mTop (h 17 5) (h 4 5 4) (h 4 5 1).toNat) (h 17 5 (mTop (h 17 5) (h 4 5 4) (h 4 5 1).toNat).toNat) (by decide) (by first | assumption | omega | decide) (by first | assumption | omega | decide) (by unfold hOf; rw [if_pos (by omega)]) ?_
  show fwWP mX3_gainersBy (d + 3) 10 [some (aR 5 0), some (aR 4 5), some (aI y), some (aI (mTop (h 17 5) (h 4 5 4) (h 4 5 1).toNat)), none, none] [aI (h 17 5 (mTop (h 17 5) (h 4 5 4) (h 4 5 1).toNat).toNat)] h Q
  refine w_iload_n dX3_gainersBy_10 rfl ?_
  refine w_iadd dX3_gainersBy_11 ?_
  refine w_if_ge 17 dX3_gainersBy_12 (by decide) (by omega) (fun c12 => ?_) (fun c12 => ?_)
  · refine w_aload_n dX3_gainersBy_17 rfl ?_
    refine w_aload_n dX3_gainersBy_18 rfl ?_
    refine w_aload_n dX3_gainersBy_19 rfl ?_
    refine w_getr 19 0 dX3_gainersBy_20 fl_X3_15 rfl (by decide) ?_
    refine w_iconst dX3_gainersBy_23 ?_
    refine w_callV (d := d + 2) (S := []) [aR 4 5, aR 19 0, aI 0] dX3_gainersBy_24 ml_X3_33 ok_X3_fillGains vi_X3_fillGains rfl rfl (by decide) rfl (Nat.le_of_ble_eq_true rfl) ?_
    refine c_fillGains19 (d := d) 0 5 0 (by decide) (by decide) (by first | assumption | omega | decide) (by first | assumption | omega | decide) (by first | assumption | omega | decide) ?_
    show fwWP mX3_gainersBy (d + 3) 27 [some (aR 5 0), some (aR 4 5), some (aI y), some (aI (mTop (h 17 5) (h 4 5 4) (h 4 5 1).toNat)), none, none] [] (fwUc h 19 0 (fwFlA (mGain (h 4 5 1) (h 17 5) (h 4 5 2) (h 18 0)) (h 19 0) 0 (h 5 0 3).toNat)) Q
    refine w_aload_n dX3_gainersBy_27 rfl ?_
    refine w_iload_n dX3_gainersBy_28 rfl ?_
    refine w_iload_n dX3_gainersBy_29 rfl ?_
    refine w_callV (d := d + 2) (S := []) [aI (mTop (h 17 5) (h 4 5 4) (h 4 5 1).toNat), aI y] dX3_gainersBy_30 ml_X3_61 ok_X1_change vi_X1_change rfl rfl (by decide) rfl (Nat.le_of_ble_eq_true rfl) ?_
    refine c_X1_changeE (d := (d + 1)) 5 (mTop (h 17 5) (h 4 5 4) (h 4 5 1).toNat) y (by decide) (by first | assumption | omega | decide) (by first | assumption | omega | decide) (show mTop (h 17 5) (h 4 5 4) (h 4 5 1).toNat < h 4 5 1 by first | assumption | omega | decide) ?_
    show fwWP mX3_gainersBy (d + 3) 33 [some (aR 5 0), some (aR 4 5), some (aI y), some (aI (mTop (h 17 5) (h 4 5 4) (h 4 5 1).toNat)), none, none] [] (fwUc (fwUc h 19 0 (fwFlA (mGain (h 4 5 1) (h 17 5) (h 4 5 2) (h 18 0)) (h 19 0) 0 (h 5 0 3).toNat)) 17 5 (fwFu (h 17 5) (mTop (h 17 5) (h 4 5 4) (h 4 5 1).toNat).toNat (h 17 5 (mTop (h 17 5) (h 4 5 4) (h 4 5 1).toNat).toNat + y))) Q
    rw [show fwUc (fwUc h 19 0 (fwFlA (mGain (h 4 5 1) (h 17 5) (h 4 5 2) (h 18 0)) (h 19 0) 0 (h 5 0 3).toNat)) 17 5 (fwFu (h 17 5) (mTop (h 17 5) (h 4 5 4) (h 4 5 1).toNat).toNat (h 17 5 (mTop (h 17 5) (h 4 5 4) (h 4 5 1).toNat).toNat + y)) = (fwUc (fwUc h 17 5 (fwFu (h 17 5) (mTop (h 17 5) (h 4 5 4) (h 4 5 1).toNat).toNat (h 17 5 (mTop (h 17 5) (h 4 5 4) (h 4 5 1).toNat).toNat + y))) 19 0 (fwFlA (mGain (h 4 5 1) (h 17 5) (h 4 5 2) (h 18 0)) (h 19 0) 0 (h 5 0 3).toNat)) from by funext a b; simp only [fwUc]; (repeat' split); all_goals first | rfl | (exfalso; omega)]
    have g8b := fwFu_rng (H := h 17 5) (t := (mTop (h 17 5) (h 4 5 4) (h 4 5 1).toNat).toNat) (v := h 17 5 (mTop (h 17 5) (h 4 5 4) (h 4 5 1).toNat).toNat + y) g8 (by omega)
    have hG2 := gOk_set hG g8b
    refine w_aload_n dX3_gainersBy_33 rfl ?_
    refine w_aload_n dX3_gainersBy_34 rfl ?_
    refine w_aload_n dX3_gainersBy_35 rfl ?_
    refine w_getr 20 0 dX3_gainersBy_36 fl_X3_18 rfl (by decide) ?_
    refine w_iconst dX3_gainersBy_39 ?_
    refine w_callV (d := d + 2) (S := []) [aR 4 5, aR 20 0, aI 0] dX3_gainersBy_40 ml_X3_33 ok_X3_fillGains vi_X3_fillGains rfl rfl (by decide) rfl (Nat.le_of_ble_eq_true rfl) ?_
    refine c_fillGains20 (d := d) 0 5 0 (by decide) (by decide) (by first | assumption | omega | decide) (by first | assumption | omega | decide) (by first | assumption | omega | decide) ?_
    show fwWP mX3_gainersBy (d + 3) 43 [some (aR 5 0), some (aR 4 5), some (aI y), some (aI (mTop (h 17 5) (h 4 5 4) (h 4 5 1).toNat)), none, none] [] (fwUc (fwUc (fwUc h 17 5 (fwFu (h 17 5) (mTop (h 17 5) (h 4 5 4) (h 4 5 1).toNat).toNat (h 17 5 (mTop (h 17 5) (h 4 5 4) (h 4 5 1).toNat).toNat + y))) 19 0 (fwFlA (mGain (h 4 5 1) (h 17 5) (h 4 5 2) (h 18 0)) (h 19 0) 0 (h 5 0 3).toNat)) 20 0 (fwFlA (mGain (h 4 5 1) (fwFu (h 17 5) (mTop (h 17 5) (h 4 5 4) (h 4 5 1).toNat).toNat (h 17 5 (mTop (h 17 5) (h 4 5 4) (h 4 5 1).toNat).toNat + y)) (h 4 5 2) (h 18 0)) (h 20 0) 0 (h 5 0 3).toNat)) Q
    refine w_aload_n dX3_gainersBy_43 rfl ?_
    refine w_iload_n dX3_gainersBy_44 rfl ?_
    refine w_iload_n dX3_gainersBy_45 rfl ?_
    refine w_ineg dX3_gainersBy_46 ?_
    refine w_callV (d := d + 2) (S := []) [aI (mTop (h 17 5) (h 4 5 4) (h 4 5 1).toNat), aI (-y)] dX3_gainersBy_47 ml_X3_61 ok_X1_change vi_X1_change rfl rfl (by decide) rfl (Nat.le_of_ble_eq_true rfl) ?_
    refine c_X1_changeE (d := (d + 1)) 5 (mTop (h 17 5) (h 4 5 4) (h 4 5 1).toNat) (-y) (by decide) (by first | assumption | omega | decide) (by first | assumption | omega | decide) (show mTop (h 17 5) (h 4 5 4) (h 4 5 1).toNat < h 4 5 1 by first | assumption | omega | decide) ?_
    show fwWP mX3_gainersBy (d + 3) 50 [some (aR 5 0), some (aR 4 5), some (aI y), some (aI (mTop (h 17 5) (h 4 5 4) (h 4 5 1).toNat)), none, none] [] (fwUc (fwUc (fwUc (fwUc h 17 5 (fwFu (h 17 5) (mTop (h 17 5) (h 4 5 4) (h 4 5 1).toNat).toNat (h 17 5 (mTop (h 17 5) (h 4 5 4) (h 4 5 1).toNat).toNat + y))) 19 0 (fwFlA (mGain (h 4 5 1) (h 17 5) (h 4 5 2) (h 18 0)) (h 19 0) 0 (h 5 0 3).toNat)) 20 0 (fwFlA (mGain (h 4 5 1) (fwFu (h 17 5) (mTop (h 17 5) (h 4 5 4) (h 4 5 1).toNat).toNat (h 17 5 (mTop (h 17 5) (h 4 5 4) (h 4 5 1).toNat).toNat + y)) (h 4 5 2) (h 18 0)) (h 20 0) 0 (h 5 0 3).toNat)) 17 5 (fwFu ((fwFu (h 17 5) (mTop (h 17 5) (h 4 5 4) (h 4 5 1).toNat).toNat (h 17 5 (mTop (h 17 5) (h 4 5 4) (h 4 5 1).toNat).toNat + y))) (mTop (h 17 5) (h 4 5 4) (h 4 5 1).toNat).toNat ((fwFu (h 17 5) (mTop (h 17 5) (h 4 5 4) (h 4 5 1).toNat).toNat (h 17 5 (mTop (h 17 5) (h 4 5 4) (h 4 5 1).toNat).toNat + y)) (mTop (h 17 5) (h 4 5 4) (h 4 5 1).toNat).toNat + (-y)))) Q
    rw [show fwUc (fwUc (fwUc (fwUc h 17 5 (fwFu (h 17 5) (mTop (h 17 5) (h 4 5 4) (h 4 5 1).toNat).toNat (h 17 5 (mTop (h 17 5) (h 4 5 4) (h 4 5 1).toNat).toNat + y))) 19 0 (fwFlA (mGain (h 4 5 1) (h 17 5) (h 4 5 2) (h 18 0)) (h 19 0) 0 (h 5 0 3).toNat)) 20 0 (fwFlA (mGain (h 4 5 1) (fwFu (h 17 5) (mTop (h 17 5) (h 4 5 4) (h 4 5 1).toNat).toNat (h 17 5 (mTop (h 17 5) (h 4 5 4) (h 4 5 1).toNat).toNat + y)) (h 4 5 2) (h 18 0)) (h 20 0) 0 (h 5 0 3).toNat)) 17 5 (fwFu ((fwFu (h 17 5) (mTop (h 17 5) (h 4 5 4) (h 4 5 1).toNat).toNat (h 17 5 (mTop (h 17 5) (h 4 5 4) (h 4 5 1).toNat).toNat + y))) (mTop (h 17 5) (h 4 5 4) (h 4 5 1).toNat).toNat ((fwFu (h 17 5) (mTop (h 17 5) (h 4 5 4) (h 4 5 1).toNat).toNat (h 17 5 (mTop (h 17 5) (h 4 5 4) (h 4 5 1).toNat).toNat + y)) (mTop (h 17 5) (h 4 5 4) (h 4 5 1).toNat).toNat + (-y))) = (fwUc (fwUc (fwUc h 17 5 (fwFu ((fwFu (h 17 5) (mTop (h 17 5) (h 4 5 4) (h 4 5 1).toNat).toNat (h 17 5 (mTop (h 17 5) (h 4 5 4) (h 4 5 1).toNat).toNat + y))) (mTop (h 17 5) (h 4 5 4) (h 4 5 1).toNat).toNat ((fwFu (h 17 5) (mTop (h 17 5) (h 4 5 4) (h 4 5 1).toNat).toNat (h 17 5 (mTop (h 17 5) (h 4 5 4) (h 4 5 1).toNat).toNat + y)) (mTop (h 17 5) (h 4 5 4) (h 4 5 1).toNat).toNat + (-y)))) 19 0 (fwFlA (mGain (h 4 5 1) (h 17 5) (h 4 5 2) (h 18 0)) (h 19 0) 0 (h 5 0 3).toNat)) 20 0 (fwFlA (mGain (h 4 5 1) (fwFu (h 17 5) (mTop (h 17 5) (h 4 5 4) (h 4 5 1).toNat).toNat (h 17 5 (mTop (h 17 5) (h 4 5 4) (h 4 5 1).toNat).toNat + y)) (h 4 5 2) (h 18 0)) (h 20 0) 0 (h 5 0 3).toNat)) from by funext a b; simp only [fwUc]; (repeat' split); all_goals first | rfl | (exfalso; omega)]
    rw [fwFu_back, fwUc_self]
    refine w_iconst dX3_gainersBy_50 ?_
    refine w_istore [some (aR 5 0), some (aR 4 5), some (aI y), some (aI (mTop (h 17 5) (h 4 5 4) (h 4 5 1).toNat)), some (aI 0), none] dX3_gainersBy_51 rfl (by decide) ?_
    refine w_iconst dX3_gainersBy_53 ?_
    refine w_istore [some (aR 5 0), some (aR 4 5), some (aI y), some (aI (mTop (h 17 5) (h 4 5 4) (h 4 5 1).toNat)), some (aI 0), some (aI 0)] dX3_gainersBy_54 rfl (by decide) ?_
    have lp56 : ∀ c : Nat, c ≤ (h 5 0 3).toNat → ∀ (y56 bi : Int), y56 = (c : Int) → bi = mBits (fun f => decide (mGain (h 4 5 1) (h 17 5) (h 4 5 2) (h 18 0) f < mGain (h 4 5 1) (fwFu (h 17 5) (mTop (h 17 5) (h 4 5 4) (h 4 5 1).toNat).toNat (h 17 5 (mTop (h 17 5) (h 4 5 4) (h 4 5 1).toNat).toNat + y)) (h 4 5 2) (h 18 0) f)) c → fwWP mX3_gainersBy (d + 3) 56 [some (aR 5 0), some (aR 4 5), some (aI y), some (aI (mTop (h 17 5) (h 4 5 4) (h 4 5 1).toNat)), some (aI bi), some (aI y56)] [] (fwUc (fwUc h 19 0 (fwFlA (mGain (h 4 5 1) (h 17 5) (h 4 5 2) (h 18 0)) (h 19 0) 0 (h 5 0 3).toNat)) 20 0 (fwFlA (mGain (h 4 5 1) (fwFu (h 17 5) (mTop (h 17 5) (h 4 5 4) (h 4 5 1).toNat).toNat (h 17 5 (mTop (h 17 5) (h 4 5 4) (h 4 5 1).toNat).toNat + y)) (h 4 5 2) (h 18 0)) (h 20 0) 0 (h 5 0 3).toNat)) Q := by
      refine fw_up (fun c hc56 ih56 => ?_)
      intro y56 bi ey56 e_bi
      subst ey56
      subst e_bi
      show fwWP mX3_gainersBy (d + 3) 56 [some (aR 5 0), some (aR 4 5), some (aI y), some (aI (mTop (h 17 5) (h 4 5 4) (h 4 5 1).toNat)), some (aI (mBits (fun f => decide (mGain (h 4 5 1) (h 17 5) (h 4 5 2) (h 18 0) f < mGain (h 4 5 1) (fwFu (h 17 5) (mTop (h 17 5) (h 4 5 4) (h 4 5 1).toNat).toNat (h 17 5 (mTop (h 17 5) (h 4 5 4) (h 4 5 1).toNat).toNat + y)) (h 4 5 2) (h 18 0) f)) c)), some (aI (c : Int))] [] (fwUc (fwUc h 19 0 (fwFlA (mGain (h 4 5 1) (h 17 5) (h 4 5 2) (h 18 0)) (h 19 0) 0 (h 5 0 3).toNat)) 20 0 (fwFlA (mGain (h 4 5 1) (fwFu (h 17 5) (mTop (h 17 5) (h 4 5 4) (h 4 5 1).toNat).toNat (h 17 5 (mTop (h 17 5) (h 4 5 4) (h 4 5 1).toNat).toNat + y)) (h 4 5 2) (h 18 0)) (h 20 0) 0 (h 5 0 3).toNat)) Q
      refine w_iload dX3_gainersBy_56 rfl ?_
      refine w_aload_n dX3_gainersBy_58 rfl ?_
      refine w_getiE (v := h 5 0 3) dX3_gainersBy_59 fl_X3_21 rfl (by decide) (by first | rfl | simp [fwUp, fwUc]) ?_
      refine w_icmp_ge 104 dX3_gainersBy_62 (by decide) (by omega) (by omega) (fun c62 => ?_) (fun c62 => ?_)
      · have ec56 : (h 5 0 3).toNat = c := by omega
        subst ec56
        refine w_iload dX3_gainersBy_104 rfl ?_
        exact w_iretE dX3_gainersBy_106 rfl (by rw [mGers, if_neg (by omega)]) (k _ _)
      · refine w_iload dX3_gainersBy_65 rfl ?_
        refine w_bipush dX3_gainersBy_67 rfl ?_
        refine w_icmp_ge 104 dX3_gainersBy_69 (by decide) (by omega) (by omega) (fun c69 => ?_) (fun c69 => ?_)
        · (exfalso; omega)
        · refine w_aload_n dX3_gainersBy_72 rfl ?_
          refine w_getr 20 0 dX3_gainersBy_73 fl_X3_18 rfl (by decide) ?_
          refine w_iload dX3_gainersBy_76 rfl ?_
          refine w_ialdE (v := mGain (h 4 5 1) (fwFu (h 17 5) (mTop (h 17 5) (h 4 5 4) (h 4 5 1).toNat).toNat (h 17 5 (mTop (h 17 5) (h 4 5 4) (h 4 5 1).toNat).toNat + y)) (h 4 5 2) (h 18 0) c) dX3_gainersBy_78 rfl (by decide) (by omega) (by omega) (by rw [fwUc_at]; exact fwFlA_in0 (by omega)) ?_
          refine w_aload_n dX3_gainersBy_79 rfl ?_
          refine w_getr 19 0 dX3_gainersBy_80 fl_X3_15 rfl (by decide) ?_
          refine w_iload dX3_gainersBy_83 rfl ?_
          refine w_ialdE (v := mGain (h 4 5 1) (h 17 5) (h 4 5 2) (h 18 0) c) dX3_gainersBy_85 rfl (by decide) (by omega) (by omega) (by first | (rw [fwUc_ne (by omega), fwUc_at]; exact fwFlA_in0 (by omega)) | (rw [fwUc_at]; exact fwFlA_in0 (by omega))) ?_
          have hf := p3 c (by omega)
          have hr1 := mGain_rng (n := h 4 5 1) (H := h 17 5) (sl := h 4 5 2) (F := h 18 0) (f := c) (by omega) g8 (by omega) (by omega) (by omega)
          have hr2 := mGain_rng (n := h 4 5 1) (H := fwFu (h 17 5) (mTop (h 17 5) (h 4 5 4) (h 4 5 1).toNat).toNat (h 17 5 (mTop (h 17 5) (h 4 5 4) (h 4 5 1).toNat).toNat + y)) (sl := h 4 5 2) (F := h 18 0) (f := c) (by omega) g8b (by omega) (by omega) (by omega)
          refine w_icmp_le 98 dX3_gainersBy_86 (by decide) (by omega) (by omega) (fun c86 => ?_) (fun c86 => ?_)
          · refine w_iinc [some (aR 5 0), some (aR 4 5), some (aI y), some (aI (mTop (h 17 5) (h 4 5 4) (h 4 5 1).toNat)), some (aI (mBits (fun f => decide (mGain (h 4 5 1) (h 17 5) (h 4 5 2) (h 18 0) f < mGain (h 4 5 1) (fwFu (h 17 5) (mTop (h 17 5) (h 4 5 4) (h 4 5 1).toNat).toNat (h 17 5 (mTop (h 17 5) (h 4 5 4) (h 4 5 1).toNat).toNat + y)) (h 4 5 2) (h 18 0) f)) c)), some (aI ((c : Int) + 1))] dX3_gainersBy_98 rfl rfl (by decide) ?_
            refine w_goto 56 dX3_gainersBy_101 (by decide) ?_
            refine ih56 (by omega) _ _ ?_ ?_
            · exact (by omega)
            · exact (by rw [mBits]; first | rw [if_pos (by simp only [decide_eq_true_eq]; omega)] | rw [if_neg (by simp only [decide_eq_true_eq]; omega)])
          · refine w_iload dX3_gainersBy_89 rfl ?_
            refine w_iconst dX3_gainersBy_91 ?_
            refine w_iload dX3_gainersBy_92 rfl ?_
            refine w_ishl dX3_gainersBy_94 ?_
            refine w_ior dX3_gainersBy_95 ?_
            refine w_istore [some (aR 5 0), some (aR 4 5), some (aI y), some (aI (mTop (h 17 5) (h 4 5 4) (h 4 5 1).toNat)), some (aI (fwOr (mBits (fun f => decide (mGain (h 4 5 1) (h 17 5) (h 4 5 2) (h 18 0) f < mGain (h 4 5 1) (fwFu (h 17 5) (mTop (h 17 5) (h 4 5 4) (h 4 5 1).toNat).toNat (h 17 5 (mTop (h 17 5) (h 4 5 4) (h 4 5 1).toNat).toNat + y)) (h 4 5 2) (h 18 0) f)) c) (fwShl 1 (c : Int)))), some (aI (c : Int))] dX3_gainersBy_96 rfl (by decide) ?_
            refine w_iinc [some (aR 5 0), some (aR 4 5), some (aI y), some (aI (mTop (h 17 5) (h 4 5 4) (h 4 5 1).toNat)), some (aI (fwOr (mBits (fun f => decide (mGain (h 4 5 1) (h 17 5) (h 4 5 2) (h 18 0) f < mGain (h 4 5 1) (fwFu (h 17 5) (mTop (h 17 5) (h 4 5 4) (h 4 5 1).toNat).toNat (h 17 5 (mTop (h 17 5) (h 4 5 4) (h 4 5 1).toNat).toNat + y)) (h 4 5 2) (h 18 0) f)) c) (fwShl 1 (c : Int)))), some (aI ((c : Int) + 1))] dX3_gainersBy_98 rfl rfl (by decide) ?_
            refine w_goto 56 dX3_gainersBy_101 (by decide) ?_
            refine ih56 (by omega) _ _ ?_ ?_
            · exact (by omega)
            · exact (by rw [mBits]; first | rw [if_pos (by simp only [decide_eq_true_eq]; omega)] | rw [if_neg (by simp only [decide_eq_true_eq]; omega)])
    refine lp56 0 (Nat.zero_le _) _ _ ?_ ?_
    · exact (by omega)
    · exact rfl
  · refine w_iconst dX3_gainersBy_15 ?_
    have k9 := k (h 19 0) (h 20 0)
    rw [mGers, if_pos (by omega), show fwUc (fwUc h 19 0 (h 19 0)) 20 0 (h 20 0) = h by rw [fwUc_self]; exact fwUc_self h 20 0] at k9
    exact w_iret dX3_gainersBy_16 rfl k9
theorem fwAnd_rng1 (y : Int) : 0 ≤ fwAnd y 1 ∧ fwAnd y 1 ≤ 1 := by
  unfold fwAnd
  obtain ⟨j, hj, e⟩ := pk_andE (Int32.ofInt y) (m := Int32.ofInt 1) 1 (by decide)
  rw [e, nI_toInt (by omega)]
  omega
def mNames (F : Nat → Int) (x : Int) : Nat → Int
  | 0 => 0
  | f + 1 => if fwAnd (fwShr x f) 1 = 1 then mNames F x f + F (7 * f + 1) else mNames F x f
set_option maxRecDepth 100000 in
set_option maxHeartbeats 4000000 in
theorem c_X3_namesOf {d : Nat} {h : fwH} {Q : Option fwV → fwH → Prop} (p : Nat) (x : Int) (hp : p < 5) (hP : pOk h p) (k : Q (some (aI (mNames (h 18 p) x (h 5 p 3).toNat))) h) : fwCt mX3_namesOf (d + 1) [aR 5 p, aI x] h Q := by
  refine fwCt_of [some (aR 5 p), some (aI x), none, none] rfl rfl rfl ?_
  obtain ⟨⟨p1, p2⟩, p3⟩ := id hP
  refine w_iconst dX3_namesOf_0 ?_
  refine w_istore_n [some (aR 5 p), some (aI x), some (aI 0), none] dX3_namesOf_1 rfl (by decide) ?_
  refine w_iconst dX3_namesOf_2 ?_
  refine w_istore_n [some (aR 5 p), some (aI x), some (aI 0), some (aI 0)] dX3_namesOf_3 rfl (by decide) ?_
  have lp4 : ∀ c : Nat, c ≤ (h 5 p 3).toNat → ∀ (y4 su : Int), y4 = (c : Int) → su = mNames (h 18 p) x c → fwWP mX3_namesOf (d + 1) 4 [some (aR 5 p), some (aI x), some (aI su), some (aI y4)] [] h Q := by
    refine fw_up (fun c hc4 ih4 => ?_)
    intro y4 su ey4 e_su
    subst ey4
    subst e_su
    show fwWP mX3_namesOf (d + 1) 4 [some (aR 5 p), some (aI x), some (aI (mNames (h 18 p) x c)), some (aI (c : Int))] [] h Q
    refine w_iload_n dX3_namesOf_4 rfl ?_
    refine w_aload_n dX3_namesOf_5 rfl ?_
    refine w_geti dX3_namesOf_6 fl_X3_21 rfl hp ?_
    refine w_icmp_ge 36 dX3_namesOf_9 (by decide) (by omega) (by omega) (fun c9 => ?_) (fun c9 => ?_)
    · have ec4 : (h 5 p 3).toNat = c := by omega
      subst ec4
      refine w_iload_n dX3_namesOf_36 rfl ?_
      exact w_iretE dX3_namesOf_37 rfl (by rfl) k
    · refine w_iload_n dX3_namesOf_12 rfl ?_
      refine w_iload_n dX3_namesOf_13 rfl ?_
      refine w_ishr dX3_namesOf_14 ?_
      refine w_iconst dX3_namesOf_15 ?_
      refine w_iand dX3_namesOf_16 ?_
      have hb := fwAnd_rng1 (fwShr x (c : Int))
      refine w_iconst dX3_namesOf_17 ?_
      refine w_icmp_ne 30 dX3_namesOf_18 (by decide) (by omega) (by omega) (fun c18 => ?_) (fun c18 => ?_)
      · refine w_iinc [some (aR 5 p), some (aI x), some (aI (mNames (h 18 p) x c)), some (aI ((c : Int) + 1))] dX3_namesOf_30 rfl rfl (by decide) ?_
        refine w_goto 4 dX3_namesOf_33 (by decide) ?_
        refine ih4 (by omega) _ _ ?_ ?_
        · exact (by omega)
        · exact (by rw [mNames]; first | rw [if_pos (by omega)] | rw [if_neg (by omega)])
      · refine w_iload_n dX3_namesOf_21 rfl ?_
        refine w_aload_n dX3_namesOf_22 rfl ?_
        refine w_iload_n dX3_namesOf_23 rfl ?_
        refine w_iconst dX3_namesOf_24 ?_
        refine w_callV (d := d + 0) (S := [aI (mNames (h 18 p) x c)]) [aI (c : Int), aI 1] dX3_namesOf_25 ml_X3_25 ok_X3_fact vi_X3_fact rfl rfl hp rfl (Nat.le_of_ble_eq_true rfl) ?_
        refine c_X3_fact (d := d) p c 1 hp (by first | assumption | omega | decide) (by first | assumption | omega | decide) ?_
        show fwWP mX3_namesOf (d + 1) 28 [some (aR 5 p), some (aI x), some (aI (mNames (h 18 p) x c)), some (aI (c : Int))] [aI (h 18 p (7 * c + 1)), aI (mNames (h 18 p) x c)] h Q
        refine w_iadd dX3_namesOf_28 ?_
        refine w_istore_n [some (aR 5 p), some (aI x), some (aI ((mNames (h 18 p) x c) + (h 18 p (7 * c + 1)))), some (aI (c : Int))] dX3_namesOf_29 rfl (by decide) ?_
        refine w_iinc [some (aR 5 p), some (aI x), some (aI ((mNames (h 18 p) x c) + (h 18 p (7 * c + 1)))), some (aI ((c : Int) + 1))] dX3_namesOf_30 rfl rfl (by decide) ?_
        refine w_goto 4 dX3_namesOf_33 (by decide) ?_
        refine ih4 (by omega) _ _ ?_ ?_
        · exact (by omega)
        · exact (by rw [mNames]; first | rw [if_pos (by omega)] | rw [if_neg (by omega)])
  refine lp4 0 (Nat.zero_le _) _ _ ?_ ?_
  · exact (by omega)
  · exact rfl
theorem fwR32 (x : Int32) : -2147483648 ≤ x.toInt ∧ x.toInt < 2147483648 := ⟨x.le_toInt, x.toInt_lt⟩
theorem fwOr_rng (x y : Int) : -2147483648 ≤ fwOr x y ∧ fwOr x y < 2147483648 := fwR32 _
theorem fwAnd_rng (x y : Int) : -2147483648 ≤ fwAnd x y ∧ fwAnd x y < 2147483648 := fwR32 _
/-- one pass of talk -/
def mPass (F : Nat → Int) (ba s : Int) : Nat → Int
  | 0 => s
  | f + 1 => if (0 < F (7 * f + 5) ∧ F (7 * f + 5) ≤ fwPop (fwAnd (F (7 * f + 6)) (mPass F ba s f))) ∧ fwAnd (fwShr ba f) 1 = 0 then fwOr (mPass F ba s f) (fwShl 1 f) else mPass F ba s f
theorem mPass_rng (F : Nat → Int) (ba : Int) {s : Int} (hs : -2147483648 ≤ s ∧ s < 2147483648) : ∀ f, -2147483648 ≤ mPass F ba s f ∧ mPass F ba s f < 2147483648 := by
  intro f
  induction f with
  | zero => exact hs
  | succ f ih =>
    rw [mPass]
    split
    · exact fwOr_rng _ _
    · exact ih
def mSg (F : Nat → Int) (ba : Int) (n : Nat) : Nat → Int → Int
  | 0, s => s
  | k + 1, s => if mPass F ba s n = s then s else mSg F ba n k (mPass F ba s n)
def mSign (F : Nat → Int) (n : Nat) (su ba : Int) : Int := mSg F ba n 8 (fwAnd su (fwXor ba (-1)))
set_option maxRecDepth 100000 in
set_option maxHeartbeats 4000000 in
theorem c_X3_signersOf {d : Nat} {h : fwH} {Q : Option fwV → fwH → Prop} (p : Nat) (x y : Int) (hp : p < 5) (hP : pOk h p) (k : Q (some (aI (mSign (h 18 p) (h 5 p 3).toNat x y))) h) : fwCt mX3_signersOf (d + 1) [aR 5 p, aI x, aI y] h Q := by
  refine fwCt_of [some (aR 5 p), some (aI x), some (aI y), none, none, none, none, none, none] rfl rfl rfl ?_
  obtain ⟨⟨p1, p2⟩, p3⟩ := id hP
  refine w_iload_n dX3_signersOf_0 rfl ?_
  refine w_iload_n dX3_signersOf_1 rfl ?_
  refine w_iconst dX3_signersOf_2 ?_
  refine w_ixor dX3_signersOf_3 ?_
  refine w_iand dX3_signersOf_4 ?_
  refine w_istore_n [some (aR 5 p), some (aI x), some (aI y), some (aI (fwAnd x (fwXor y (-1)))), none, none, none, none, none] dX3_signersOf_5 rfl (by decide) ?_
  refine w_iconst dX3_signersOf_6 ?_
  refine w_istore [some (aR 5 p), some (aI x), some (aI y), some (aI (fwAnd x (fwXor y (-1)))), some (aI 0), none, none, none, none] dX3_signersOf_7 rfl (by decide) ?_
  have lp9 : ∀ c : Nat, c ≤ 8 → ∀ (y9 sg : Int), y9 = (c : Int) → ((-2147483648 ≤ sg ∧ sg < 2147483648) ∧ mSg (h 18 p) y (h 5 p 3).toNat (8 - c) sg = mSg (h 18 p) y (h 5 p 3).toNat 8 (fwAnd x (fwXor y (-1)))) → fwWP mX3_signersOf (d + 1) 9 [some (aR 5 p), some (aI x), some (aI y), some (aI sg), some (aI y9), none, none, none, none] [] h Q := by
    refine fw_up (fun c hc9 ih9 => ?_)
    intro y9 sg ey9 e_sg
    subst ey9
    show fwWP mX3_signersOf (d + 1) 9 [some (aR 5 p), some (aI x), some (aI y), some (aI sg), some (aI (c : Int)), none, none, none, none] [] h Q
    refine w_iload dX3_signersOf_9 rfl ?_
    refine w_bipush dX3_signersOf_11 rfl ?_
    refine w_icmp_ge 112 dX3_signersOf_13 (by decide) (by omega) (by omega) (fun c13 => ?_) (fun c13 => ?_)
    · refine w_iload_n dX3_signersOf_112 rfl ?_
      have ec : c = 8 := by omega
      subst ec
      have e9 := e_sg.2
      rw [Nat.sub_self, mSg] at e9
      exact w_iretE dX3_signersOf_113 rfl (by rw [mSign]; exact e9) k
    · refine w_iload_n dX3_signersOf_16 rfl ?_
      refine w_istore [some (aR 5 p), some (aI x), some (aI y), some (aI sg), some (aI (c : Int)), some (aI sg), none, none, none] dX3_signersOf_17 rfl (by decide) ?_
      refine w_iconst dX3_signersOf_19 ?_
      refine w_istore [some (aR 5 p), some (aI x), some (aI y), some (aI sg), some (aI (c : Int)), some (aI sg), some (aI 0), none, none] dX3_signersOf_20 rfl (by decide) ?_
      have lp22 : ∀ f : Nat, f ≤ (h 5 p 3).toNat → ∀ (y22 rr : Int), y22 = (f : Int) → rr = mPass (h 18 p) y sg f → fwWP mX3_signersOf (d + 1) 22 [some (aR 5 p), some (aI x), some (aI y), some (aI rr), some (aI (c : Int)), some (aI sg), some (aI y22), none, none] [] h Q := by
        refine fw_up (fun f hc22 ih22 => ?_)
        intro y22 rr ey22 e_rr
        subst ey22
        subst e_rr
        have hpr := mPass_rng (h 18 p) y e_sg.1 f
        show fwWP mX3_signersOf (d + 1) 22 [some (aR 5 p), some (aI x), some (aI y), some (aI (mPass (h 18 p) y sg f)), some (aI (c : Int)), some (aI sg), some (aI (f : Int)), none, none] [] h Q
        refine w_iload dX3_signersOf_22 rfl ?_
        refine w_aload_n dX3_signersOf_24 rfl ?_
        refine w_geti dX3_signersOf_25 fl_X3_21 rfl hp ?_
        refine w_icmp_ge 97 dX3_signersOf_28 (by decide) (by omega) (by omega) (fun c28 => ?_) (fun c28 => ?_)
        · have ec22 : (h 5 p 3).toNat = f := by omega
          subst ec22
          obtain ⟨q, hq⟩ : ∃ q : Nat, 8 - c = q + 1 := ⟨7 - c, by omega⟩
          have e9 := e_sg.2
          rw [hq, mSg] at e9
          refine w_iload_n dX3_signersOf_97 rfl ?_
          refine w_iload dX3_signersOf_98 rfl ?_
          refine w_icmp_ne 106 dX3_signersOf_100 (by decide) (by omega) (by omega) (fun c100 => ?_) (fun c100 => ?_)
          · rw [if_neg (by omega)] at e9
            have hq2 : 8 - (c + 1) = q := by omega
            refine w_iinc [some (aR 5 p), some (aI x), some (aI y), some (aI (mPass (h 18 p) y sg (h 5 p 3).toNat)), some (aI ((c : Int) + 1)), some (aI sg), some (aI (((h 5 p 3).toNat : Nat) : Int)), none, none] dX3_signersOf_106 rfl rfl (by decide) ?_
            refine w_goto 9 dX3_signersOf_109 (by decide) ?_
            refine w_drop [5, 6] [some (aR 5 p), some (aI x), some (aI y), some (aI (mPass (h 18 p) y sg (h 5 p 3).toNat)), some (aI ((c : Int) + 1)), none, none, none, none] rfl ?_
            refine ih9 (by omega) _ _ ?_ ?_
            · exact (by omega)
            · exact ⟨by omega, by rw [hq2]; exact e9⟩
          · refine w_goto 112 dX3_signersOf_103 (by decide) ?_
            refine w_iload_n dX3_signersOf_112 rfl ?_
            rw [if_pos (by omega)] at e9
            exact w_iretE dX3_signersOf_113 rfl (by rw [mSign, ← e9]; omega) k
        · have hf := p3 f (by omega)
          refine w_aload_n dX3_signersOf_31 rfl ?_
          refine w_iload dX3_signersOf_32 rfl ?_
          refine w_iconst dX3_signersOf_34 ?_
          refine w_callV (d := d + 0) (S := []) [aI (f : Int), aI 5] dX3_signersOf_35 ml_X3_25 ok_X3_fact vi_X3_fact rfl rfl hp rfl (Nat.le_of_ble_eq_true rfl) ?_
          refine c_X3_fact (d := d) p f 5 hp (by first | assumption | omega | decide) (by first | assumption | omega | decide) ?_
          show fwWP mX3_signersOf (d + 1) 38 [some (aR 5 p), some (aI x), some (aI y), some (aI (mPass (h 18 p) y sg f)), some (aI (c : Int)), some (aI sg), some (aI (f : Int)), none, none] [aI (h 18 p (7 * f + 5))] h Q
          refine w_istore [some (aR 5 p), some (aI x), some (aI y), some (aI (mPass (h 18 p) y sg f)), some (aI (c : Int)), some (aI sg), some (aI (f : Int)), some (aI (h 18 p (7 * f + 5))), none] dX3_signersOf_38 rfl (by decide) ?_
          have J68 : ∀ v : Int, v = fwB (0 < h 18 p (7 * f + 5) ∧ h 18 p (7 * f + 5) ≤ fwPop (fwAnd (h 18 p (7 * f + 6)) (mPass (h 18 p) y sg f))) → fwWP mX3_signersOf (d + 1) 68 [some (aR 5 p), some (aI x), some (aI y), some (aI (mPass (h 18 p) y sg f)), some (aI (c : Int)), some (aI sg), some (aI (f : Int)), some (aI (h 18 p (7 * f + 5))), none] [aI v] h Q := by
            intro v ev
            subst ev
            refine w_istore [some (aR 5 p), some (aI x), some (aI y), some (aI (mPass (h 18 p) y sg f)), some (aI (c : Int)), some (aI sg), some (aI (f : Int)), some (aI (h 18 p (7 * f + 5))), some (aI (fwB (0 < h 18 p (7 * f + 5) ∧ h 18 p (7 * f + 5) ≤ fwPop (fwAnd (h 18 p (7 * f + 6)) (mPass (h 18 p) y sg f)))))] dX3_signersOf_68 rfl (by decide) ?_
            refine w_iload dX3_signersOf_70 rfl ?_
            refine w_ifB_eq 91 dX3_signersOf_72 (by decide) (fun c72 => ?_) (fun c72 => ?_)
            · refine w_iinc [some (aR 5 p), some (aI x), some (aI y), some (aI (mPass (h 18 p) y sg f)), some (aI (c : Int)), some (aI sg), some (aI ((f : Int) + 1)), some (aI (h 18 p (7 * f + 5))), some (aI (fwB (0 < h 18 p (7 * f + 5) ∧ h 18 p (7 * f + 5) ≤ fwPop (fwAnd (h 18 p (7 * f + 6)) (mPass (h 18 p) y sg f)))))] dX3_signersOf_91 rfl rfl (by decide) ?_
              refine w_goto 22 dX3_signersOf_94 (by decide) ?_
              refine w_drop [7, 8] [some (aR 5 p), some (aI x), some (aI y), some (aI (mPass (h 18 p) y sg f)), some (aI (c : Int)), some (aI sg), some (aI ((f : Int) + 1)), none, none] rfl ?_
              refine ih22 (by omega) _ _ ?_ ?_
              · exact (by omega)
              · exact (by rw [mPass]; first | rw [if_pos (by omega)] | rw [if_neg (by omega)])
            · refine w_iload_n dX3_signersOf_75 rfl ?_
              refine w_iload dX3_signersOf_76 rfl ?_
              refine w_ishr dX3_signersOf_78 ?_
              refine w_iconst dX3_signersOf_79 ?_
              have hb := fwAnd_rng1 (fwShr y (f : Int))
              refine w_iand dX3_signersOf_80 ?_
              refine w_if_ne 91 dX3_signersOf_81 (by decide) (by omega) (fun c81 => ?_) (fun c81 => ?_)
              · refine w_iinc [some (aR 5 p), some (aI x), some (aI y), some (aI (mPass (h 18 p) y sg f)), some (aI (c : Int)), some (aI sg), some (aI ((f : Int) + 1)), some (aI (h 18 p (7 * f + 5))), some (aI (fwB (0 < h 18 p (7 * f + 5) ∧ h 18 p (7 * f + 5) ≤ fwPop (fwAnd (h 18 p (7 * f + 6)) (mPass (h 18 p) y sg f)))))] dX3_signersOf_91 rfl rfl (by decide) ?_
                refine w_goto 22 dX3_signersOf_94 (by decide) ?_
                refine w_drop [7, 8] [some (aR 5 p), some (aI x), some (aI y), some (aI (mPass (h 18 p) y sg f)), some (aI (c : Int)), some (aI sg), some (aI ((f : Int) + 1)), none, none] rfl ?_
                refine ih22 (by omega) _ _ ?_ ?_
                · exact (by omega)
                · exact (by rw [mPass]; first | rw [if_pos (by omega)] | rw [if_neg (by omega)])
              · refine w_iload_n dX3_signersOf_84 rfl ?_
                refine w_iconst dX3_signersOf_85 ?_
                refine w_iload dX3_signersOf_86 rfl ?_
                refine w_ishl dX3_signersOf_88 ?_
                refine w_ior dX3_signersOf_89 ?_
                refine w_istore_n [some (aR 5 p), some (aI x), some (aI y), some (aI (fwOr (mPass (h 18 p) y sg f) (fwShl 1 (f : Int)))), some (aI (c : Int)), some (aI sg), some (aI (f : Int)), some (aI (h 18 p (7 * f + 5))), some (aI (fwB (0 < h 18 p (7 * f + 5) ∧ h 18 p (7 * f + 5) ≤ fwPop (fwAnd (h 18 p (7 * f + 6)) (mPass (h 18 p) y sg f)))))] dX3_signersOf_90 rfl (by decide) ?_
                refine w_iinc [some (aR 5 p), some (aI x), some (aI y), some (aI (fwOr (mPass (h 18 p) y sg f) (fwShl 1 (f : Int)))), some (aI (c : Int)), some (aI sg), some (aI ((f : Int) + 1)), some (aI (h 18 p (7 * f + 5))), some (aI (fwB (0 < h 18 p (7 * f + 5) ∧ h 18 p (7 * f + 5) ≤ fwPop (fwAnd (h 18 p (7 * f + 6)) (mPass (h 18 p) y sg f)))))] dX3_signersOf_91 rfl rfl (by decide) ?_
                refine w_goto 22 dX3_signersOf_94 (by decide) ?_
                refine w_drop [7, 8] [some (aR 5 p), some (aI x), some (aI y), some (aI (fwOr (mPass (h 18 p) y sg f) (fwShl 1 (f : Int)))), some (aI (c : Int)), some (aI sg), some (aI ((f : Int) + 1)), none, none] rfl ?_
                refine ih22 (by omega) _ _ ?_ ?_
                · exact (by omega)
                · exact (by rw [mPass]; first | rw [if_pos (by omega)] | rw [if_neg (by omega)])
          refine w_iload dX3_signersOf_40 rfl ?_
          refine w_if_le 67 dX3_signersOf_42 (by decide) (by omega) (fun c42 => ?_) (fun c42 => ?_)
          · refine w_iconst dX3_signersOf_67 ?_
            exact J68 _ (by first | omega | (rw [fwB_t (by omega)]) | (rw [fwB_f (by omega)]))
          · refine w_aload_n dX3_signersOf_45 rfl ?_
            refine w_iload dX3_signersOf_46 rfl ?_
            refine w_bipush dX3_signersOf_48 rfl ?_
            refine w_callV (d := d + 0) (S := []) [aI (f : Int), aI 6] dX3_signersOf_50 ml_X3_25 ok_X3_fact vi_X3_fact rfl rfl hp rfl (Nat.le_of_ble_eq_true rfl) ?_
            refine c_X3_fact (d := d) p f 6 hp (by first | assumption | omega | decide) (by first | assumption | omega | decide) ?_
            show fwWP mX3_signersOf (d + 1) 53 [some (aR 5 p), some (aI x), some (aI y), some (aI (mPass (h 18 p) y sg f)), some (aI (c : Int)), some (aI sg), some (aI (f : Int)), some (aI (h 18 p (7 * f + 5))), none] [aI (h 18 p (7 * f + 6))] h Q
            refine w_iload_n dX3_signersOf_53 rfl ?_
            refine w_iand dX3_signersOf_54 ?_
            refine w_callS (d := d + 0) (S := []) [aI (fwAnd (h 18 p (7 * f + 6)) (mPass (h 18 p) y sg f))] dX3_signersOf_55 ml_X3_43 ok_J6_bitCount_0f7a4 st_J6_bitCount_0f7a4 rfl (Nat.le_of_ble_eq_true rfl) ?_
            refine c_bitCount (d := d) (fwAnd (h 18 p (7 * f + 6)) (mPass (h 18 p) y sg f)) ?_
            show fwWP mX3_signersOf (d + 1) 58 [some (aR 5 p), some (aI x), some (aI y), some (aI (mPass (h 18 p) y sg f)), some (aI (c : Int)), some (aI sg), some (aI (f : Int)), some (aI (h 18 p (7 * f + 5))), none] [aI (fwPop (fwAnd (h 18 p (7 * f + 6)) (mPass (h 18 p) y sg f)))] h Q
            have hpp := fwPop_rng (fwAnd (h 18 p (7 * f + 6)) (mPass (h 18 p) y sg f))
            refine w_iload dX3_signersOf_58 rfl ?_
            refine w_icmp_lt 67 dX3_signersOf_60 (by decide) (by omega) (by omega) (fun c60 => ?_) (fun c60 => ?_)
            · refine w_iconst dX3_signersOf_67 ?_
              exact J68 _ (by first | omega | (rw [fwB_t (by omega)]) | (rw [fwB_f (by omega)]))
            · refine w_iconst dX3_signersOf_63 ?_
              refine w_goto 68 dX3_signersOf_64 (by decide) ?_
              exact J68 _ (by first | omega | (rw [fwB_t (by omega)]) | (rw [fwB_f (by omega)]))
      refine lp22 0 (Nat.zero_le _) _ _ ?_ ?_
      · exact (by omega)
      · exact rfl
  refine lp9 0 (Nat.zero_le _) _ _ ?_ ?_
  · exact (by omega)
  · exact ⟨fwAnd_rng _ _, rfl⟩

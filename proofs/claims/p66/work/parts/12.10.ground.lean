/-! FootLower$Ground: what its methods answer, in words of n (cells) and H (heights) -/
def gOk (h : fwH) (i : Nat) : Prop := (0 ≤ h 4 i 1 ∧ h 4 i 1 ≤ 10) ∧ (0 ≤ h 4 i 2 ∧ h 4 i 2 ≤ 40) ∧ (0 ≤ h 4 i 3 ∧ h 4 i 3 ≤ 40) ∧ (h 4 i 4 = 0 ∨ h 4 i 4 = 1) ∧ ∀ c : Nat, c < 10 → 0 ≤ h 17 i c ∧ h 17 i c ≤ 1000
def hOf (n : Int) (H : Nat → Int) (c : Int) : Int := if 0 ≤ c ∧ c < n then H c.toNat else 0
def mTop (H : Nat → Int) (ls : Int) : Nat → Int
  | 0 => -1
  | c + 1 => if mTop H ls c = -1 ∨ H (mTop H ls c).toNat < H c ∨ (H (mTop H ls c).toNat = H c ∧ ls ≠ 0) then (c : Int) else mTop H ls c
def mMax (H : Nat → Int) : Nat → Int
  | 0 => 0
  | c + 1 => if mMax H c < H c then H c else mMax H c
theorem mTop_rng (H : Nat → Int) (ls : Int) : ∀ c, -1 ≤ mTop H ls c ∧ mTop H ls c < c ∧ (0 < c → 0 ≤ mTop H ls c) := by
  intro c
  induction c with
  | zero => simp [mTop]
  | succ c ih =>
    unfold mTop
    split
    · omega
    · rename_i hc
      have : mTop H ls c ≠ -1 := fun e => hc (Or.inl e)
      omega
theorem mMax_rng {H : Nat → Int} {b : Int} (hb : 0 ≤ b) : ∀ c, (∀ j, j < c → 0 ≤ H j ∧ H j ≤ b) → 0 ≤ mMax H c ∧ mMax H c ≤ b := by
  intro c
  induction c with
  | zero => intro _; simp [mMax]; omega
  | succ c ih =>
    intro hj
    have h1 := ih (fun j hj2 => hj j (by omega))
    have h2 := hj c (by omega)
    unfold mMax
    split <;> omega
set_option maxRecDepth 100000 in
set_option maxHeartbeats 4000000 in
theorem c_X1_has {d : Nat} {h : fwH} {Q : Option fwV → fwH → Prop} (i : Nat) (x : Int) (hi : i < 6) (hG : gOk h i) (hx : -2147483648 ≤ x ∧ x < 2147483648) (k : Q (some (aI (fwB (0 ≤ x ∧ x < h 4 i 1)))) h) : fwCt mX1_has (d + 0) [aR 4 i, aI x] h Q := by
  refine fwCt_of [some (aR 4 i), some (aI x)] rfl rfl rfl ?_
  obtain ⟨⟨g1, g2⟩, ⟨g3, g4⟩, ⟨g5, g6⟩, g7, g8⟩ := id hG
  refine w_iload_n dX1_has_0 rfl ?_
  refine w_if_lt 25 dX1_has_1 (by decide) (by omega) (fun c1 => ?_) (fun c1 => ?_)
  · refine w_iconst dX1_has_25 ?_
    exact w_zretE dX1_has_26 rfl (by first | omega | (rw [fwB_t (by omega)]) | (rw [fwB_f (by omega)])) k
  · refine w_iload_n dX1_has_4 rfl ?_
    refine w_aload_n dX1_has_5 rfl ?_
    refine w_geti dX1_has_6 fl_X1_15 rfl hi ?_
    refine w_icmp_ge 25 dX1_has_9 (by decide) (by omega) (by omega) (fun c9 => ?_) (fun c9 => ?_)
    · refine w_iconst dX1_has_25 ?_
      exact w_zretE dX1_has_26 rfl (by first | omega | (rw [fwB_t (by omega)]) | (rw [fwB_f (by omega)])) k
    · refine w_iload_n dX1_has_12 rfl ?_
      refine w_aload_n dX1_has_13 rfl ?_
      refine w_getr 17 i dX1_has_14 fl_X1_9 rfl hi ?_
      refine w_alen dX1_has_17 rfl (by decide) hi ?_
      refine w_icmp_ge 25 dX1_has_18 (by decide) (by omega) (by omega) (fun c18 => ?_) (fun c18 => ?_)
      · refine w_iconst dX1_has_25 ?_
        exact w_zretE dX1_has_26 rfl (by first | omega | (rw [fwB_t (by omega)]) | (rw [fwB_f (by omega)])) k
      · refine w_iconst dX1_has_21 ?_
        refine w_goto 26 dX1_has_22 (by decide) ?_
        exact w_zretE dX1_has_26 rfl (by first | omega | (rw [fwB_t (by omega)]) | (rw [fwB_f (by omega)])) k
set_option maxRecDepth 100000 in
set_option maxHeartbeats 4000000 in
theorem c_X1_heightOf {d : Nat} {h : fwH} {Q : Option fwV → fwH → Prop} (i : Nat) (x : Int) (hi : i < 6) (hG : gOk h i) (hx : -2147483648 ≤ x ∧ x < 2147483648) (k : Q (some (aI (hOf (h 4 i 1) (h 17 i) x))) h) : fwCt mX1_heightOf (d + 0) [aR 4 i, aI x] h Q := by
  refine fwCt_of [some (aR 4 i), some (aI x)] rfl rfl rfl ?_
  obtain ⟨⟨g1, g2⟩, ⟨g3, g4⟩, ⟨g5, g6⟩, g7, g8⟩ := id hG
  refine w_iload_n dX1_heightOf_0 rfl ?_
  refine w_if_lt 30 dX1_heightOf_1 (by decide) (by omega) (fun c1 => ?_) (fun c1 => ?_)
  · refine w_iconst dX1_heightOf_30 ?_
    exact w_iretE dX1_heightOf_31 rfl (by first | omega | (unfold hOf; first | rw [if_pos (by omega)] | rw [if_neg (by omega)])) k
  · refine w_iload_n dX1_heightOf_4 rfl ?_
    refine w_aload_n dX1_heightOf_5 rfl ?_
    refine w_geti dX1_heightOf_6 fl_X1_15 rfl hi ?_
    refine w_icmp_ge 30 dX1_heightOf_9 (by decide) (by omega) (by omega) (fun c9 => ?_) (fun c9 => ?_)
    · refine w_iconst dX1_heightOf_30 ?_
      exact w_iretE dX1_heightOf_31 rfl (by first | omega | (unfold hOf; first | rw [if_pos (by omega)] | rw [if_neg (by omega)])) k
    · refine w_iload_n dX1_heightOf_12 rfl ?_
      refine w_aload_n dX1_heightOf_13 rfl ?_
      refine w_getr 17 i dX1_heightOf_14 fl_X1_9 rfl hi ?_
      refine w_alen dX1_heightOf_17 rfl (by decide) hi ?_
      refine w_icmp_ge 30 dX1_heightOf_18 (by decide) (by omega) (by omega) (fun c18 => ?_) (fun c18 => ?_)
      · refine w_iconst dX1_heightOf_30 ?_
        exact w_iretE dX1_heightOf_31 rfl (by first | omega | (unfold hOf; first | rw [if_pos (by omega)] | rw [if_neg (by omega)])) k
      · refine w_aload_n dX1_heightOf_21 rfl ?_
        refine w_getr 17 i dX1_heightOf_22 fl_X1_9 rfl hi ?_
        refine w_iload_n dX1_heightOf_25 rfl ?_
        refine w_iald dX1_heightOf_26 rfl hi (by omega) (by omega) ?_
        refine w_goto 31 dX1_heightOf_27 (by decide) ?_
        exact w_iretE dX1_heightOf_31 rfl (by first | omega | (unfold hOf; first | rw [if_pos (by omega)] | rw [if_neg (by omega)])) k
set_option maxRecDepth 100000 in
set_option maxHeartbeats 4000000 in
theorem c_X1_change {d : Nat} {h : fwH} {Q : Option fwV → fwH → Prop} (i : Nat) (x y : Int) (hi : i < 6) (hG : gOk h i) (hx : -2147483648 ≤ x ∧ x < 2147483648) (k : Q none (if 0 ≤ x ∧ x < h 4 i 1 then fwUp h 17 i x.toNat (h 17 i x.toNat + y) else h)) : fwCt mX1_change (d + 1) [aR 4 i, aI x, aI y] h Q := by
  refine fwCt_of [some (aR 4 i), some (aI x), some (aI y)] rfl rfl rfl ?_
  obtain ⟨⟨g1, g2⟩, ⟨g3, g4⟩, ⟨g5, g6⟩, g7, g8⟩ := id hG
  refine w_aload_n dX1_change_0 rfl ?_
  refine w_iload_n dX1_change_1 rfl ?_
  refine w_callV (d := d + 0) (S := []) [aI x] dX1_change_2 ml_X1_29 ok_X1_has vi_X1_has rfl rfl hi rfl (Nat.le_of_ble_eq_true rfl) ?_
  refine c_X1_has (d := d) i x hi (by first | assumption | omega | decide) (by first | assumption | omega | decide) ?_
  show fwWP mX1_change (d + 1) 5 [some (aR 4 i), some (aI x), some (aI y)] [aI (fwB (0 ≤ x ∧ x < h 4 i 1))] h Q
  refine w_ifB_eq 18 dX1_change_5 (by decide) (fun c5 => ?_) (fun c5 => ?_)
  · exact w_vret dX1_change_18 rfl (by first | (rw [if_pos (by assumption)] at k; exact k) | (rw [if_neg (by assumption)] at k; exact k))
  · refine w_aload_n dX1_change_8 rfl ?_
    refine w_getr 17 i dX1_change_9 fl_X1_9 rfl hi ?_
    refine w_iload_n dX1_change_12 rfl ?_
    refine w_dup2 dX1_change_13 rfl rfl ?_
    refine w_iald dX1_change_14 rfl hi (by omega) (by omega) ?_
    refine w_iload_n dX1_change_15 rfl ?_
    refine w_iadd dX1_change_16 ?_
    refine w_iast dX1_change_17 rfl hi (by omega) (by omega) ?_
    exact w_vret dX1_change_18 rfl (by first | (rw [if_pos (by assumption)] at k; exact k) | (rw [if_neg (by assumption)] at k; exact k))
theorem hOf_in {n : Int} {H : Nat → Int} {c : Nat} (hc : (c : Int) < n) : hOf n H c = H c := by
  unfold hOf
  rw [if_pos (by omega)]
  rfl
theorem hOf_rng {n : Int} {H : Nat → Int} {b : Int} (hb : 0 ≤ b) (hn : n ≤ 10) (hH : ∀ c : Nat, c < 10 → 0 ≤ H c ∧ H c ≤ b) (x : Int) : 0 ≤ hOf n H x ∧ hOf n H x ≤ b := by
  unfold hOf
  split
  · exact hH _ (by omega)
  · omega
theorem c_X1_heightOfE {d : Nat} {h : fwH} {Q : Option fwV → fwH → Prop} (i : Nat) (x v : Int) (hi : i < 6) (hG : gOk h i) (hx : -2147483648 ≤ x ∧ x < 2147483648) (hv : hOf (h 4 i 1) (h 17 i) x = v) (k : Q (some (aI v)) h) : fwCt mX1_heightOf d [aR 4 i, aI x] h Q := by
  subst hv
  exact c_X1_heightOf i x hi hG hx k
set_option maxRecDepth 100000 in
set_option maxHeartbeats 4000000 in
theorem c_X1_topCell {d : Nat} {h : fwH} {Q : Option fwV → fwH → Prop} (i : Nat) (hi : i < 6) (hG : gOk h i) (k : Q (some (aI (mTop (h 17 i) (h 4 i 4) (h 4 i 1).toNat))) h) : fwCt mX1_topCell (d + 1) [aR 4 i] h Q := by
  refine fwCt_of [some (aR 4 i), none, none, none] rfl rfl rfl ?_
  obtain ⟨⟨g1, g2⟩, ⟨g3, g4⟩, ⟨g5, g6⟩, g7, g8⟩ := id hG
  refine w_iconst dX1_topCell_0 ?_
  refine w_istore_n [some (aR 4 i), some (aI (-1)), none, none] dX1_topCell_1 rfl (by decide) ?_
  refine w_iconst dX1_topCell_2 ?_
  refine w_istore_n [some (aR 4 i), some (aI (-1)), some (aI 0), none] dX1_topCell_3 rfl (by decide) ?_
  have lp4 : ∀ c : Nat, c ≤ (h 4 i 1).toNat → ∀ (y4 fo : Int), y4 = (c : Int) → fo = mTop (h 17 i) (h 4 i 4) c → fwWP mX1_topCell (d + 1) 4 [some (aR 4 i), some (aI fo), some (aI y4), none] [] h Q := by
    refine fw_up (fun c hc4 ih4 => ?_)
    intro y4 fo ey4 e_fo
    subst ey4
    subst e_fo
    have ht := mTop_rng (h 17 i) (h 4 i 4) c
    have hf : mTop (h 17 i) (h 4 i 4) c = -1 ∨ hOf (h 4 i 1) (h 17 i) (mTop (h 17 i) (h 4 i 4) c) = h 17 i (mTop (h 17 i) (h 4 i 4) c).toNat := by unfold hOf; split <;> first | exact Or.inr rfl | omega
    show fwWP mX1_topCell (d + 1) 4 [some (aR 4 i), some (aI (mTop (h 17 i) (h 4 i 4) c)), some (aI (c : Int)), none] [] h Q
    refine w_iload_n dX1_topCell_4 rfl ?_
    refine w_aload_n dX1_topCell_5 rfl ?_
    refine w_geti dX1_topCell_6 fl_X1_15 rfl hi ?_
    refine w_icmp_ge 52 dX1_topCell_9 (by decide) (by omega) (by omega) (fun c9 => ?_) (fun c9 => ?_)
    · have ec4 : (h 4 i 1).toNat = c := by omega
      subst ec4
      refine w_iload_n dX1_topCell_52 rfl ?_
      exact w_iretE dX1_topCell_53 rfl (by rfl) k
    · refine w_aload_n dX1_topCell_12 rfl ?_
      refine w_iload_n dX1_topCell_13 rfl ?_
      refine w_callV (d := d + 0) (S := []) [aI (c : Int)] dX1_topCell_14 ml_X1_33 ok_X1_heightOf vi_X1_heightOf rfl rfl hi rfl (Nat.le_of_ble_eq_true rfl) ?_
      refine c_X1_heightOfE (d := d) i (c : Int) (h 17 i c) hi (by first | assumption | omega | decide) (by first | assumption | omega | decide) (hOf_in (by omega)) ?_
      show fwWP mX1_topCell (d + 1) 17 [some (aR 4 i), some (aI (mTop (h 17 i) (h 4 i 4) c)), some (aI (c : Int)), none] [aI (h 17 i c)] h Q
      have hc1 := g8 c (by omega)
      refine w_aload_n dX1_topCell_17 rfl ?_
      refine w_iload_n dX1_topCell_18 rfl ?_
      refine w_callV (d := d + 0) (S := [aI (h 17 i c)]) [aI (mTop (h 17 i) (h 4 i 4) c)] dX1_topCell_19 ml_X1_33 ok_X1_heightOf vi_X1_heightOf rfl rfl hi rfl (Nat.le_of_ble_eq_true rfl) ?_
      refine c_X1_heightOf (d := d) i (mTop (h 17 i) (h 4 i 4) c) hi (by first | assumption | omega | decide) (by first | assumption | omega | decide) ?_
      show fwWP mX1_topCell (d + 1) 22 [some (aR 4 i), some (aI (mTop (h 17 i) (h 4 i 4) c)), some (aI (c : Int)), none] [aI (hOf (h 4 i 1) (h 17 i) (mTop (h 17 i) (h 4 i 4) c)), aI (h 17 i c)] h Q
      have hb2 := hOf_rng (n := (h 4 i 1)) (H := (h 17 i)) (b := 1000) (by omega) (by omega) (by assumption) (mTop (h 17 i) (h 4 i 4) c)
      refine w_isub dX1_topCell_22 ?_
      refine w_istore_n [some (aR 4 i), some (aI (mTop (h 17 i) (h 4 i 4) c)), some (aI (c : Int)), some (aI ((h 17 i c) - (hOf (h 4 i 1) (h 17 i) (mTop (h 17 i) (h 4 i 4) c))))] dX1_topCell_23 rfl (by decide) ?_
      refine w_iload_n dX1_topCell_24 rfl ?_
      refine w_iconst dX1_topCell_25 ?_
      refine w_icmp_eq 44 dX1_topCell_26 (by decide) (by omega) (by omega) (fun c26 => ?_) (fun c26 => ?_)
      · refine w_iload_n dX1_topCell_44 rfl ?_
        refine w_istore_n [some (aR 4 i), some (aI (c : Int)), some (aI (c : Int)), some (aI ((h 17 i c) - (hOf (h 4 i 1) (h 17 i) (mTop (h 17 i) (h 4 i 4) c))))] dX1_topCell_45 rfl (by decide) ?_
        refine w_iinc [some (aR 4 i), some (aI (c : Int)), some (aI ((c : Int) + 1)), some (aI ((h 17 i c) - (hOf (h 4 i 1) (h 17 i) (mTop (h 17 i) (h 4 i 4) c))))] dX1_topCell_46 rfl rfl (by decide) ?_
        refine w_goto 4 dX1_topCell_49 (by decide) ?_
        refine w_drop [3] [some (aR 4 i), some (aI (c : Int)), some (aI ((c : Int) + 1)), none] rfl ?_
        refine ih4 (by omega) _ _ ?_ ?_
        · exact (by omega)
        · exact (by rw [mTop]; first | rw [if_pos (by omega)] | rw [if_neg (by omega)])
      · refine w_iload_n dX1_topCell_29 rfl ?_
        refine w_if_gt 44 dX1_topCell_30 (by decide) (by omega) (fun c30 => ?_) (fun c30 => ?_)
        · refine w_iload_n dX1_topCell_44 rfl ?_
          refine w_istore_n [some (aR 4 i), some (aI (c : Int)), some (aI (c : Int)), some (aI ((h 17 i c) - (hOf (h 4 i 1) (h 17 i) (mTop (h 17 i) (h 4 i 4) c))))] dX1_topCell_45 rfl (by decide) ?_
          refine w_iinc [some (aR 4 i), some (aI (c : Int)), some (aI ((c : Int) + 1)), some (aI ((h 17 i c) - (hOf (h 4 i 1) (h 17 i) (mTop (h 17 i) (h 4 i 4) c))))] dX1_topCell_46 rfl rfl (by decide) ?_
          refine w_goto 4 dX1_topCell_49 (by decide) ?_
          refine w_drop [3] [some (aR 4 i), some (aI (c : Int)), some (aI ((c : Int) + 1)), none] rfl ?_
          refine ih4 (by omega) _ _ ?_ ?_
          · exact (by omega)
          · exact (by rw [mTop]; first | rw [if_pos (by omega)] | rw [if_neg (by omega)])
        · refine w_iload_n dX1_topCell_33 rfl ?_
          refine w_if_ne 46 dX1_topCell_34 (by decide) (by omega) (fun c34 => ?_) (fun c34 => ?_)
          · refine w_iinc [some (aR 4 i), some (aI (mTop (h 17 i) (h 4 i 4) c)), some (aI ((c : Int) + 1)), some (aI ((h 17 i c) - (hOf (h 4 i 1) (h 17 i) (mTop (h 17 i) (h 4 i 4) c))))] dX1_topCell_46 rfl rfl (by decide) ?_
            refine w_goto 4 dX1_topCell_49 (by decide) ?_
            refine w_drop [3] [some (aR 4 i), some (aI (mTop (h 17 i) (h 4 i 4) c)), some (aI ((c : Int) + 1)), none] rfl ?_
            refine ih4 (by omega) _ _ ?_ ?_
            · exact (by omega)
            · exact (by rw [mTop]; first | rw [if_pos (by omega)] | rw [if_neg (by omega)])
          · refine w_aload_n dX1_topCell_37 rfl ?_
            refine w_geti dX1_topCell_38 fl_X1_25 rfl hi ?_
            refine w_if_eq 46 dX1_topCell_41 (by decide) (by omega) (fun c41 => ?_) (fun c41 => ?_)
            · refine w_iinc [some (aR 4 i), some (aI (mTop (h 17 i) (h 4 i 4) c)), some (aI ((c : Int) + 1)), some (aI ((h 17 i c) - (hOf (h 4 i 1) (h 17 i) (mTop (h 17 i) (h 4 i 4) c))))] dX1_topCell_46 rfl rfl (by decide) ?_
              refine w_goto 4 dX1_topCell_49 (by decide) ?_
              refine w_drop [3] [some (aR 4 i), some (aI (mTop (h 17 i) (h 4 i 4) c)), some (aI ((c : Int) + 1)), none] rfl ?_
              refine ih4 (by omega) _ _ ?_ ?_
              · exact (by omega)
              · exact (by rw [mTop]; first | rw [if_pos (by omega)] | rw [if_neg (by omega)])
            · refine w_iload_n dX1_topCell_44 rfl ?_
              refine w_istore_n [some (aR 4 i), some (aI (c : Int)), some (aI (c : Int)), some (aI ((h 17 i c) - (hOf (h 4 i 1) (h 17 i) (mTop (h 17 i) (h 4 i 4) c))))] dX1_topCell_45 rfl (by decide) ?_
              refine w_iinc [some (aR 4 i), some (aI (c : Int)), some (aI ((c : Int) + 1)), some (aI ((h 17 i c) - (hOf (h 4 i 1) (h 17 i) (mTop (h 17 i) (h 4 i 4) c))))] dX1_topCell_46 rfl rfl (by decide) ?_
              refine w_goto 4 dX1_topCell_49 (by decide) ?_
              refine w_drop [3] [some (aR 4 i), some (aI (c : Int)), some (aI ((c : Int) + 1)), none] rfl ?_
              refine ih4 (by omega) _ _ ?_ ?_
              · exact (by omega)
              · exact (by rw [mTop]; first | rw [if_pos (by omega)] | rw [if_neg (by omega)])
  refine lp4 0 (Nat.zero_le _) _ _ ?_ ?_
  · exact (by omega)
  · exact rfl
set_option maxRecDepth 100000 in
set_option maxHeartbeats 4000000 in
theorem c_X1_topHeight {d : Nat} {h : fwH} {Q : Option fwV → fwH → Prop} (i : Nat) (hi : i < 6) (hG : gOk h i) (k : Q (some (aI (mMax (h 17 i) (h 4 i 1).toNat))) h) : fwCt mX1_topHeight (d + 1) [aR 4 i] h Q := by
  refine fwCt_of [some (aR 4 i), none, none, none] rfl rfl rfl ?_
  obtain ⟨⟨g1, g2⟩, ⟨g3, g4⟩, ⟨g5, g6⟩, g7, g8⟩ := id hG
  refine w_iconst dX1_topHeight_0 ?_
  refine w_istore_n [some (aR 4 i), some (aI 0), none, none] dX1_topHeight_1 rfl (by decide) ?_
  refine w_iconst dX1_topHeight_2 ?_
  refine w_istore_n [some (aR 4 i), some (aI 0), some (aI 0), none] dX1_topHeight_3 rfl (by decide) ?_
  have lp4 : ∀ c : Nat, c ≤ (h 4 i 1).toNat → ∀ (y4 to : Int), y4 = (c : Int) → to = mMax (h 17 i) c → fwWP mX1_topHeight (d + 1) 4 [some (aR 4 i), some (aI to), some (aI y4), none] [] h Q := by
    refine fw_up (fun c hc4 ih4 => ?_)
    intro y4 to ey4 e_to
    subst ey4
    subst e_to
    have ht := mMax_rng (H := h 17 i) (b := 1000) (by omega) c (fun j hj => g8 j (by omega))
    show fwWP mX1_topHeight (d + 1) 4 [some (aR 4 i), some (aI (mMax (h 17 i) c)), some (aI (c : Int)), none] [] h Q
    refine w_iload_n dX1_topHeight_4 rfl ?_
    refine w_aload_n dX1_topHeight_5 rfl ?_
    refine w_geti dX1_topHeight_6 fl_X1_15 rfl hi ?_
    refine w_icmp_ge 31 dX1_topHeight_9 (by decide) (by omega) (by omega) (fun c9 => ?_) (fun c9 => ?_)
    · have ec4 : (h 4 i 1).toNat = c := by omega
      subst ec4
      refine w_iload_n dX1_topHeight_31 rfl ?_
      exact w_iretE dX1_topHeight_32 rfl (by rfl) k
    · refine w_aload_n dX1_topHeight_12 rfl ?_
      refine w_iload_n dX1_topHeight_13 rfl ?_
      refine w_callV (d := d + 0) (S := []) [aI (c : Int)] dX1_topHeight_14 ml_X1_33 ok_X1_heightOf vi_X1_heightOf rfl rfl hi rfl (Nat.le_of_ble_eq_true rfl) ?_
      refine c_X1_heightOfE (d := d) i (c : Int) (h 17 i c) hi (by first | assumption | omega | decide) (by first | assumption | omega | decide) (hOf_in (by omega)) ?_
      show fwWP mX1_topHeight (d + 1) 17 [some (aR 4 i), some (aI (mMax (h 17 i) c)), some (aI (c : Int)), none] [aI (h 17 i c)] h Q
      have hc1 := g8 c (by omega)
      refine w_istore_n [some (aR 4 i), some (aI (mMax (h 17 i) c)), some (aI (c : Int)), some (aI (h 17 i c))] dX1_topHeight_17 rfl (by decide) ?_
      refine w_iload_n dX1_topHeight_18 rfl ?_
      refine w_iload_n dX1_topHeight_19 rfl ?_
      refine w_icmp_le 25 dX1_topHeight_20 (by decide) (by omega) (by omega) (fun c20 => ?_) (fun c20 => ?_)
      · refine w_iinc [some (aR 4 i), some (aI (mMax (h 17 i) c)), some (aI ((c : Int) + 1)), some (aI (h 17 i c))] dX1_topHeight_25 rfl rfl (by decide) ?_
        refine w_goto 4 dX1_topHeight_28 (by decide) ?_
        refine w_drop [3] [some (aR 4 i), some (aI (mMax (h 17 i) c)), some (aI ((c : Int) + 1)), none] rfl ?_
        refine ih4 (by omega) _ _ ?_ ?_
        · exact (by omega)
        · exact (by rw [mMax]; first | rw [if_pos (by omega)] | rw [if_neg (by omega)])
      · refine w_iload_n dX1_topHeight_23 rfl ?_
        refine w_istore_n [some (aR 4 i), some (aI (h 17 i c)), some (aI (c : Int)), some (aI (h 17 i c))] dX1_topHeight_24 rfl (by decide) ?_
        refine w_iinc [some (aR 4 i), some (aI (h 17 i c)), some (aI ((c : Int) + 1)), some (aI (h 17 i c))] dX1_topHeight_25 rfl rfl (by decide) ?_
        refine w_goto 4 dX1_topHeight_28 (by decide) ?_
        refine w_drop [3] [some (aR 4 i), some (aI (h 17 i c)), some (aI ((c : Int) + 1)), none] rfl ?_
        refine ih4 (by omega) _ _ ?_ ?_
        · exact (by omega)
        · exact (by rw [mMax]; first | rw [if_pos (by omega)] | rw [if_neg (by omega)])
  refine lp4 0 (Nat.zero_le _) _ _ ?_ ?_
  · exact (by omega)
  · exact rfl
def mSum (H : Nat → Int) : Nat → Int
  | 0 => 0
  | c + 1 => mSum H c + H c
set_option maxRecDepth 100000 in
set_option maxHeartbeats 4000000 in
theorem c_X1_feetInAll {d : Nat} {h : fwH} {Q : Option fwV → fwH → Prop} (i : Nat) (hi : i < 6) (hG : gOk h i) (k : Q (some (aI (mSum (h 17 i) (h 4 i 1).toNat))) h) : fwCt mX1_feetInAll (d + 1) [aR 4 i] h Q := by
  refine fwCt_of [some (aR 4 i), none, none] rfl rfl rfl ?_
  obtain ⟨⟨g1, g2⟩, ⟨g3, g4⟩, ⟨g5, g6⟩, g7, g8⟩ := id hG
  refine w_iconst dX1_feetInAll_0 ?_
  refine w_istore_n [some (aR 4 i), some (aI 0), none] dX1_feetInAll_1 rfl (by decide) ?_
  refine w_iconst dX1_feetInAll_2 ?_
  refine w_istore_n [some (aR 4 i), some (aI 0), some (aI 0)] dX1_feetInAll_3 rfl (by decide) ?_
  have lp4 : ∀ c : Nat, c ≤ (h 4 i 1).toNat → ∀ (y4 to : Int), y4 = (c : Int) → to = mSum (h 17 i) c → fwWP mX1_feetInAll (d + 1) 4 [some (aR 4 i), some (aI to), some (aI y4)] [] h Q := by
    refine fw_up (fun c hc4 ih4 => ?_)
    intro y4 to ey4 e_to
    subst ey4
    subst e_to
    show fwWP mX1_feetInAll (d + 1) 4 [some (aR 4 i), some (aI (mSum (h 17 i) c)), some (aI (c : Int))] [] h Q
    refine w_iload_n dX1_feetInAll_4 rfl ?_
    refine w_aload_n dX1_feetInAll_5 rfl ?_
    refine w_geti dX1_feetInAll_6 fl_X1_15 rfl hi ?_
    refine w_icmp_ge 26 dX1_feetInAll_9 (by decide) (by omega) (by omega) (fun c9 => ?_) (fun c9 => ?_)
    · have ec4 : (h 4 i 1).toNat = c := by omega
      subst ec4
      refine w_iload_n dX1_feetInAll_26 rfl ?_
      exact w_iretE dX1_feetInAll_27 rfl (by rfl) k
    · refine w_iload_n dX1_feetInAll_12 rfl ?_
      refine w_aload_n dX1_feetInAll_13 rfl ?_
      refine w_iload_n dX1_feetInAll_14 rfl ?_
      refine w_callV (d := d + 0) (S := [aI (mSum (h 17 i) c)]) [aI (c : Int)] dX1_feetInAll_15 ml_X1_33 ok_X1_heightOf vi_X1_heightOf rfl rfl hi rfl (Nat.le_of_ble_eq_true rfl) ?_
      refine c_X1_heightOfE (d := d) i (c : Int) (h 17 i c) hi (by first | assumption | omega | decide) (by first | assumption | omega | decide) (hOf_in (by omega)) ?_
      show fwWP mX1_feetInAll (d + 1) 18 [some (aR 4 i), some (aI (mSum (h 17 i) c)), some (aI (c : Int))] [aI (h 17 i c), aI (mSum (h 17 i) c)] h Q
      have hc1 := g8 c (by omega)
      refine w_iadd dX1_feetInAll_18 ?_
      refine w_istore_n [some (aR 4 i), some (aI ((mSum (h 17 i) c) + (h 17 i c))), some (aI (c : Int))] dX1_feetInAll_19 rfl (by decide) ?_
      refine w_iinc [some (aR 4 i), some (aI ((mSum (h 17 i) c) + (h 17 i c))), some (aI ((c : Int) + 1))] dX1_feetInAll_20 rfl rfl (by decide) ?_
      refine w_goto 4 dX1_feetInAll_23 (by decide) ?_
      refine ih4 (by omega) _ _ ?_ ?_
      · exact (by omega)
      · exact rfl
  refine lp4 0 (Nat.zero_le _) _ _ ?_ ?_
  · exact (by omega)
  · exact rfl
def mBits (p : Nat → Bool) : Nat → Int
  | 0 => 0
  | c + 1 => if p c = true then fwOr (mBits p c) (fwShl 1 c) else mBits p c
set_option maxRecDepth 100000 in
set_option maxHeartbeats 4000000 in
theorem c_X1_snowyCells {d : Nat} {h : fwH} {Q : Option fwV → fwH → Prop} (i : Nat) (hi : i < 6) (hG : gOk h i) (k : Q (some (aI (mBits (fun c => decide (h 4 i 2 ≤ h 17 i c)) (h 4 i 1).toNat))) h) : fwCt mX1_snowyCells (d + 1) [aR 4 i] h Q := by
  refine fwCt_of [some (aR 4 i), none, none] rfl rfl rfl ?_
  obtain ⟨⟨g1, g2⟩, ⟨g3, g4⟩, ⟨g5, g6⟩, g7, g8⟩ := id hG
  refine w_iconst dX1_snowyCells_0 ?_
  refine w_istore_n [some (aR 4 i), some (aI 0), none] dX1_snowyCells_1 rfl (by decide) ?_
  refine w_iconst dX1_snowyCells_2 ?_
  refine w_istore_n [some (aR 4 i), some (aI 0), some (aI 0)] dX1_snowyCells_3 rfl (by decide) ?_
  have lp4 : ∀ c : Nat, c ≤ (h 4 i 1).toNat → ∀ (y4 bi : Int), y4 = (c : Int) → bi = mBits (fun c => decide (h 4 i 2 ≤ h 17 i c)) c → fwWP mX1_snowyCells (d + 1) 4 [some (aR 4 i), some (aI bi), some (aI y4)] [] h Q := by
    refine fw_up (fun c hc4 ih4 => ?_)
    intro y4 bi ey4 e_bi
    subst ey4
    subst e_bi
    show fwWP mX1_snowyCells (d + 1) 4 [some (aR 4 i), some (aI (mBits (fun c => decide (h 4 i 2 ≤ h 17 i c)) c)), some (aI (c : Int))] [] h Q
    refine w_iload_n dX1_snowyCells_4 rfl ?_
    refine w_aload_n dX1_snowyCells_5 rfl ?_
    refine w_geti dX1_snowyCells_6 fl_X1_15 rfl hi ?_
    refine w_icmp_ge 36 dX1_snowyCells_9 (by decide) (by omega) (by omega) (fun c9 => ?_) (fun c9 => ?_)
    · have ec4 : (h 4 i 1).toNat = c := by omega
      subst ec4
      refine w_iload_n dX1_snowyCells_36 rfl ?_
      exact w_iretE dX1_snowyCells_37 rfl (by rfl) k
    · refine w_aload_n dX1_snowyCells_12 rfl ?_
      refine w_iload_n dX1_snowyCells_13 rfl ?_
      refine w_callV (d := d + 0) (S := []) [aI (c : Int)] dX1_snowyCells_14 ml_X1_33 ok_X1_heightOf vi_X1_heightOf rfl rfl hi rfl (Nat.le_of_ble_eq_true rfl) ?_
      refine c_X1_heightOfE (d := d) i (c : Int) (h 17 i c) hi (by first | assumption | omega | decide) (by first | assumption | omega | decide) (hOf_in (by omega)) ?_
      show fwWP mX1_snowyCells (d + 1) 17 [some (aR 4 i), some (aI (mBits (fun c => decide (h 4 i 2 ≤ h 17 i c)) c)), some (aI (c : Int))] [aI (h 17 i c)] h Q
      have hc1 := g8 c (by omega)
      refine w_aload_n dX1_snowyCells_17 rfl ?_
      refine w_geti dX1_snowyCells_18 fl_X1_19 rfl hi ?_
      refine w_icmp_lt 30 dX1_snowyCells_21 (by decide) (by omega) (by omega) (fun c21 => ?_) (fun c21 => ?_)
      · refine w_iinc [some (aR 4 i), some (aI (mBits (fun c => decide (h 4 i 2 ≤ h 17 i c)) c)), some (aI ((c : Int) + 1))] dX1_snowyCells_30 rfl rfl (by decide) ?_
        refine w_goto 4 dX1_snowyCells_33 (by decide) ?_
        refine ih4 (by omega) _ _ ?_ ?_
        · exact (by omega)
        · exact (by rw [mBits]; first | rw [if_pos (by simp; omega)] | rw [if_neg (by simp; omega)])
      · refine w_iload_n dX1_snowyCells_24 rfl ?_
        refine w_iconst dX1_snowyCells_25 ?_
        refine w_iload_n dX1_snowyCells_26 rfl ?_
        refine w_ishl dX1_snowyCells_27 ?_
        refine w_ior dX1_snowyCells_28 ?_
        refine w_istore_n [some (aR 4 i), some (aI (fwOr (mBits (fun c => decide (h 4 i 2 ≤ h 17 i c)) c) (fwShl 1 (c : Int)))), some (aI (c : Int))] dX1_snowyCells_29 rfl (by decide) ?_
        refine w_iinc [some (aR 4 i), some (aI (fwOr (mBits (fun c => decide (h 4 i 2 ≤ h 17 i c)) c) (fwShl 1 (c : Int)))), some (aI ((c : Int) + 1))] dX1_snowyCells_30 rfl rfl (by decide) ?_
        refine w_goto 4 dX1_snowyCells_33 (by decide) ?_
        refine ih4 (by omega) _ _ ?_ ?_
        · exact (by omega)
        · exact (by rw [mBits]; first | rw [if_pos (by simp; omega)] | rw [if_neg (by simp; omega)])
  refine lp4 0 (Nat.zero_le _) _ _ ?_ ?_
  · exact (by omega)
  · exact rfl
theorem c_X1_changeE {d : Nat} {h : fwH} {Q : Option fwV → fwH → Prop} (i : Nat) (x y : Int) (hi : i < 6) (hG : gOk h i) (h0 : 0 ≤ x) (h1 : x < h 4 i 1) (k : Q none (fwUc h 17 i (fwFu (h 17 i) x.toNat (h 17 i x.toNat + y)))) : fwCt mX1_change (d + 1) [aR 4 i, aI x, aI y] h Q := by
  have h2 := hG.1
  refine c_X1_change i x y hi hG (by omega) ?_
  rw [if_pos ⟨h0, h1⟩, fwUp_fu]
  exact k
/-- TOP's FOOT taken -/
def mLow (n : Nat) (H : Nat → Int) (ls : Int) : Nat → Int := if 0 < n ∧ H (mTop H ls n).toNat ≠ 0 then fwFu H (mTop H ls n).toNat (H (mTop H ls n).toNat + -1) else H
set_option maxRecDepth 100000 in
set_option maxHeartbeats 4000000 in
theorem c_X1_lower {d : Nat} {h : fwH} {Q : Option fwV → fwH → Prop} (i : Nat) (hi : i < 6) (hG : gOk h i) (k : Q (some (aI (fwB (0 < (h 4 i 1).toNat ∧ h 17 i (mTop (h 17 i) (h 4 i 4) (h 4 i 1).toNat).toNat ≠ 0)))) (fwUc h 17 i (mLow (h 4 i 1).toNat (h 17 i) (h 4 i 4)))) : fwCt mX1_lower (d + 2) [aR 4 i] h Q := by
  refine fwCt_of [some (aR 4 i), none] rfl rfl rfl ?_
  obtain ⟨⟨g1, g2⟩, ⟨g3, g4⟩, ⟨g5, g6⟩, g7, g8⟩ := id hG
  refine w_aload_n dX1_lower_0 rfl ?_
  refine w_callV (d := d + 1) (S := []) [] dX1_lower_1 ml_X1_45 ok_X1_topCell vi_X1_topCell rfl rfl hi rfl (Nat.le_of_ble_eq_true rfl) ?_
  refine c_X1_topCell (d := d) i hi (by first | assumption | omega | decide) ?_
  show fwWP mX1_lower (d + 2) 4 [some (aR 4 i), none] [aI (mTop (h 17 i) (h 4 i 4) (h 4 i 1).toNat)] h Q
  refine w_istore_n [some (aR 4 i), some (aI (mTop (h 17 i) (h 4 i 4) (h 4 i 1).toNat))] dX1_lower_4 rfl (by decide) ?_
  have ht := mTop_rng (h 17 i) (h 4 i 4) (h 4 i 1).toNat
  have hz : hOf (h 4 i 1) (h 17 i) (mTop (h 17 i) (h 4 i 4) (h 4 i 1).toNat) ≠ 0 ↔ (0 < (h 4 i 1).toNat ∧ h 17 i (mTop (h 17 i) (h 4 i 4) (h 4 i 1).toNat).toNat ≠ 0) := by unfold hOf; split <;> omega
  refine w_aload_n dX1_lower_5 rfl ?_
  refine w_iload_n dX1_lower_6 rfl ?_
  refine w_callV (d := d + 1) (S := []) [aI (mTop (h 17 i) (h 4 i 4) (h 4 i 1).toNat)] dX1_lower_7 ml_X1_33 ok_X1_heightOf vi_X1_heightOf rfl rfl hi rfl (Nat.le_of_ble_eq_true rfl) ?_
  refine c_X1_heightOf (d := (d + 1)) i (mTop (h 17 i) (h 4 i 4) (h 4 i 1).toNat) hi (by first | assumption | omega | decide) (by first | assumption | omega | decide) ?_
  show fwWP mX1_lower (d + 2) 10 [some (aR 4 i), some (aI (mTop (h 17 i) (h 4 i 4) (h 4 i 1).toNat))] [aI (hOf (h 4 i 1) (h 17 i) (mTop (h 17 i) (h 4 i 4) (h 4 i 1).toNat))] h Q
  have hb1 := hOf_rng (n := (h 4 i 1)) (H := (h 17 i)) (b := 1000) (by omega) (by omega) (by assumption) (mTop (h 17 i) (h 4 i 4) (h 4 i 1).toNat)
  refine w_if_ne 15 dX1_lower_10 (by decide) (by omega) (fun c10 => ?_) (fun c10 => ?_)
  · refine w_aload_n dX1_lower_15 rfl ?_
    refine w_iload_n dX1_lower_16 rfl ?_
    refine w_iconst dX1_lower_17 ?_
    refine w_callV (d := d + 1) (S := []) [aI (mTop (h 17 i) (h 4 i 4) (h 4 i 1).toNat), aI (-1)] dX1_lower_18 ml_X1_49 ok_X1_change vi_X1_change rfl rfl hi rfl (Nat.le_of_ble_eq_true rfl) ?_
    refine c_X1_changeE (d := d) i (mTop (h 17 i) (h 4 i 4) (h 4 i 1).toNat) (-1) hi (by first | assumption | omega | decide) (by first | assumption | omega | decide) (show mTop (h 17 i) (h 4 i 4) (h 4 i 1).toNat < h 4 i 1 by first | assumption | omega | decide) ?_
    show fwWP mX1_lower (d + 2) 21 [some (aR 4 i), some (aI (mTop (h 17 i) (h 4 i 4) (h 4 i 1).toNat))] [] (fwUc h 17 i (fwFu (h 17 i) (mTop (h 17 i) (h 4 i 4) (h 4 i 1).toNat).toNat (h 17 i (mTop (h 17 i) (h 4 i 4) (h 4 i 1).toNat).toNat + (-1)))) Q
    refine w_iconst dX1_lower_21 ?_
    exact w_zretE (P := 0 < (h 4 i 1).toNat ∧ h 17 i (mTop (h 17 i) (h 4 i 4) (h 4 i 1).toNat).toNat ≠ 0) dX1_lower_22 rfl (by first | (exfalso; omega) | (rw [fwB_t (by omega)]) | (rw [fwB_f (by omega)])) (by rw [mLow, if_pos (by omega)] at k; exact k)
  · refine w_iconst dX1_lower_13 ?_
    exact w_zretE (P := 0 < (h 4 i 1).toNat ∧ h 17 i (mTop (h 17 i) (h 4 i 4) (h 4 i 1).toNat).toNat ≠ 0) dX1_lower_14 rfl (by first | (exfalso; omega) | (rw [fwB_t (by omega)]) | (rw [fwB_f (by omega)])) (by rw [mLow, if_neg (by omega), fwUc_self] at k; exact k)
def mDown (n : Int) (H : Nat → Int) (c sl : Int) : Int :=
  if (0 ≤ c - 1 ∧ c - 1 < n ∧ hOf n H (c - 1) < hOf n H c - sl) ∧ (¬ (0 ≤ c + 1 ∧ c + 1 < n ∧ hOf n H (c + 1) < hOf n H c - sl) ∨ hOf n H (c - 1) ≤ hOf n H (c + 1)) then c - 1
  else if 0 ≤ c + 1 ∧ c + 1 < n ∧ hOf n H (c + 1) < hOf n H c - sl then c + 1 else -1
set_option maxRecDepth 100000 in
set_option maxHeartbeats 4000000 in
theorem c_X1_wayDown {d : Nat} {h : fwH} {Q : Option fwV → fwH → Prop} (i : Nat) (x y : Int) (hi : i < 6) (hG : gOk h i) (hx : -1000000 ≤ x ∧ x < 1000000) (hy : -1000000 ≤ y ∧ y < 1000000) (k : Q (some (aI (mDown (h 4 i 1) (h 17 i) x y))) h) : fwCt mX1_wayDown (d + 1) [aR 4 i, aI x, aI y] h Q := by
  refine fwCt_of [some (aR 4 i), some (aI x), some (aI y), none, none, none] rfl rfl rfl ?_
  obtain ⟨⟨g1, g2⟩, ⟨g3, g4⟩, ⟨g5, g6⟩, g7, g8⟩ := id hG
  refine w_aload_n dX1_wayDown_0 rfl ?_
  refine w_iload_n dX1_wayDown_1 rfl ?_
  refine w_callV (d := d + 0) (S := []) [aI x] dX1_wayDown_2 ml_X1_33 ok_X1_heightOf vi_X1_heightOf rfl rfl hi rfl (Nat.le_of_ble_eq_true rfl) ?_
  refine c_X1_heightOf (d := d) i x hi (by first | assumption | omega | decide) (by first | assumption | omega | decide) ?_
  show fwWP mX1_wayDown (d + 1) 5 [some (aR 4 i), some (aI x), some (aI y), none, none, none] [aI (hOf (h 4 i 1) (h 17 i) x)] h Q
  have hb1 := hOf_rng (n := (h 4 i 1)) (H := (h 17 i)) (b := 1000) (by omega) (by omega) (by assumption) x
  refine w_iload_n dX1_wayDown_5 rfl ?_
  refine w_isub dX1_wayDown_6 ?_
  refine w_istore_n [some (aR 4 i), some (aI x), some (aI y), some (aI ((hOf (h 4 i 1) (h 17 i) x) - y)), none, none] dX1_wayDown_7 rfl (by decide) ?_
  have J34 : ∀ v : Int, v = fwB (0 ≤ x - 1 ∧ x - 1 < h 4 i 1 ∧ hOf (h 4 i 1) (h 17 i) (x - 1) < hOf (h 4 i 1) (h 17 i) x - y) → fwWP mX1_wayDown (d + 1) 34 [some (aR 4 i), some (aI x), some (aI y), some (aI ((hOf (h 4 i 1) (h 17 i) x) - y)), none, none] [aI v] h Q := by
    intro v ev
    subst ev
    refine w_istore [some (aR 4 i), some (aI x), some (aI y), some (aI ((hOf (h 4 i 1) (h 17 i) x) - y)), some (aI (fwB (0 ≤ x - 1 ∧ x - 1 < h 4 i 1 ∧ hOf (h 4 i 1) (h 17 i) (x - 1) < hOf (h 4 i 1) (h 17 i) x - y))), none] dX1_wayDown_34 rfl (by decide) ?_
    have J62 : ∀ v : Int, v = fwB (0 ≤ x + 1 ∧ x + 1 < h 4 i 1 ∧ hOf (h 4 i 1) (h 17 i) (x + 1) < hOf (h 4 i 1) (h 17 i) x - y) → fwWP mX1_wayDown (d + 1) 62 [some (aR 4 i), some (aI x), some (aI y), some (aI ((hOf (h 4 i 1) (h 17 i) x) - y)), some (aI (fwB (0 ≤ x - 1 ∧ x - 1 < h 4 i 1 ∧ hOf (h 4 i 1) (h 17 i) (x - 1) < hOf (h 4 i 1) (h 17 i) x - y))), none] [aI v] h Q := by
      intro v ev
      subst ev
      refine w_istore [some (aR 4 i), some (aI x), some (aI y), some (aI ((hOf (h 4 i 1) (h 17 i) x) - y)), some (aI (fwB (0 ≤ x - 1 ∧ x - 1 < h 4 i 1 ∧ hOf (h 4 i 1) (h 17 i) (x - 1) < hOf (h 4 i 1) (h 17 i) x - y))), some (aI (fwB (0 ≤ x + 1 ∧ x + 1 < h 4 i 1 ∧ hOf (h 4 i 1) (h 17 i) (x + 1) < hOf (h 4 i 1) (h 17 i) x - y)))] dX1_wayDown_62 rfl (by decide) ?_
      refine w_iload dX1_wayDown_64 rfl ?_
      refine w_ifB_eq 95 dX1_wayDown_66 (by decide) (fun c66 => ?_) (fun c66 => ?_)
      · refine w_iload dX1_wayDown_95 rfl ?_
        refine w_ifB_eq 106 dX1_wayDown_97 (by decide) (fun c97 => ?_) (fun c97 => ?_)
        · refine w_iconst dX1_wayDown_106 ?_
          exact w_iretE dX1_wayDown_107 rfl (by rw [mDown]; first | (exfalso; omega) | rw [if_pos (by omega)] | rw [if_neg (by omega), if_pos (by omega)] | rw [if_neg (by omega), if_neg (by omega)]) k
        · refine w_iload_n dX1_wayDown_100 rfl ?_
          refine w_iconst dX1_wayDown_101 ?_
          refine w_iadd dX1_wayDown_102 ?_
          refine w_goto 107 dX1_wayDown_103 (by decide) ?_
          exact w_iretE dX1_wayDown_107 rfl (by rw [mDown]; first | (exfalso; omega) | rw [if_pos (by omega)] | rw [if_neg (by omega), if_pos (by omega)] | rw [if_neg (by omega), if_neg (by omega)]) k
      · refine w_iload dX1_wayDown_69 rfl ?_
        refine w_ifB_eq 91 dX1_wayDown_71 (by decide) (fun c71 => ?_) (fun c71 => ?_)
        · refine w_iload_n dX1_wayDown_91 rfl ?_
          refine w_iconst dX1_wayDown_92 ?_
          refine w_isub dX1_wayDown_93 ?_
          exact w_iretE dX1_wayDown_94 rfl (by rw [mDown]; first | (exfalso; omega) | rw [if_pos (by omega)] | rw [if_neg (by omega), if_pos (by omega)] | rw [if_neg (by omega), if_neg (by omega)]) k
        · refine w_aload_n dX1_wayDown_74 rfl ?_
          refine w_iload_n dX1_wayDown_75 rfl ?_
          refine w_iconst dX1_wayDown_76 ?_
          refine w_isub dX1_wayDown_77 ?_
          refine w_callV (d := d + 0) (S := []) [aI (x - 1)] dX1_wayDown_78 ml_X1_33 ok_X1_heightOf vi_X1_heightOf rfl rfl hi rfl (Nat.le_of_ble_eq_true rfl) ?_
          refine c_X1_heightOf (d := d) i (x - 1) hi (by first | assumption | omega | decide) (by first | assumption | omega | decide) ?_
          show fwWP mX1_wayDown (d + 1) 81 [some (aR 4 i), some (aI x), some (aI y), some (aI ((hOf (h 4 i 1) (h 17 i) x) - y)), some (aI (fwB (0 ≤ x - 1 ∧ x - 1 < h 4 i 1 ∧ hOf (h 4 i 1) (h 17 i) (x - 1) < hOf (h 4 i 1) (h 17 i) x - y))), some (aI (fwB (0 ≤ x + 1 ∧ x + 1 < h 4 i 1 ∧ hOf (h 4 i 1) (h 17 i) (x + 1) < hOf (h 4 i 1) (h 17 i) x - y)))] [aI (hOf (h 4 i 1) (h 17 i) (x - 1))] h Q
          have hb5 := hOf_rng (n := (h 4 i 1)) (H := (h 17 i)) (b := 1000) (by omega) (by omega) (by assumption) (x - 1)
          refine w_aload_n dX1_wayDown_81 rfl ?_
          refine w_iload_n dX1_wayDown_82 rfl ?_
          refine w_iconst dX1_wayDown_83 ?_
          refine w_iadd dX1_wayDown_84 ?_
          refine w_callV (d := d + 0) (S := [aI (hOf (h 4 i 1) (h 17 i) (x - 1))]) [aI (x + 1)] dX1_wayDown_85 ml_X1_33 ok_X1_heightOf vi_X1_heightOf rfl rfl hi rfl (Nat.le_of_ble_eq_true rfl) ?_
          refine c_X1_heightOf (d := d) i (x + 1) hi (by first | assumption | omega | decide) (by first | assumption | omega | decide) ?_
          show fwWP mX1_wayDown (d + 1) 88 [some (aR 4 i), some (aI x), some (aI y), some (aI ((hOf (h 4 i 1) (h 17 i) x) - y)), some (aI (fwB (0 ≤ x - 1 ∧ x - 1 < h 4 i 1 ∧ hOf (h 4 i 1) (h 17 i) (x - 1) < hOf (h 4 i 1) (h 17 i) x - y))), some (aI (fwB (0 ≤ x + 1 ∧ x + 1 < h 4 i 1 ∧ hOf (h 4 i 1) (h 17 i) (x + 1) < hOf (h 4 i 1) (h 17 i) x - y)))] [aI (hOf (h 4 i 1) (h 17 i) (x + 1)), aI (hOf (h 4 i 1) (h 17 i) (x - 1))] h Q
          have hb6 := hOf_rng (n := (h 4 i 1)) (H := (h 17 i)) (b := 1000) (by omega) (by omega) (by assumption) (x + 1)
          refine w_icmp_gt 95 dX1_wayDown_88 (by decide) (by omega) (by omega) (fun c88 => ?_) (fun c88 => ?_)
          · refine w_iload dX1_wayDown_95 rfl ?_
            refine w_ifB_eq 106 dX1_wayDown_97 (by decide) (fun c97 => ?_) (fun c97 => ?_)
            · refine w_iconst dX1_wayDown_106 ?_
              exact w_iretE dX1_wayDown_107 rfl (by rw [mDown]; first | (exfalso; omega) | rw [if_pos (by omega)] | rw [if_neg (by omega), if_pos (by omega)] | rw [if_neg (by omega), if_neg (by omega)]) k
            · refine w_iload_n dX1_wayDown_100 rfl ?_
              refine w_iconst dX1_wayDown_101 ?_
              refine w_iadd dX1_wayDown_102 ?_
              refine w_goto 107 dX1_wayDown_103 (by decide) ?_
              exact w_iretE dX1_wayDown_107 rfl (by rw [mDown]; first | (exfalso; omega) | rw [if_pos (by omega)] | rw [if_neg (by omega), if_pos (by omega)] | rw [if_neg (by omega), if_neg (by omega)]) k
          · refine w_iload_n dX1_wayDown_91 rfl ?_
            refine w_iconst dX1_wayDown_92 ?_
            refine w_isub dX1_wayDown_93 ?_
            exact w_iretE dX1_wayDown_94 rfl (by rw [mDown]; first | (exfalso; omega) | rw [if_pos (by omega)] | rw [if_neg (by omega), if_pos (by omega)] | rw [if_neg (by omega), if_neg (by omega)]) k
    refine w_aload_n dX1_wayDown_36 rfl ?_
    refine w_iload_n dX1_wayDown_37 rfl ?_
    refine w_iconst dX1_wayDown_38 ?_
    refine w_iadd dX1_wayDown_39 ?_
    refine w_callV (d := d + 0) (S := []) [aI (x + 1)] dX1_wayDown_40 ml_X1_29 ok_X1_has vi_X1_has rfl rfl hi rfl (Nat.le_of_ble_eq_true rfl) ?_
    refine c_X1_has (d := d) i (x + 1) hi (by first | assumption | omega | decide) (by first | assumption | omega | decide) ?_
    show fwWP mX1_wayDown (d + 1) 43 [some (aR 4 i), some (aI x), some (aI y), some (aI ((hOf (h 4 i 1) (h 17 i) x) - y)), some (aI (fwB (0 ≤ x - 1 ∧ x - 1 < h 4 i 1 ∧ hOf (h 4 i 1) (h 17 i) (x - 1) < hOf (h 4 i 1) (h 17 i) x - y))), none] [aI (fwB (0 ≤ (x + 1) ∧ (x + 1) < h 4 i 1))] h Q
    refine w_ifB_eq 61 dX1_wayDown_43 (by decide) (fun c43 => ?_) (fun c43 => ?_)
    · refine w_iconst dX1_wayDown_61 ?_
      exact J62 _ (by first | omega | (rw [fwB_t (by omega)]) | (rw [fwB_f (by omega)]))
    · refine w_aload_n dX1_wayDown_46 rfl ?_
      refine w_iload_n dX1_wayDown_47 rfl ?_
      refine w_iconst dX1_wayDown_48 ?_
      refine w_iadd dX1_wayDown_49 ?_
      refine w_callV (d := d + 0) (S := []) [aI (x + 1)] dX1_wayDown_50 ml_X1_33 ok_X1_heightOf vi_X1_heightOf rfl rfl hi rfl (Nat.le_of_ble_eq_true rfl) ?_
      refine c_X1_heightOf (d := d) i (x + 1) hi (by first | assumption | omega | decide) (by first | assumption | omega | decide) ?_
      show fwWP mX1_wayDown (d + 1) 53 [some (aR 4 i), some (aI x), some (aI y), some (aI ((hOf (h 4 i 1) (h 17 i) x) - y)), some (aI (fwB (0 ≤ x - 1 ∧ x - 1 < h 4 i 1 ∧ hOf (h 4 i 1) (h 17 i) (x - 1) < hOf (h 4 i 1) (h 17 i) x - y))), none] [aI (hOf (h 4 i 1) (h 17 i) (x + 1))] h Q
      have hb10 := hOf_rng (n := (h 4 i 1)) (H := (h 17 i)) (b := 1000) (by omega) (by omega) (by assumption) (x + 1)
      refine w_iload_n dX1_wayDown_53 rfl ?_
      refine w_icmp_ge 61 dX1_wayDown_54 (by decide) (by omega) (by omega) (fun c54 => ?_) (fun c54 => ?_)
      · refine w_iconst dX1_wayDown_61 ?_
        exact J62 _ (by first | omega | (rw [fwB_t (by omega)]) | (rw [fwB_f (by omega)]))
      · refine w_iconst dX1_wayDown_57 ?_
        refine w_goto 62 dX1_wayDown_58 (by decide) ?_
        exact J62 _ (by first | omega | (rw [fwB_t (by omega)]) | (rw [fwB_f (by omega)]))
  refine w_aload_n dX1_wayDown_8 rfl ?_
  refine w_iload_n dX1_wayDown_9 rfl ?_
  refine w_iconst dX1_wayDown_10 ?_
  refine w_isub dX1_wayDown_11 ?_
  refine w_callV (d := d + 0) (S := []) [aI (x - 1)] dX1_wayDown_12 ml_X1_29 ok_X1_has vi_X1_has rfl rfl hi rfl (Nat.le_of_ble_eq_true rfl) ?_
  refine c_X1_has (d := d) i (x - 1) hi (by first | assumption | omega | decide) (by first | assumption | omega | decide) ?_
  show fwWP mX1_wayDown (d + 1) 15 [some (aR 4 i), some (aI x), some (aI y), some (aI ((hOf (h 4 i 1) (h 17 i) x) - y)), none, none] [aI (fwB (0 ≤ (x - 1) ∧ (x - 1) < h 4 i 1))] h Q
  refine w_ifB_eq 33 dX1_wayDown_15 (by decide) (fun c15 => ?_) (fun c15 => ?_)
  · refine w_iconst dX1_wayDown_33 ?_
    exact J34 _ (by first | omega | (rw [fwB_t (by omega)]) | (rw [fwB_f (by omega)]))
  · refine w_aload_n dX1_wayDown_18 rfl ?_
    refine w_iload_n dX1_wayDown_19 rfl ?_
    refine w_iconst dX1_wayDown_20 ?_
    refine w_isub dX1_wayDown_21 ?_
    refine w_callV (d := d + 0) (S := []) [aI (x - 1)] dX1_wayDown_22 ml_X1_33 ok_X1_heightOf vi_X1_heightOf rfl rfl hi rfl (Nat.le_of_ble_eq_true rfl) ?_
    refine c_X1_heightOf (d := d) i (x - 1) hi (by first | assumption | omega | decide) (by first | assumption | omega | decide) ?_
    show fwWP mX1_wayDown (d + 1) 25 [some (aR 4 i), some (aI x), some (aI y), some (aI ((hOf (h 4 i 1) (h 17 i) x) - y)), none, none] [aI (hOf (h 4 i 1) (h 17 i) (x - 1))] h Q
    have hb13 := hOf_rng (n := (h 4 i 1)) (H := (h 17 i)) (b := 1000) (by omega) (by omega) (by assumption) (x - 1)
    refine w_iload_n dX1_wayDown_25 rfl ?_
    refine w_icmp_ge 33 dX1_wayDown_26 (by decide) (by omega) (by omega) (fun c26 => ?_) (fun c26 => ?_)
    · refine w_iconst dX1_wayDown_33 ?_
      exact J34 _ (by first | omega | (rw [fwB_t (by omega)]) | (rw [fwB_f (by omega)]))
    · refine w_iconst dX1_wayDown_29 ?_
      refine w_goto 34 dX1_wayDown_30 (by decide) ?_
      exact J34 _ (by first | omega | (rw [fwB_t (by omega)]) | (rw [fwB_f (by omega)]))
theorem mDown_rng {n : Int} (H : Nat → Int) {c sl : Int} (hn : 0 ≤ n ∧ n ≤ 10) : mDown n H c sl = -1 ∨ (0 ≤ mDown n H c sl ∧ mDown n H c sl < n) := by
  unfold mDown
  split
  · omega
  · split <;> omega
def mDesc (n : Int) (H : Nat → Int) (sl : Int) : Nat → Int → Int
  | 0, c => c
  | f + 1, c => if mDown n H c sl = -1 then c else mDesc n H sl f (mDown n H c sl)
set_option maxRecDepth 100000 in
set_option maxHeartbeats 4000000 in
theorem c_X1_descend {d : Nat} {h : fwH} {Q : Option fwV → fwH → Prop} (i : Nat) (x y : Int) (hi : i < 6) (hG : gOk h i) (hx : -1000000 ≤ x ∧ x < 1000000) (hy : -1000000 ≤ y ∧ y < 1000000) (k : Q (some (aI (mDesc (h 4 i 1) (h 17 i) y 10 x))) h) : fwCt mX1_descend (d + 2) [aR 4 i, aI x, aI y] h Q := by
  refine fwCt_of [some (aR 4 i), some (aI x), some (aI y), none, none, none] rfl rfl rfl ?_
  obtain ⟨⟨g1, g2⟩, ⟨g3, g4⟩, ⟨g5, g6⟩, g7, g8⟩ := id hG
  refine w_iload_n dX1_descend_0 rfl ?_
  refine w_istore_n [some (aR 4 i), some (aI x), some (aI y), some (aI x), none, none] dX1_descend_1 rfl (by decide) ?_
  refine w_iconst dX1_descend_2 ?_
  refine w_istore [some (aR 4 i), some (aI x), some (aI y), some (aI x), some (aI 0), none] dX1_descend_3 rfl (by decide) ?_
  have lp5 : ∀ c : Nat, c ≤ 10 → ∀ (y5 at_ : Int), y5 = (c : Int) → ((-1000000 ≤ at_ ∧ at_ < 1000000) ∧ mDesc (h 4 i 1) (h 17 i) y (10 - c) at_ = mDesc (h 4 i 1) (h 17 i) y 10 x) → fwWP mX1_descend (d + 2) 5 [some (aR 4 i), some (aI x), some (aI y), some (aI at_), some (aI y5), none] [] h Q := by
    refine fw_up (fun c hc5 ih5 => ?_)
    intro y5 at_ ey5 e_at_
    subst ey5
    obtain ⟨ga, e_at⟩ := e_at_
    show fwWP mX1_descend (d + 2) 5 [some (aR 4 i), some (aI x), some (aI y), some (aI at_), some (aI (c : Int)), none] [] h Q
    refine w_iload dX1_descend_5 rfl ?_
    refine w_bipush dX1_descend_7 rfl ?_
    refine w_icmp_ge 37 dX1_descend_9 (by decide) (by omega) (by omega) (fun c9 => ?_) (fun c9 => ?_)
    · have ec5 : 10 = c := by omega
      subst ec5
      refine w_iload_n dX1_descend_37 rfl ?_
      exact w_iretE dX1_descend_38 rfl (by first | exact e_at | (rw [show 10 - 10 = 0 from rfl, mDesc] at e_at; exact e_at)) k
    · refine w_aload_n dX1_descend_12 rfl ?_
      refine w_iload_n dX1_descend_13 rfl ?_
      refine w_iload_n dX1_descend_14 rfl ?_
      refine w_callV (d := d + 1) (S := []) [aI at_, aI y] dX1_descend_15 ml_X1_53 ok_X1_wayDown vi_X1_wayDown rfl rfl hi rfl (Nat.le_of_ble_eq_true rfl) ?_
      refine c_X1_wayDown (d := d) i at_ y hi (by first | assumption | omega | decide) (by first | assumption | omega | decide) (by first | assumption | omega | decide) ?_
      show fwWP mX1_descend (d + 2) 18 [some (aR 4 i), some (aI x), some (aI y), some (aI at_), some (aI (c : Int)), none] [aI (mDown (h 4 i 1) (h 17 i) at_ y)] h Q
      refine w_istore [some (aR 4 i), some (aI x), some (aI y), some (aI at_), some (aI (c : Int)), some (aI (mDown (h 4 i 1) (h 17 i) at_ y))] dX1_descend_18 rfl (by decide) ?_
      have hd := mDown_rng (h 17 i) (c := at_) (sl := y) (n := h 4 i 1) ⟨g1, g2⟩
      obtain ⟨f, hf⟩ : ∃ f : Nat, 10 - c = f + 1 := ⟨9 - c, by omega⟩
      rw [hf, mDesc] at e_at
      refine w_iload dX1_descend_20 rfl ?_
      refine w_iconst dX1_descend_22 ?_
      refine w_icmp_ne 28 dX1_descend_23 (by decide) (by omega) (by omega) (fun c23 => ?_) (fun c23 => ?_)
      · rw [if_neg (by omega)] at e_at
        have hf2 : 10 - (c + 1) = f := by omega
        refine w_iload dX1_descend_28 rfl ?_
        refine w_istore_n [some (aR 4 i), some (aI x), some (aI y), some (aI (mDown (h 4 i 1) (h 17 i) at_ y)), some (aI (c : Int)), some (aI (mDown (h 4 i 1) (h 17 i) at_ y))] dX1_descend_30 rfl (by decide) ?_
        refine w_iinc [some (aR 4 i), some (aI x), some (aI y), some (aI (mDown (h 4 i 1) (h 17 i) at_ y)), some (aI ((c : Int) + 1)), some (aI (mDown (h 4 i 1) (h 17 i) at_ y))] dX1_descend_31 rfl rfl (by decide) ?_
        refine w_goto 5 dX1_descend_34 (by decide) ?_
        refine w_drop [5] [some (aR 4 i), some (aI x), some (aI y), some (aI (mDown (h 4 i 1) (h 17 i) at_ y)), some (aI ((c : Int) + 1)), none] rfl ?_
        refine ih5 (by omega) _ _ ?_ ?_
        · exact (by omega)
        · exact ⟨by omega, by rw [hf2]; exact e_at⟩
      · rw [if_pos (by omega)] at e_at
        refine w_iload_n dX1_descend_26 rfl ?_
        exact w_iretE dX1_descend_27 rfl (by first | exact e_at | (rw [show 10 - 10 = 0 from rfl, mDesc] at e_at; exact e_at)) k
  refine lp5 0 (Nat.zero_le _) _ _ ?_ ?_
  · exact (by omega)
  · exact ⟨hx, rfl⟩
set_option maxRecDepth 100000 in
set_option maxHeartbeats 4000000 in
theorem c_X1_waterEnd {d : Nat} {h : fwH} {Q : Option fwV → fwH → Prop} (i : Nat) (x : Int) (hi : i < 6) (hG : gOk h i) (hx : -1000000 ≤ x ∧ x < 1000000) (k : Q (some (aI (mDesc (h 4 i 1) (h 17 i) 0 10 x))) h) : fwCt mX1_waterEnd (d + 3) [aR 4 i, aI x] h Q := by
  refine fwCt_of [some (aR 4 i), some (aI x)] rfl rfl rfl ?_
  obtain ⟨⟨g1, g2⟩, ⟨g3, g4⟩, ⟨g5, g6⟩, g7, g8⟩ := id hG
  refine w_aload_n dX1_waterEnd_0 rfl ?_
  refine w_iload_n dX1_waterEnd_1 rfl ?_
  refine w_iconst dX1_waterEnd_2 ?_
  refine w_callV (d := d + 2) (S := []) [aI x, aI 0] dX1_waterEnd_3 ml_X1_56 ok_X1_descend vi_X1_descend rfl rfl hi rfl (Nat.le_of_ble_eq_true rfl) ?_
  refine c_X1_descend (d := d) i x 0 hi (by first | assumption | omega | decide) (by first | assumption | omega | decide) (by first | assumption | omega | decide) ?_
  show fwWP mX1_waterEnd (d + 3) 6 [some (aR 4 i), some (aI x)] [aI (mDesc (h 4 i 1) (h 17 i) 0 10 x)] h Q
  exact w_iretE dX1_waterEnd_6 rfl (by rfl) k
theorem mDesc_rng {n : Int} (H : Nat → Int) {sl : Int} (hn : 0 ≤ n ∧ n ≤ 10) : ∀ (f : Nat) (c : Int), (0 ≤ c ∧ c < n) → 0 ≤ mDesc n H sl f c ∧ mDesc n H sl f c < n := by
  intro f
  induction f with
  | zero => intro c hc; exact hc
  | succ f ih =>
    intro c hc
    rw [mDesc]
    split
    · exact hc
    · rename_i h1
      rcases mDown_rng H (c := c) (sl := sl) hn with h2 | h2
      · exact absurd h2 h1
      · exact ih _ h2
def mStay (n : Int) (H : Nat → Int) (rs x : Int) : Int := if 99 ≤ hOf n H (mDesc n H (rs - 1) 10 x) then -1 else mDesc n H (rs - 1) 10 x
set_option maxRecDepth 100000 in
set_option maxHeartbeats 4000000 in
theorem c_X1_stayOf {d : Nat} {h : fwH} {Q : Option fwV → fwH → Prop} (i : Nat) (x : Int) (hi : i < 6) (hG : gOk h i) (hx : 0 ≤ x ∧ x < h 4 i 1) (k : Q (some (aI (mStay (h 4 i 1) (h 17 i) (h 4 i 3) x))) h) : fwCt mX1_stayOf (d + 3) [aR 4 i, aI x] h Q := by
  refine fwCt_of [some (aR 4 i), some (aI x), none] rfl rfl rfl ?_
  obtain ⟨⟨g1, g2⟩, ⟨g3, g4⟩, ⟨g5, g6⟩, g7, g8⟩ := id hG
  refine w_aload_n dX1_stayOf_0 rfl ?_
  refine w_iload_n dX1_stayOf_1 rfl ?_
  refine w_aload_n dX1_stayOf_2 rfl ?_
  refine w_geti dX1_stayOf_3 fl_X1_22 rfl hi ?_
  refine w_iconst dX1_stayOf_6 ?_
  refine w_isub dX1_stayOf_7 ?_
  refine w_callV (d := d + 2) (S := []) [aI x, aI ((h 4 i 3) - 1)] dX1_stayOf_8 ml_X1_56 ok_X1_descend vi_X1_descend rfl rfl hi rfl (Nat.le_of_ble_eq_true rfl) ?_
  refine c_X1_descend (d := d) i x ((h 4 i 3) - 1) hi (by first | assumption | omega | decide) (by first | assumption | omega | decide) (by first | assumption | omega | decide) ?_
  show fwWP mX1_stayOf (d + 3) 11 [some (aR 4 i), some (aI x), none] [aI (mDesc (h 4 i 1) (h 17 i) ((h 4 i 3) - 1) 10 x)] h Q
  refine w_istore_n [some (aR 4 i), some (aI x), some (aI (mDesc (h 4 i 1) (h 17 i) ((h 4 i 3) - 1) 10 x))] dX1_stayOf_11 rfl (by decide) ?_
  have hq : 0 ≤ mDesc (h 4 i 1) (h 17 i) (h 4 i 3 - 1) 10 x ∧ mDesc (h 4 i 1) (h 17 i) (h 4 i 3 - 1) 10 x < h 4 i 1 := mDesc_rng (h 17 i) ⟨g1, g2⟩ 10 x hx
  refine w_aload_n dX1_stayOf_12 rfl ?_
  refine w_iload_n dX1_stayOf_13 rfl ?_
  refine w_callV (d := d + 2) (S := []) [aI (mDesc (h 4 i 1) (h 17 i) ((h 4 i 3) - 1) 10 x)] dX1_stayOf_14 ml_X1_33 ok_X1_heightOf vi_X1_heightOf rfl rfl hi rfl (Nat.le_of_ble_eq_true rfl) ?_
  refine c_X1_heightOf (d := (d + 2)) i (mDesc (h 4 i 1) (h 17 i) ((h 4 i 3) - 1) 10 x) hi (by first | assumption | omega | decide) (by first | assumption | omega | decide) ?_
  show fwWP mX1_stayOf (d + 3) 17 [some (aR 4 i), some (aI x), some (aI (mDesc (h 4 i 1) (h 17 i) ((h 4 i 3) - 1) 10 x))] [aI (hOf (h 4 i 1) (h 17 i) (mDesc (h 4 i 1) (h 17 i) ((h 4 i 3) - 1) 10 x))] h Q
  have hb1 := hOf_rng (n := (h 4 i 1)) (H := (h 17 i)) (b := 1000) (by omega) (by omega) (by assumption) (mDesc (h 4 i 1) (h 17 i) ((h 4 i 3) - 1) 10 x)
  refine w_bipush dX1_stayOf_17 rfl ?_
  refine w_icmp_lt 26 dX1_stayOf_19 (by decide) (by omega) (by omega) (fun c19 => ?_) (fun c19 => ?_)
  · refine w_iload_n dX1_stayOf_26 rfl ?_
    exact w_iretE dX1_stayOf_27 rfl (by rw [mStay]; first | (exfalso; omega) | rw [if_pos (by omega)] | rw [if_neg (by omega)]) k
  · refine w_iconst dX1_stayOf_22 ?_
    refine w_goto 27 dX1_stayOf_23 (by decide) ?_
    exact w_iretE dX1_stayOf_27 rfl (by rw [mStay]; first | (exfalso; omega) | rw [if_pos (by omega)] | rw [if_neg (by omega)]) k
set_option maxRecDepth 100000 in
set_option maxHeartbeats 4000000 in
theorem c_X1_drainedTo {d : Nat} {h : fwH} {Q : Option fwV → fwH → Prop} (i : Nat) (x : Int) (hi : i < 6) (hG : gOk h i) (hx : -2147483648 ≤ x ∧ x < 2147483648) (k : Q (some (aI (mBits (fun c => decide (mDesc (h 4 i 1) (h 17 i) 0 10 (c : Int) = x)) (h 4 i 1).toNat))) h) : fwCt mX1_drainedTo (d + 4) [aR 4 i, aI x] h Q := by
  refine fwCt_of [some (aR 4 i), some (aI x), none, none] rfl rfl rfl ?_
  obtain ⟨⟨g1, g2⟩, ⟨g3, g4⟩, ⟨g5, g6⟩, g7, g8⟩ := id hG
  refine w_iconst dX1_drainedTo_0 ?_
  refine w_istore_n [some (aR 4 i), some (aI x), some (aI 0), none] dX1_drainedTo_1 rfl (by decide) ?_
  refine w_iconst dX1_drainedTo_2 ?_
  refine w_istore_n [some (aR 4 i), some (aI x), some (aI 0), some (aI 0)] dX1_drainedTo_3 rfl (by decide) ?_
  have lp4 : ∀ c : Nat, c ≤ (h 4 i 1).toNat → ∀ (y4 bi : Int), y4 = (c : Int) → bi = mBits (fun c => decide (mDesc (h 4 i 1) (h 17 i) 0 10 (c : Int) = x)) c → fwWP mX1_drainedTo (d + 4) 4 [some (aR 4 i), some (aI x), some (aI bi), some (aI y4)] [] h Q := by
    refine fw_up (fun c hc4 ih4 => ?_)
    intro y4 bi ey4 e_bi
    subst ey4
    subst e_bi
    show fwWP mX1_drainedTo (d + 4) 4 [some (aR 4 i), some (aI x), some (aI (mBits (fun c => decide (mDesc (h 4 i 1) (h 17 i) 0 10 (c : Int) = x)) c)), some (aI (c : Int))] [] h Q
    refine w_iload_n dX1_drainedTo_4 rfl ?_
    refine w_aload_n dX1_drainedTo_5 rfl ?_
    refine w_geti dX1_drainedTo_6 fl_X1_15 rfl hi ?_
    refine w_icmp_ge 33 dX1_drainedTo_9 (by decide) (by omega) (by omega) (fun c9 => ?_) (fun c9 => ?_)
    · have ec4 : (h 4 i 1).toNat = c := by omega
      subst ec4
      refine w_iload_n dX1_drainedTo_33 rfl ?_
      exact w_iretE dX1_drainedTo_34 rfl (by rfl) k
    · refine w_aload_n dX1_drainedTo_12 rfl ?_
      refine w_iload_n dX1_drainedTo_13 rfl ?_
      refine w_callV (d := d + 3) (S := []) [aI (c : Int)] dX1_drainedTo_14 ml_X1_59 ok_X1_waterEnd vi_X1_waterEnd rfl rfl hi rfl (Nat.le_of_ble_eq_true rfl) ?_
      refine c_X1_waterEnd (d := d) i (c : Int) hi (by first | assumption | omega | decide) (by first | assumption | omega | decide) ?_
      show fwWP mX1_drainedTo (d + 4) 17 [some (aR 4 i), some (aI x), some (aI (mBits (fun c => decide (mDesc (h 4 i 1) (h 17 i) 0 10 (c : Int) = x)) c)), some (aI (c : Int))] [aI (mDesc (h 4 i 1) (h 17 i) 0 10 (c : Int))] h Q
      have hq := mDesc_rng (h 17 i) (sl := 0) (n := h 4 i 1) ⟨g1, g2⟩ 10 (c : Int) (by omega)
      refine w_iload_n dX1_drainedTo_17 rfl ?_
      refine w_icmp_ne 27 dX1_drainedTo_18 (by decide) (by omega) (by omega) (fun c18 => ?_) (fun c18 => ?_)
      · refine w_iinc [some (aR 4 i), some (aI x), some (aI (mBits (fun c => decide (mDesc (h 4 i 1) (h 17 i) 0 10 (c : Int) = x)) c)), some (aI ((c : Int) + 1))] dX1_drainedTo_27 rfl rfl (by decide) ?_
        refine w_goto 4 dX1_drainedTo_30 (by decide) ?_
        refine ih4 (by omega) _ _ ?_ ?_
        · exact (by omega)
        · exact (by rw [mBits]; first | rw [if_pos (by simp; omega)] | rw [if_neg (by simp; omega)])
      · refine w_iload_n dX1_drainedTo_21 rfl ?_
        refine w_iconst dX1_drainedTo_22 ?_
        refine w_iload_n dX1_drainedTo_23 rfl ?_
        refine w_ishl dX1_drainedTo_24 ?_
        refine w_ior dX1_drainedTo_25 ?_
        refine w_istore_n [some (aR 4 i), some (aI x), some (aI (fwOr (mBits (fun c => decide (mDesc (h 4 i 1) (h 17 i) 0 10 (c : Int) = x)) c) (fwShl 1 (c : Int)))), some (aI (c : Int))] dX1_drainedTo_26 rfl (by decide) ?_
        refine w_iinc [some (aR 4 i), some (aI x), some (aI (fwOr (mBits (fun c => decide (mDesc (h 4 i 1) (h 17 i) 0 10 (c : Int) = x)) c) (fwShl 1 (c : Int)))), some (aI ((c : Int) + 1))] dX1_drainedTo_27 rfl rfl (by decide) ?_
        refine w_goto 4 dX1_drainedTo_30 (by decide) ?_
        refine ih4 (by omega) _ _ ?_ ?_
        · exact (by omega)
        · exact (by rw [mBits]; first | rw [if_pos (by simp; omega)] | rw [if_neg (by simp; omega)])
  refine lp4 0 (Nat.zero_le _) _ _ ?_ ?_
  · exact (by omega)
  · exact rfl
def mEnds (n : Int) (H : Nat → Int) : Nat → Int
  | 0 => 0
  | c + 1 => fwOr (mEnds n H c) (fwShl 1 (mDesc n H 0 10 c))
set_option maxRecDepth 100000 in
set_option maxHeartbeats 4000000 in
theorem c_X1_waterEnds {d : Nat} {h : fwH} {Q : Option fwV → fwH → Prop} (i : Nat) (hi : i < 6) (hG : gOk h i) (k : Q (some (aI (mEnds (h 4 i 1) (h 17 i) (h 4 i 1).toNat))) h) : fwCt mX1_waterEnds (d + 4) [aR 4 i] h Q := by
  refine fwCt_of [some (aR 4 i), none, none] rfl rfl rfl ?_
  obtain ⟨⟨g1, g2⟩, ⟨g3, g4⟩, ⟨g5, g6⟩, g7, g8⟩ := id hG
  refine w_iconst dX1_waterEnds_0 ?_
  refine w_istore_n [some (aR 4 i), some (aI 0), none] dX1_waterEnds_1 rfl (by decide) ?_
  refine w_iconst dX1_waterEnds_2 ?_
  refine w_istore_n [some (aR 4 i), some (aI 0), some (aI 0)] dX1_waterEnds_3 rfl (by decide) ?_
  have lp4 : ∀ c : Nat, c ≤ (h 4 i 1).toNat → ∀ (y4 bi : Int), y4 = (c : Int) → bi = mEnds (h 4 i 1) (h 17 i) c → fwWP mX1_waterEnds (d + 4) 4 [some (aR 4 i), some (aI bi), some (aI y4)] [] h Q := by
    refine fw_up (fun c hc4 ih4 => ?_)
    intro y4 bi ey4 e_bi
    subst ey4
    subst e_bi
    show fwWP mX1_waterEnds (d + 4) 4 [some (aR 4 i), some (aI (mEnds (h 4 i 1) (h 17 i) c)), some (aI (c : Int))] [] h Q
    refine w_iload_n dX1_waterEnds_4 rfl ?_
    refine w_aload_n dX1_waterEnds_5 rfl ?_
    refine w_geti dX1_waterEnds_6 fl_X1_15 rfl hi ?_
    refine w_icmp_ge 28 dX1_waterEnds_9 (by decide) (by omega) (by omega) (fun c9 => ?_) (fun c9 => ?_)
    · have ec4 : (h 4 i 1).toNat = c := by omega
      subst ec4
      refine w_iload_n dX1_waterEnds_28 rfl ?_
      exact w_iretE dX1_waterEnds_29 rfl (by rfl) k
    · refine w_iload_n dX1_waterEnds_12 rfl ?_
      refine w_iconst dX1_waterEnds_13 ?_
      refine w_aload_n dX1_waterEnds_14 rfl ?_
      refine w_iload_n dX1_waterEnds_15 rfl ?_
      refine w_callV (d := d + 3) (S := [aI 1, aI (mEnds (h 4 i 1) (h 17 i) c)]) [aI (c : Int)] dX1_waterEnds_16 ml_X1_59 ok_X1_waterEnd vi_X1_waterEnd rfl rfl hi rfl (Nat.le_of_ble_eq_true rfl) ?_
      refine c_X1_waterEnd (d := d) i (c : Int) hi (by first | assumption | omega | decide) (by first | assumption | omega | decide) ?_
      show fwWP mX1_waterEnds (d + 4) 19 [some (aR 4 i), some (aI (mEnds (h 4 i 1) (h 17 i) c)), some (aI (c : Int))] [aI (mDesc (h 4 i 1) (h 17 i) 0 10 (c : Int)), aI 1, aI (mEnds (h 4 i 1) (h 17 i) c)] h Q
      refine w_ishl dX1_waterEnds_19 ?_
      refine w_ior dX1_waterEnds_20 ?_
      refine w_istore_n [some (aR 4 i), some (aI (fwOr (mEnds (h 4 i 1) (h 17 i) c) (fwShl 1 (mDesc (h 4 i 1) (h 17 i) 0 10 (c : Int))))), some (aI (c : Int))] dX1_waterEnds_21 rfl (by decide) ?_
      refine w_iinc [some (aR 4 i), some (aI (fwOr (mEnds (h 4 i 1) (h 17 i) c) (fwShl 1 (mDesc (h 4 i 1) (h 17 i) 0 10 (c : Int))))), some (aI ((c : Int) + 1))] dX1_waterEnds_22 rfl rfl (by decide) ?_
      refine w_goto 4 dX1_waterEnds_25 (by decide) ?_
      refine ih4 (by omega) _ _ ?_ ?_
      · exact (by omega)
      · exact rfl
  refine lp4 0 (Nat.zero_le _) _ _ ?_ ?_
  · exact (by omega)
  · exact rfl
def mCliff (H : Nat → Int) (rs : Int) : Nat → Int
  | 0 => 0
  | c + 1 => if rs < H (c + 1) - H c ∨ rs < -(H (c + 1) - H c) then mCliff H rs c + 1 else mCliff H rs c
set_option maxRecDepth 100000 in
set_option maxHeartbeats 4000000 in
theorem c_X1_cliffPairs {d : Nat} {h : fwH} {Q : Option fwV → fwH → Prop} (i : Nat) (hi : i < 6) (hG : gOk h i) (k : Q (some (aI (mCliff (h 17 i) (h 4 i 3) ((h 4 i 1).toNat - 1)))) h) : fwCt mX1_cliffPairs (d + 1) [aR 4 i] h Q := by
  refine fwCt_of [some (aR 4 i), none, none, none] rfl rfl rfl ?_
  obtain ⟨⟨g1, g2⟩, ⟨g3, g4⟩, ⟨g5, g6⟩, g7, g8⟩ := id hG
  refine w_iconst dX1_cliffPairs_0 ?_
  refine w_istore_n [some (aR 4 i), some (aI 0), none, none] dX1_cliffPairs_1 rfl (by decide) ?_
  refine w_iconst dX1_cliffPairs_2 ?_
  refine w_istore_n [some (aR 4 i), some (aI 0), some (aI 1), none] dX1_cliffPairs_3 rfl (by decide) ?_
  have lp4 : ∀ c : Nat, c ≤ ((h 4 i 1).toNat - 1) → ∀ (y4 to : Int), y4 = (c : Int) + 1 → to = mCliff (h 17 i) (h 4 i 3) c → fwWP mX1_cliffPairs (d + 1) 4 [some (aR 4 i), some (aI to), some (aI y4), none] [] h Q := by
    refine fw_up (fun c hc4 ih4 => ?_)
    intro y4 to ey4 e_to
    subst ey4
    subst e_to
    show fwWP mX1_cliffPairs (d + 1) 4 [some (aR 4 i), some (aI (mCliff (h 17 i) (h 4 i 3) c)), some (aI ((c : Int) + 1)), none] [] h Q
    refine w_iload_n dX1_cliffPairs_4 rfl ?_
    refine w_aload_n dX1_cliffPairs_5 rfl ?_
    refine w_geti dX1_cliffPairs_6 fl_X1_15 rfl hi ?_
    refine w_icmp_ge 52 dX1_cliffPairs_9 (by decide) (by omega) (by omega) (fun c9 => ?_) (fun c9 => ?_)
    · have ec4 : ((h 4 i 1).toNat - 1) = c := by omega
      subst ec4
      refine w_iload_n dX1_cliffPairs_52 rfl ?_
      exact w_iretE dX1_cliffPairs_53 rfl (by rfl) k
    · refine w_aload_n dX1_cliffPairs_12 rfl ?_
      refine w_iload_n dX1_cliffPairs_13 rfl ?_
      refine w_callV (d := d + 0) (S := []) [aI ((c : Int) + 1)] dX1_cliffPairs_14 ml_X1_33 ok_X1_heightOf vi_X1_heightOf rfl rfl hi rfl (Nat.le_of_ble_eq_true rfl) ?_
      refine c_X1_heightOfE (d := d) i ((c : Int) + 1) (h 17 i (c + 1)) hi (by first | assumption | omega | decide) (by first | assumption | omega | decide) (hOf_in (c := c + 1) (by omega)) ?_
      show fwWP mX1_cliffPairs (d + 1) 17 [some (aR 4 i), some (aI (mCliff (h 17 i) (h 4 i 3) c)), some (aI ((c : Int) + 1)), none] [aI (h 17 i (c + 1))] h Q
      have hc1 := g8 (c + 1) (by omega)
      refine w_aload_n dX1_cliffPairs_17 rfl ?_
      refine w_iload_n dX1_cliffPairs_18 rfl ?_
      refine w_iconst dX1_cliffPairs_19 ?_
      refine w_isub dX1_cliffPairs_20 ?_
      refine w_callV (d := d + 0) (S := [aI (h 17 i (c + 1))]) [aI (((c : Int) + 1) - 1)] dX1_cliffPairs_21 ml_X1_33 ok_X1_heightOf vi_X1_heightOf rfl rfl hi rfl (Nat.le_of_ble_eq_true rfl) ?_
      refine c_X1_heightOfE (d := d) i (((c : Int) + 1) - 1) (h 17 i c) hi (by first | assumption | omega | decide) (by first | assumption | omega | decide) (by rw [show (c : Int) + 1 - 1 = (c : Int) by omega]; exact hOf_in (by omega)) ?_
      show fwWP mX1_cliffPairs (d + 1) 24 [some (aR 4 i), some (aI (mCliff (h 17 i) (h 4 i 3) c)), some (aI ((c : Int) + 1)), none] [aI (h 17 i c), aI (h 17 i (c + 1))] h Q
      have hc2 := g8 c (by omega)
      refine w_isub dX1_cliffPairs_24 ?_
      refine w_istore_n [some (aR 4 i), some (aI (mCliff (h 17 i) (h 4 i 3) c)), some (aI ((c : Int) + 1)), some (aI ((h 17 i (c + 1)) - (h 17 i c)))] dX1_cliffPairs_25 rfl (by decide) ?_
      refine w_iload_n dX1_cliffPairs_26 rfl ?_
      refine w_aload_n dX1_cliffPairs_27 rfl ?_
      refine w_geti dX1_cliffPairs_28 fl_X1_22 rfl hi ?_
      refine w_icmp_gt 43 dX1_cliffPairs_31 (by decide) (by omega) (by omega) (fun c31 => ?_) (fun c31 => ?_)
      · refine w_iinc [some (aR 4 i), some (aI ((mCliff (h 17 i) (h 4 i 3) c) + 1)), some (aI ((c : Int) + 1)), some (aI ((h 17 i (c + 1)) - (h 17 i c)))] dX1_cliffPairs_43 rfl rfl (by decide) ?_
        refine w_iinc [some (aR 4 i), some (aI ((mCliff (h 17 i) (h 4 i 3) c) + 1)), some (aI (((c : Int) + 1) + 1)), some (aI ((h 17 i (c + 1)) - (h 17 i c)))] dX1_cliffPairs_46 rfl rfl (by decide) ?_
        refine w_goto 4 dX1_cliffPairs_49 (by decide) ?_
        refine w_drop [3] [some (aR 4 i), some (aI ((mCliff (h 17 i) (h 4 i 3) c) + 1)), some (aI (((c : Int) + 1) + 1)), none] rfl ?_
        refine ih4 (by omega) _ _ ?_ ?_
        · exact (by omega)
        · exact (by rw [mCliff]; first | (exfalso; omega) | rw [if_pos (by omega)] | rw [if_neg (by omega)])
      · refine w_iload_n dX1_cliffPairs_34 rfl ?_
        refine w_ineg dX1_cliffPairs_35 ?_
        refine w_aload_n dX1_cliffPairs_36 rfl ?_
        refine w_geti dX1_cliffPairs_37 fl_X1_22 rfl hi ?_
        refine w_icmp_le 46 dX1_cliffPairs_40 (by decide) (by omega) (by omega) (fun c40 => ?_) (fun c40 => ?_)
        · refine w_iinc [some (aR 4 i), some (aI (mCliff (h 17 i) (h 4 i 3) c)), some (aI (((c : Int) + 1) + 1)), some (aI ((h 17 i (c + 1)) - (h 17 i c)))] dX1_cliffPairs_46 rfl rfl (by decide) ?_
          refine w_goto 4 dX1_cliffPairs_49 (by decide) ?_
          refine w_drop [3] [some (aR 4 i), some (aI (mCliff (h 17 i) (h 4 i 3) c)), some (aI (((c : Int) + 1) + 1)), none] rfl ?_
          refine ih4 (by omega) _ _ ?_ ?_
          · exact (by omega)
          · exact (by rw [mCliff]; first | (exfalso; omega) | rw [if_pos (by omega)] | rw [if_neg (by omega)])
        · refine w_iinc [some (aR 4 i), some (aI ((mCliff (h 17 i) (h 4 i 3) c) + 1)), some (aI ((c : Int) + 1)), some (aI ((h 17 i (c + 1)) - (h 17 i c)))] dX1_cliffPairs_43 rfl rfl (by decide) ?_
          refine w_iinc [some (aR 4 i), some (aI ((mCliff (h 17 i) (h 4 i 3) c) + 1)), some (aI (((c : Int) + 1) + 1)), some (aI ((h 17 i (c + 1)) - (h 17 i c)))] dX1_cliffPairs_46 rfl rfl (by decide) ?_
          refine w_goto 4 dX1_cliffPairs_49 (by decide) ?_
          refine w_drop [3] [some (aR 4 i), some (aI ((mCliff (h 17 i) (h 4 i 3) c) + 1)), some (aI (((c : Int) + 1) + 1)), none] rfl ?_
          refine ih4 (by omega) _ _ ?_ ?_
          · exact (by omega)
          · exact (by rw [mCliff]; first | (exfalso; omega) | rw [if_pos (by omega)] | rw [if_neg (by omega)])
  refine lp4 0 (Nat.zero_le _) _ _ ?_ ?_
  · exact (by omega)
  · exact rfl
def mAll (p : Nat → Bool) : Nat → Bool
  | 0 => true
  | n + 1 => mAll p n && p n
theorem mAll_iff (p : Nat → Bool) : ∀ n, mAll p n = true ↔ ∀ j, j < n → p j = true := by
  intro n
  induction n with
  | zero => simp [mAll]
  | succ n ih =>
    rw [mAll, Bool.and_eq_true, ih]
    constructor
    · intro h j hj
      rcases Nat.lt_or_ge j n with q | q
      · exact h.1 j q
      · rw [show j = n by omega]; exact h.2
    · intro h
      exact ⟨fun j hj => h j (by omega), h n (by omega)⟩
theorem fw_mulR {a b : Int} (ha : -10000 ≤ a ∧ a ≤ 10000) (hb : 0 ≤ b ∧ b ≤ 20) : -200000 ≤ a * b ∧ a * b ≤ 200000 := by
  obtain ⟨n, rfl⟩ : ∃ n : Nat, b = n := ⟨b.toNat, by omega⟩
  have hn : n ≤ 20 := by omega
  clear hb
  have key : ∀ n : Nat, n ≤ 20 → -(10000 * (n : Int)) ≤ a * n ∧ a * n ≤ 10000 * n := by
    intro n
    induction n with
    | zero => intro _; simp
    | succ n ih =>
      intro h9
      have := ih (by omega)
      have e : a * ((n + 1 : Nat) : Int) = a * n + a := by rw [Int.natCast_add, Int.mul_add]; simp
      rw [e]
      omega
  have := key n hn
  omega
def mSeeP (H : Nat → Int) (f t : Nat) (j : Nat) : Bool := decide ((H (f + 1 + j) - H f) * ((t : Int) - (f : Int)) ≤ (H t - H f) * ((f : Int) + 1 + (j : Int) - (f : Int)))
/-- nothing stands in the way between two CELLS -/
abbrev mSee (H : Nat → Int) (f t : Nat) : Prop := mAll (mSeeP H f t) (t - f - 1) = true
set_option maxRecDepth 100000 in
set_option maxHeartbeats 4000000 in
theorem c_X1_isOpen {d : Nat} {h : fwH} {Q : Option fwV → fwH → Prop} (i f t : Nat) (hi : i < 6) (hG : gOk h i) (hft : f ≤ t) (ht : (t : Int) < h 4 i 1) (k : Q (some (aI (fwB (mSee (h 17 i) f t)))) h) : fwCt mX1_isOpen (d + 1) [aR 4 i, aI (f : Int), aI (t : Int)] h Q := by
  refine fwCt_of [some (aR 4 i), some (aI (f : Int)), some (aI (t : Int)), none, none] rfl rfl rfl ?_
  obtain ⟨⟨g1, g2⟩, ⟨g3, g4⟩, ⟨g5, g6⟩, g7, g8⟩ := id hG
  refine w_aload_n dX1_isOpen_0 rfl ?_
  refine w_iload_n dX1_isOpen_1 rfl ?_
  refine w_callV (d := d + 0) (S := []) [aI (t : Int)] dX1_isOpen_2 ml_X1_33 ok_X1_heightOf vi_X1_heightOf rfl rfl hi rfl (Nat.le_of_ble_eq_true rfl) ?_
  refine c_X1_heightOfE (d := d) i (t : Int) (h 17 i t) hi (by first | assumption | omega | decide) (by first | assumption | omega | decide) (hOf_in (by omega)) ?_
  show fwWP mX1_isOpen (d + 1) 5 [some (aR 4 i), some (aI (f : Int)), some (aI (t : Int)), none, none] [aI (h 17 i t)] h Q
  have hc2 := g8 t (by omega)
  refine w_aload_n dX1_isOpen_5 rfl ?_
  refine w_iload_n dX1_isOpen_6 rfl ?_
  refine w_callV (d := d + 0) (S := [aI (h 17 i t)]) [aI (f : Int)] dX1_isOpen_7 ml_X1_33 ok_X1_heightOf vi_X1_heightOf rfl rfl hi rfl (Nat.le_of_ble_eq_true rfl) ?_
  refine c_X1_heightOfE (d := d) i (f : Int) (h 17 i f) hi (by first | assumption | omega | decide) (by first | assumption | omega | decide) (hOf_in (by omega)) ?_
  show fwWP mX1_isOpen (d + 1) 10 [some (aR 4 i), some (aI (f : Int)), some (aI (t : Int)), none, none] [aI (h 17 i f), aI (h 17 i t)] h Q
  have hc1 := g8 f (by omega)
  refine w_isub dX1_isOpen_10 ?_
  refine w_istore_n [some (aR 4 i), some (aI (f : Int)), some (aI (t : Int)), some (aI ((h 17 i t) - (h 17 i f))), none] dX1_isOpen_11 rfl (by decide) ?_
  refine w_iload_n dX1_isOpen_12 rfl ?_
  refine w_iconst dX1_isOpen_13 ?_
  refine w_iadd dX1_isOpen_14 ?_
  refine w_istore [some (aR 4 i), some (aI (f : Int)), some (aI (t : Int)), some (aI ((h 17 i t) - (h 17 i f))), some (aI ((f : Int) + 1))] dX1_isOpen_15 rfl (by decide) ?_
  have lp17 : ∀ c : Nat, c ≤ (t - f - 1) → ∀ (y17  : Int), y17 = (f : Int) + 1 + (c : Int) → (mAll (mSeeP (h 17 i) f t) c = true) → fwWP mX1_isOpen (d + 1) 17 [some (aR 4 i), some (aI (f : Int)), some (aI (t : Int)), some (aI ((h 17 i t) - (h 17 i f))), some (aI y17)] [] h Q := by
    refine fw_up (fun c hc17 ih17 => ?_)
    intro y17  ey17 iv17_0
    subst ey17
    show fwWP mX1_isOpen (d + 1) 17 [some (aR 4 i), some (aI (f : Int)), some (aI (t : Int)), some (aI ((h 17 i t) - (h 17 i f))), some (aI ((f : Int) + 1 + (c : Int)))] [] h Q
    refine w_iload dX1_isOpen_17 rfl ?_
    refine w_iload_n dX1_isOpen_19 rfl ?_
    refine w_icmp_ge 56 dX1_isOpen_20 (by decide) (by omega) (by omega) (fun c20 => ?_) (fun c20 => ?_)
    · have ec17 : (t - f - 1) = c := by omega
      subst ec17
      refine w_iconst dX1_isOpen_56 ?_
      exact w_zretE (P := mSee (h 17 i) f t) dX1_isOpen_57 rfl (by rw [fwB_t iv17_0]) k
    · refine w_aload_n dX1_isOpen_23 rfl ?_
      refine w_iload dX1_isOpen_24 rfl ?_
      refine w_callV (d := d + 0) (S := []) [aI ((f : Int) + 1 + (c : Int))] dX1_isOpen_26 ml_X1_33 ok_X1_heightOf vi_X1_heightOf rfl rfl hi rfl (Nat.le_of_ble_eq_true rfl) ?_
      refine c_X1_heightOfE (d := d) i ((f : Int) + 1 + (c : Int)) (h 17 i (f + 1 + c)) hi (by first | assumption | omega | decide) (by first | assumption | omega | decide) (hOf_in (c := f + 1 + c) (by omega)) ?_
      show fwWP mX1_isOpen (d + 1) 29 [some (aR 4 i), some (aI (f : Int)), some (aI (t : Int)), some (aI ((h 17 i t) - (h 17 i f))), some (aI ((f : Int) + 1 + (c : Int)))] [aI (h 17 i (f + 1 + c))] h Q
      have hc3 := g8 (f + 1 + c) (by omega)
      refine w_aload_n dX1_isOpen_29 rfl ?_
      refine w_iload_n dX1_isOpen_30 rfl ?_
      refine w_callV (d := d + 0) (S := [aI (h 17 i (f + 1 + c))]) [aI (f : Int)] dX1_isOpen_31 ml_X1_33 ok_X1_heightOf vi_X1_heightOf rfl rfl hi rfl (Nat.le_of_ble_eq_true rfl) ?_
      refine c_X1_heightOfE (d := d) i (f : Int) (h 17 i f) hi (by first | assumption | omega | decide) (by first | assumption | omega | decide) (hOf_in (by omega)) ?_
      show fwWP mX1_isOpen (d + 1) 34 [some (aR 4 i), some (aI (f : Int)), some (aI (t : Int)), some (aI ((h 17 i t) - (h 17 i f))), some (aI ((f : Int) + 1 + (c : Int)))] [aI (h 17 i f), aI (h 17 i (f + 1 + c))] h Q
      refine w_isub dX1_isOpen_34 ?_
      refine w_iload_n dX1_isOpen_35 rfl ?_
      refine w_iload_n dX1_isOpen_36 rfl ?_
      refine w_isub dX1_isOpen_37 ?_
      refine w_imul dX1_isOpen_38 ?_
      refine w_iload_n dX1_isOpen_39 rfl ?_
      refine w_iload dX1_isOpen_40 rfl ?_
      refine w_iload_n dX1_isOpen_42 rfl ?_
      refine w_isub dX1_isOpen_43 ?_
      refine w_imul dX1_isOpen_44 ?_
      have hm1 := fw_mulR (a := h 17 i (f + 1 + c) - h 17 i f) (b := (t : Int) - (f : Int)) (by omega) (by omega)
      have hm2 := fw_mulR (a := h 17 i t - h 17 i f) (b := (f : Int) + 1 + (c : Int) - (f : Int)) (by omega) (by omega)
      refine w_icmp_le 50 dX1_isOpen_45 (by decide) (by omega) (by omega) (fun c45 => ?_) (fun c45 => ?_)
      · refine w_iinc [some (aR 4 i), some (aI (f : Int)), some (aI (t : Int)), some (aI ((h 17 i t) - (h 17 i f))), some (aI (((f : Int) + 1 + (c : Int)) + 1))] dX1_isOpen_50 rfl rfl (by decide) ?_
        refine w_goto 17 dX1_isOpen_53 (by decide) ?_
        refine ih17 (by omega) _ ?_ ?_
        · exact (by omega)
        · exact (by rw [mAll, iv17_0, Bool.true_and]; unfold mSeeP; simp only [decide_eq_true_eq]; omega)
      · refine w_iconst dX1_isOpen_48 ?_
        exact w_zretE (P := mSee (h 17 i) f t) dX1_isOpen_49 rfl (by rw [fwB_f (fun q => by have := (mAll_iff _ _).mp q c (by omega); unfold mSeeP at this; simp only [decide_eq_true_eq] at this; omega)]) k
  refine lp17 0 (Nat.zero_le _) _ ?_ ?_
  · exact (by omega)
  · exact rfl
def mSeenB (H : Nat → Int) (x c : Nat) : Bool := if x < c then decide (mSee H x c) else decide (mSee H c x)
set_option maxRecDepth 100000 in
set_option maxHeartbeats 4000000 in
theorem c_X1_seenFrom {d : Nat} {h : fwH} {Q : Option fwV → fwH → Prop} (i x : Nat) (hi : i < 6) (hG : gOk h i) (hx : (x : Int) < h 4 i 1) (k : Q (some (aI (mBits (mSeenB (h 17 i) x) (h 4 i 1).toNat))) h) : fwCt mX1_seenFrom (d + 2) [aR 4 i, aI (x : Int)] h Q := by
  refine fwCt_of [some (aR 4 i), some (aI (x : Int)), none, none] rfl rfl rfl ?_
  obtain ⟨⟨g1, g2⟩, ⟨g3, g4⟩, ⟨g5, g6⟩, g7, g8⟩ := id hG
  refine w_iconst dX1_seenFrom_0 ?_
  refine w_istore_n [some (aR 4 i), some (aI (x : Int)), some (aI 0), none] dX1_seenFrom_1 rfl (by decide) ?_
  refine w_iconst dX1_seenFrom_2 ?_
  refine w_istore_n [some (aR 4 i), some (aI (x : Int)), some (aI 0), some (aI 0)] dX1_seenFrom_3 rfl (by decide) ?_
  have lp4 : ∀ c : Nat, c ≤ (h 4 i 1).toNat → ∀ (y4 bi : Int), y4 = (c : Int) → bi = mBits (mSeenB (h 17 i) x) c → fwWP mX1_seenFrom (d + 2) 4 [some (aR 4 i), some (aI (x : Int)), some (aI bi), some (aI y4)] [] h Q := by
    refine fw_up (fun c hc4 ih4 => ?_)
    intro y4 bi ey4 e_bi
    subst ey4
    subst e_bi
    show fwWP mX1_seenFrom (d + 2) 4 [some (aR 4 i), some (aI (x : Int)), some (aI (mBits (mSeenB (h 17 i) x) c)), some (aI (c : Int))] [] h Q
    refine w_iload_n dX1_seenFrom_4 rfl ?_
    refine w_aload_n dX1_seenFrom_5 rfl ?_
    refine w_geti dX1_seenFrom_6 fl_X1_15 rfl hi ?_
    refine w_icmp_ge 50 dX1_seenFrom_9 (by decide) (by omega) (by omega) (fun c9 => ?_) (fun c9 => ?_)
    · have ec4 : (h 4 i 1).toNat = c := by omega
      subst ec4
      refine w_iload_n dX1_seenFrom_50 rfl ?_
      exact w_iretE dX1_seenFrom_51 rfl (by rfl) k
    · refine w_iload_n dX1_seenFrom_12 rfl ?_
      refine w_iload_n dX1_seenFrom_13 rfl ?_
      refine w_icmp_ge 29 dX1_seenFrom_14 (by decide) (by omega) (by omega) (fun c14 => ?_) (fun c14 => ?_)
      · refine w_aload_n dX1_seenFrom_29 rfl ?_
        refine w_iload_n dX1_seenFrom_30 rfl ?_
        refine w_iload_n dX1_seenFrom_31 rfl ?_
        refine w_callV (d := d + 1) (S := []) [aI (c : Int), aI (x : Int)] dX1_seenFrom_32 ml_X1_62 ok_X1_isOpen vi_X1_isOpen rfl rfl hi rfl (Nat.le_of_ble_eq_true rfl) ?_
        refine c_X1_isOpen (d := d) i c x hi (by first | assumption | omega | decide) (by first | assumption | omega | decide) (by first | assumption | omega | decide) ?_
        show fwWP mX1_seenFrom (d + 2) 35 [some (aR 4 i), some (aI (x : Int)), some (aI (mBits (mSeenB (h 17 i) x) c)), some (aI (c : Int))] [aI (fwB (mSee (h 17 i) c x))] h Q
        refine w_ifB_eq 44 dX1_seenFrom_35 (by decide) (fun c35 => ?_) (fun c35 => ?_)
        · refine w_iinc [some (aR 4 i), some (aI (x : Int)), some (aI (mBits (mSeenB (h 17 i) x) c)), some (aI ((c : Int) + 1))] dX1_seenFrom_44 rfl rfl (by decide) ?_
          refine w_goto 4 dX1_seenFrom_47 (by decide) ?_
          refine ih4 (by omega) _ _ ?_ ?_
          · exact (by omega)
          · exact (by rw [mBits]; first | rw [if_pos (by unfold mSeenB; first | (rw [if_pos (by omega)]; exact decide_eq_true (by assumption)) | (rw [if_neg (by omega)]; exact decide_eq_true (by assumption)))] | rw [if_neg (by unfold mSeenB; first | (rw [if_pos (by omega)]; exact (by simpa using ‹¬ mSee _ _ _›)) | (rw [if_neg (by omega)]; exact (by simpa using ‹¬ mSee _ _ _›)))])
        · refine w_iload_n dX1_seenFrom_38 rfl ?_
          refine w_iconst dX1_seenFrom_39 ?_
          refine w_iload_n dX1_seenFrom_40 rfl ?_
          refine w_ishl dX1_seenFrom_41 ?_
          refine w_ior dX1_seenFrom_42 ?_
          refine w_istore_n [some (aR 4 i), some (aI (x : Int)), some (aI (fwOr (mBits (mSeenB (h 17 i) x) c) (fwShl 1 (c : Int)))), some (aI (c : Int))] dX1_seenFrom_43 rfl (by decide) ?_
          refine w_iinc [some (aR 4 i), some (aI (x : Int)), some (aI (fwOr (mBits (mSeenB (h 17 i) x) c) (fwShl 1 (c : Int)))), some (aI ((c : Int) + 1))] dX1_seenFrom_44 rfl rfl (by decide) ?_
          refine w_goto 4 dX1_seenFrom_47 (by decide) ?_
          refine ih4 (by omega) _ _ ?_ ?_
          · exact (by omega)
          · exact (by rw [mBits]; first | rw [if_pos (by unfold mSeenB; first | (rw [if_pos (by omega)]; exact decide_eq_true (by assumption)) | (rw [if_neg (by omega)]; exact decide_eq_true (by assumption)))] | rw [if_neg (by unfold mSeenB; first | (rw [if_pos (by omega)]; exact (by simpa using ‹¬ mSee _ _ _›)) | (rw [if_neg (by omega)]; exact (by simpa using ‹¬ mSee _ _ _›)))])
      · refine w_aload_n dX1_seenFrom_17 rfl ?_
        refine w_iload_n dX1_seenFrom_18 rfl ?_
        refine w_iload_n dX1_seenFrom_19 rfl ?_
        refine w_callV (d := d + 1) (S := []) [aI (x : Int), aI (c : Int)] dX1_seenFrom_20 ml_X1_62 ok_X1_isOpen vi_X1_isOpen rfl rfl hi rfl (Nat.le_of_ble_eq_true rfl) ?_
        refine c_X1_isOpen (d := d) i x c hi (by first | assumption | omega | decide) (by first | assumption | omega | decide) (by first | assumption | omega | decide) ?_
        show fwWP mX1_seenFrom (d + 2) 23 [some (aR 4 i), some (aI (x : Int)), some (aI (mBits (mSeenB (h 17 i) x) c)), some (aI (c : Int))] [aI (fwB (mSee (h 17 i) x c))] h Q
        refine w_ifB_eq 44 dX1_seenFrom_23 (by decide) (fun c23 => ?_) (fun c23 => ?_)
        · refine w_iinc [some (aR 4 i), some (aI (x : Int)), some (aI (mBits (mSeenB (h 17 i) x) c)), some (aI ((c : Int) + 1))] dX1_seenFrom_44 rfl rfl (by decide) ?_
          refine w_goto 4 dX1_seenFrom_47 (by decide) ?_
          refine ih4 (by omega) _ _ ?_ ?_
          · exact (by omega)
          · exact (by rw [mBits]; first | rw [if_pos (by unfold mSeenB; first | (rw [if_pos (by omega)]; exact decide_eq_true (by assumption)) | (rw [if_neg (by omega)]; exact decide_eq_true (by assumption)))] | rw [if_neg (by unfold mSeenB; first | (rw [if_pos (by omega)]; exact (by simpa using ‹¬ mSee _ _ _›)) | (rw [if_neg (by omega)]; exact (by simpa using ‹¬ mSee _ _ _›)))])
        · refine w_goto 38 dX1_seenFrom_26 (by decide) ?_
          refine w_iload_n dX1_seenFrom_38 rfl ?_
          refine w_iconst dX1_seenFrom_39 ?_
          refine w_iload_n dX1_seenFrom_40 rfl ?_
          refine w_ishl dX1_seenFrom_41 ?_
          refine w_ior dX1_seenFrom_42 ?_
          refine w_istore_n [some (aR 4 i), some (aI (x : Int)), some (aI (fwOr (mBits (mSeenB (h 17 i) x) c) (fwShl 1 (c : Int)))), some (aI (c : Int))] dX1_seenFrom_43 rfl (by decide) ?_
          refine w_iinc [some (aR 4 i), some (aI (x : Int)), some (aI (fwOr (mBits (mSeenB (h 17 i) x) c) (fwShl 1 (c : Int)))), some (aI ((c : Int) + 1))] dX1_seenFrom_44 rfl rfl (by decide) ?_
          refine w_goto 4 dX1_seenFrom_47 (by decide) ?_
          refine ih4 (by omega) _ _ ?_ ?_
          · exact (by omega)
          · exact (by rw [mBits]; first | rw [if_pos (by unfold mSeenB; first | (rw [if_pos (by omega)]; exact decide_eq_true (by assumption)) | (rw [if_neg (by omega)]; exact decide_eq_true (by assumption)))] | rw [if_neg (by unfold mSeenB; first | (rw [if_pos (by omega)]; exact (by simpa using ‹¬ mSee _ _ _›)) | (rw [if_neg (by omega)]; exact (by simpa using ‹¬ mSee _ _ _›)))])
  refine lp4 0 (Nat.zero_le _) _ _ ?_ ?_
  · exact (by omega)
  · exact rfl
theorem fwPop_rng (x : Int) : 0 ≤ fwPop x ∧ fwPop x < 64 := by
  have key : ∀ y : Int, 0 ≤ fwAnd y 63 ∧ fwAnd y 63 < 64 := by
    intro y
    unfold fwAnd
    obtain ⟨j, hj, e⟩ := pk_andE (Int32.ofInt y) (m := Int32.ofInt 63) 6 (by decide)
    rw [e, nI_toInt (by omega)]
    omega
  exact key _
def mLook (H : Nat → Int) (n : Nat) : Nat → Int × Int
  | 0 => (-1, 0)
  | c + 1 => if (mLook H n c).2 < fwPop (mBits (mSeenB H c) n) then ((c : Int), fwPop (mBits (mSeenB H c) n)) else mLook H n c
theorem mLook_rng (H : Nat → Int) (n : Nat) : ∀ c, 0 ≤ (mLook H n c).2 ∧ (mLook H n c).2 < 64 := by
  intro c
  induction c with
  | zero => simp [mLook]
  | succ c ih =>
    rw [mLook]
    split
    · exact fwPop_rng _
    · exact ih
set_option maxRecDepth 100000 in
set_option maxHeartbeats 4000000 in
theorem c_X1_bestLookout {d : Nat} {h : fwH} {Q : Option fwV → fwH → Prop} (i : Nat) (hi : i < 6) (hG : gOk h i) (k : Q (some (aI ((mLook (h 17 i) (h 4 i 1).toNat (h 4 i 1).toNat).1))) h) : fwCt mX1_bestLookout (d + 3) [aR 4 i] h Q := by
  refine fwCt_of [some (aR 4 i), none, none, none, none] rfl rfl rfl ?_
  obtain ⟨⟨g1, g2⟩, ⟨g3, g4⟩, ⟨g5, g6⟩, g7, g8⟩ := id hG
  refine w_iconst dX1_bestLookout_0 ?_
  refine w_istore_n [some (aR 4 i), some (aI (-1)), none, none, none] dX1_bestLookout_1 rfl (by decide) ?_
  refine w_iconst dX1_bestLookout_2 ?_
  refine w_istore_n [some (aR 4 i), some (aI (-1)), some (aI 0), none, none] dX1_bestLookout_3 rfl (by decide) ?_
  refine w_iconst dX1_bestLookout_4 ?_
  refine w_istore_n [some (aR 4 i), some (aI (-1)), some (aI 0), some (aI 0), none] dX1_bestLookout_5 rfl (by decide) ?_
  have lp6 : ∀ c : Nat, c ≤ (h 4 i 1).toNat → ∀ (y6 fo mo : Int), y6 = (c : Int) → fo = (mLook (h 17 i) (h 4 i 1).toNat c).1 → mo = (mLook (h 17 i) (h 4 i 1).toNat c).2 → fwWP mX1_bestLookout (d + 3) 6 [some (aR 4 i), some (aI fo), some (aI mo), some (aI y6), none] [] h Q := by
    refine fw_up (fun c hc6 ih6 => ?_)
    intro y6 fo mo ey6 e_fo e_mo
    subst ey6
    subst e_fo
    subst e_mo
    have hq := mLook_rng (h 17 i) (h 4 i 1).toNat c
    show fwWP mX1_bestLookout (d + 3) 6 [some (aR 4 i), some (aI ((mLook (h 17 i) (h 4 i 1).toNat c).1)), some (aI ((mLook (h 17 i) (h 4 i 1).toNat c).2)), some (aI (c : Int)), none] [] h Q
    refine w_iload_n dX1_bestLookout_6 rfl ?_
    refine w_aload_n dX1_bestLookout_7 rfl ?_
    refine w_geti dX1_bestLookout_8 fl_X1_15 rfl hi ?_
    refine w_icmp_ge 41 dX1_bestLookout_11 (by decide) (by omega) (by omega) (fun c11 => ?_) (fun c11 => ?_)
    · have ec6 : (h 4 i 1).toNat = c := by omega
      subst ec6
      refine w_iload_n dX1_bestLookout_41 rfl ?_
      exact w_iretE dX1_bestLookout_42 rfl (by rfl) k
    · refine w_aload_n dX1_bestLookout_14 rfl ?_
      refine w_iload_n dX1_bestLookout_15 rfl ?_
      refine w_callV (d := d + 2) (S := []) [aI (c : Int)] dX1_bestLookout_16 ml_X1_65 ok_X1_seenFrom vi_X1_seenFrom rfl rfl hi rfl (Nat.le_of_ble_eq_true rfl) ?_
      refine c_X1_seenFrom (d := d) i c hi (by first | assumption | omega | decide) (by first | assumption | omega | decide) ?_
      show fwWP mX1_bestLookout (d + 3) 19 [some (aR 4 i), some (aI ((mLook (h 17 i) (h 4 i 1).toNat c).1)), some (aI ((mLook (h 17 i) (h 4 i 1).toNat c).2)), some (aI (c : Int)), none] [aI (mBits (mSeenB (h 17 i) c) (h 4 i 1).toNat)] h Q
      refine w_callS (d := d + 2) (S := []) [aI (mBits (mSeenB (h 17 i) c) (h 4 i 1).toNat)] dX1_bestLookout_19 ml_X1_68 ok_J6_bitCount_0f7a4 st_J6_bitCount_0f7a4 rfl (Nat.le_of_ble_eq_true rfl) ?_
      refine c_bitCount (d := (d + 2)) (mBits (mSeenB (h 17 i) c) (h 4 i 1).toNat) ?_
      show fwWP mX1_bestLookout (d + 3) 22 [some (aR 4 i), some (aI ((mLook (h 17 i) (h 4 i 1).toNat c).1)), some (aI ((mLook (h 17 i) (h 4 i 1).toNat c).2)), some (aI (c : Int)), none] [aI (fwPop (mBits (mSeenB (h 17 i) c) (h 4 i 1).toNat))] h Q
      have hp := fwPop_rng (mBits (mSeenB (h 17 i) c) (h 4 i 1).toNat)
      refine w_istore [some (aR 4 i), some (aI ((mLook (h 17 i) (h 4 i 1).toNat c).1)), some (aI ((mLook (h 17 i) (h 4 i 1).toNat c).2)), some (aI (c : Int)), some (aI (fwPop (mBits (mSeenB (h 17 i) c) (h 4 i 1).toNat)))] dX1_bestLookout_22 rfl (by decide) ?_
      refine w_iload dX1_bestLookout_24 rfl ?_
      refine w_iload_n dX1_bestLookout_26 rfl ?_
      refine w_icmp_le 35 dX1_bestLookout_27 (by decide) (by omega) (by omega) (fun c27 => ?_) (fun c27 => ?_)
      · refine w_iinc [some (aR 4 i), some (aI ((mLook (h 17 i) (h 4 i 1).toNat c).1)), some (aI ((mLook (h 17 i) (h 4 i 1).toNat c).2)), some (aI ((c : Int) + 1)), some (aI (fwPop (mBits (mSeenB (h 17 i) c) (h 4 i 1).toNat)))] dX1_bestLookout_35 rfl rfl (by decide) ?_
        refine w_goto 6 dX1_bestLookout_38 (by decide) ?_
        refine w_drop [4] [some (aR 4 i), some (aI ((mLook (h 17 i) (h 4 i 1).toNat c).1)), some (aI ((mLook (h 17 i) (h 4 i 1).toNat c).2)), some (aI ((c : Int) + 1)), none] rfl ?_
        refine ih6 (by omega) _ _ _ ?_ ?_ ?_
        · exact (by omega)
        · exact (by rw [mLook]; first | rw [if_pos (by omega)] | rw [if_neg (by omega)])
        · exact (by rw [mLook]; first | rw [if_pos (by omega)] | rw [if_neg (by omega)])
      · refine w_iload dX1_bestLookout_30 rfl ?_
        refine w_istore_n [some (aR 4 i), some (aI ((mLook (h 17 i) (h 4 i 1).toNat c).1)), some (aI (fwPop (mBits (mSeenB (h 17 i) c) (h 4 i 1).toNat))), some (aI (c : Int)), some (aI (fwPop (mBits (mSeenB (h 17 i) c) (h 4 i 1).toNat)))] dX1_bestLookout_32 rfl (by decide) ?_
        refine w_iload_n dX1_bestLookout_33 rfl ?_
        refine w_istore_n [some (aR 4 i), some (aI (c : Int)), some (aI (fwPop (mBits (mSeenB (h 17 i) c) (h 4 i 1).toNat))), some (aI (c : Int)), some (aI (fwPop (mBits (mSeenB (h 17 i) c) (h 4 i 1).toNat)))] dX1_bestLookout_34 rfl (by decide) ?_
        refine w_iinc [some (aR 4 i), some (aI (c : Int)), some (aI (fwPop (mBits (mSeenB (h 17 i) c) (h 4 i 1).toNat))), some (aI ((c : Int) + 1)), some (aI (fwPop (mBits (mSeenB (h 17 i) c) (h 4 i 1).toNat)))] dX1_bestLookout_35 rfl rfl (by decide) ?_
        refine w_goto 6 dX1_bestLookout_38 (by decide) ?_
        refine w_drop [4] [some (aR 4 i), some (aI (c : Int)), some (aI (fwPop (mBits (mSeenB (h 17 i) c) (h 4 i 1).toNat))), some (aI ((c : Int) + 1)), none] rfl ?_
        refine ih6 (by omega) _ _ _ ?_ ?_ ?_
        · exact (by omega)
        · exact (by rw [mLook]; first | rw [if_pos (by omega)] | rw [if_neg (by omega)])
        · exact (by rw [mLook]; first | rw [if_pos (by omega)] | rw [if_neg (by omega)])
  refine lp6 0 (Nat.zero_le _) _ _ _ ?_ ?_ ?_
  · exact (by omega)
  · exact rfl
  · exact rfl
theorem fwDiv_nn {x y : Int} (hx : 0 ≤ x ∧ x < 2147483648) (hy : 0 < y ∧ y < 2147483648) : fwDiv x y = x / y := by
  obtain ⟨a, rfl⟩ : ∃ a : Nat, x = a := ⟨x.toNat, by omega⟩
  obtain ⟨b, rfl⟩ : ∃ b : Nat, y = b := ⟨y.toNat, by omega⟩
  unfold fwDiv
  have e1 : Int32.ofInt (a : Int) = nI a := rfl
  have e2 : Int32.ofInt (b : Int) = nI b := rfl
  rw [e1, e2, pk_div (by omega) (by omega) (by omega), nI_toInt (Nat.lt_of_le_of_lt (Nat.div_le_self a b) (by omega))]
  exact Int.natCast_ediv a b
/-- in how many HOURS a CELL is shaded from a side, over the first a CELLS of that side -/
def mShd (n : Int) (H : Nat → Int) (x st : Int) : Nat → Int
  | 0 => 0
  | a + 1 => if (0 ≤ x + st * ((a : Int) + 1) ∧ x + st * ((a : Int) + 1) < n) ∧ 0 < H (x + st * ((a : Int) + 1)).toNat - H x.toNat ∧ mShd n H x st a < (H (x + st * ((a : Int) + 1)).toNat - H x.toNat - 1) / ((a : Int) + 1) then (H (x + st * ((a : Int) + 1)).toNat - H x.toNat - 1) / ((a : Int) + 1) else mShd n H x st a
theorem mShd_stop {n : Int} {H : Nat → Int} {x st : Int} (hs : st = 1 ∨ st = -1) (hx : 0 ≤ x ∧ x < n) {a : Nat} (ho : ¬ (0 ≤ x + st * ((a : Int) + 1) ∧ x + st * ((a : Int) + 1) < n)) : ∀ b, mShd n H x st (a + b) = mShd n H x st a := by
  intro b
  induction b with
  | zero => rfl
  | succ b ih =>
    rw [← Nat.add_assoc, mShd, if_neg, ih]
    intro q
    have := q.1
    rcases hs with rfl | rfl <;> omega
theorem mShd_rng {n : Int} {H : Nat → Int} {x st : Int} (hn : n ≤ 10) (hx : 0 ≤ x ∧ x < n) (hH : ∀ c : Nat, c < 10 → 0 ≤ H c ∧ H c ≤ 1000) : ∀ a, 0 ≤ mShd n H x st a ∧ mShd n H x st a ≤ 1000 := by
  intro a
  induction a with
  | zero => simp [mShd]
  | succ a ih =>
    rw [mShd]
    split
    · rename_i q
      have h1 := hH (x + st * ((a : Int) + 1)).toNat (by omega)
      have h2 := hH x.toNat (by omega)
      have h3 : (H (x + st * ((a : Int) + 1)).toNat - H x.toNat - 1) / ((a : Int) + 1) ≤ H (x + st * ((a : Int) + 1)).toNat - H x.toNat - 1 := Int.ediv_le_self _ (by omega)
      omega
    · exact ih
def mSh (n : Int) (H : Nat → Int) (x st : Int) : Int := if 0 ≤ x ∧ x < n then min (mShd n H x st 9) 9 else 0
set_option maxRecDepth 100000 in
set_option maxHeartbeats 4000000 in
theorem c_X1_shadedHours {d : Nat} {h : fwH} {Q : Option fwV → fwH → Prop} (i : Nat) (x y : Int) (hi : i < 6) (hG : gOk h i) (hx : -2147483648 ≤ x ∧ x < 2147483648) (hy : y = 1 ∨ y = -1) (k : Q (some (aI (mSh (h 4 i 1) (h 17 i) x y))) h) : fwCt mX1_shadedHours (d + 0) [aR 4 i, aI x, aI y] h Q := by
  refine fwCt_of [some (aR 4 i), some (aI x), some (aI y), none, none, none, none] rfl rfl rfl ?_
  obtain ⟨⟨g1, g2⟩, ⟨g3, g4⟩, ⟨g5, g6⟩, g7, g8⟩ := id hG
  refine w_iload_n dX1_shadedHours_0 rfl ?_
  refine w_if_lt 21 dX1_shadedHours_1 (by decide) (by omega) (fun c1 => ?_) (fun c1 => ?_)
  · refine w_iconst dX1_shadedHours_21 ?_
    exact w_iretE dX1_shadedHours_22 rfl (by rw [mSh]; first | (exfalso; omega) | (rw [if_pos (by omega)]; omega) | (rw [if_neg (by omega)])) k
  · refine w_iload_n dX1_shadedHours_4 rfl ?_
    refine w_aload_n dX1_shadedHours_5 rfl ?_
    refine w_geti dX1_shadedHours_6 fl_X1_15 rfl hi ?_
    refine w_icmp_ge 21 dX1_shadedHours_9 (by decide) (by omega) (by omega) (fun c9 => ?_) (fun c9 => ?_)
    · refine w_iconst dX1_shadedHours_21 ?_
      exact w_iretE dX1_shadedHours_22 rfl (by rw [mSh]; first | (exfalso; omega) | (rw [if_pos (by omega)]; omega) | (rw [if_neg (by omega)])) k
    · refine w_iload_n dX1_shadedHours_12 rfl ?_
      refine w_aload_n dX1_shadedHours_13 rfl ?_
      refine w_getr 17 i dX1_shadedHours_14 fl_X1_9 rfl hi ?_
      refine w_alen dX1_shadedHours_17 rfl (by decide) hi ?_
      refine w_icmp_lt 23 dX1_shadedHours_18 (by decide) (by omega) (by omega) (fun c18 => ?_) (fun c18 => ?_)
      · have J116 : ∀ ho : Int, mShd (h 4 i 1) (h 17 i) x y 9 = ho → fwWP mX1_shadedHours (d + 0) 116 [some (aR 4 i), some (aI x), some (aI y), some (aI ho), none, none, none] [] h Q := by
          intro ho eho
          have hq := mShd_rng (n := h 4 i 1) (H := h 17 i) (x := x) (st := y) g2 (by omega) g8 9
          refine w_iload_n dX1_shadedHours_116 rfl ?_
          refine w_bipush dX1_shadedHours_117 rfl ?_
          refine w_icmp_ge 126 dX1_shadedHours_119 (by decide) (by omega) (by omega) (fun c119 => ?_) (fun c119 => ?_)
          · refine w_bipush dX1_shadedHours_126 rfl ?_
            exact w_iretE dX1_shadedHours_128 rfl (by rw [mSh]; first | (exfalso; omega) | (rw [if_pos (by omega)]; omega) | (rw [if_neg (by omega)])) k
          · refine w_iload_n dX1_shadedHours_122 rfl ?_
            refine w_goto 128 dX1_shadedHours_123 (by decide) ?_
            exact w_iretE dX1_shadedHours_128 rfl (by rw [mSh]; first | (exfalso; omega) | (rw [if_pos (by omega)]; omega) | (rw [if_neg (by omega)])) k
        refine w_iconst dX1_shadedHours_23 ?_
        refine w_istore_n [some (aR 4 i), some (aI x), some (aI y), some (aI 0), none, none, none] dX1_shadedHours_24 rfl (by decide) ?_
        refine w_iconst dX1_shadedHours_25 ?_
        refine w_istore [some (aR 4 i), some (aI x), some (aI y), some (aI 0), some (aI 1), none, none] dX1_shadedHours_26 rfl (by decide) ?_
        have lp28 : ∀ c : Nat, c ≤ 9 → ∀ (y28 ho : Int), y28 = (c : Int) + 1 → ho = mShd (h 4 i 1) (h 17 i) x y c → fwWP mX1_shadedHours (d + 0) 28 [some (aR 4 i), some (aI x), some (aI y), some (aI ho), some (aI y28), none, none] [] h Q := by
          refine fw_up (fun c hc28 ih28 => ?_)
          intro y28 ho ey28 e_ho
          subst ey28
          subst e_ho
          have hq := mShd_rng (n := h 4 i 1) (H := h 17 i) (x := x) (st := y) g2 (by omega) g8 c
          show fwWP mX1_shadedHours (d + 0) 28 [some (aR 4 i), some (aI x), some (aI y), some (aI (mShd (h 4 i 1) (h 17 i) x y c)), some (aI ((c : Int) + 1)), none, none] [] h Q
          refine w_iload dX1_shadedHours_28 rfl ?_
          refine w_bipush dX1_shadedHours_30 rfl ?_
          refine w_icmp_ge 116 dX1_shadedHours_32 (by decide) (by omega) (by omega) (fun c32 => ?_) (fun c32 => ?_)
          · refine w_drop [4] [some (aR 4 i), some (aI x), some (aI y), some (aI (mShd (h 4 i 1) (h 17 i) x y c)), none, none, none] rfl ?_
            exact J116 _ (by rw [show c = 9 by omega])
          · refine w_iload_n dX1_shadedHours_35 rfl ?_
            refine w_iload_n dX1_shadedHours_36 rfl ?_
            refine w_iload dX1_shadedHours_37 rfl ?_
            refine w_imul dX1_shadedHours_39 ?_
            refine w_iadd dX1_shadedHours_40 ?_
            refine w_istore [some (aR 4 i), some (aI x), some (aI y), some (aI (mShd (h 4 i 1) (h 17 i) x y c)), some (aI ((c : Int) + 1)), some (aI (x + (y * ((c : Int) + 1)))), none] dX1_shadedHours_41 rfl (by decide) ?_
            have hat : -1000 ≤ (x + y * ((c : Int) + 1)) ∧ (x + y * ((c : Int) + 1)) ≤ 1000 := by rcases hy with rfl | rfl <;> omega
            refine w_iload dX1_shadedHours_43 rfl ?_
            refine w_if_lt 116 dX1_shadedHours_45 (by decide) (by omega) (fun c45 => ?_) (fun c45 => ?_)
            · refine w_drop [4, 5] [some (aR 4 i), some (aI x), some (aI y), some (aI (mShd (h 4 i 1) (h 17 i) x y c)), none, none, none] rfl ?_
              exact J116 _ (by rw [show (9 : Nat) = c + (9 - c) by omega]; exact mShd_stop hy (by omega) (by omega) (9 - c))
            · refine w_iload dX1_shadedHours_48 rfl ?_
              refine w_aload_n dX1_shadedHours_50 rfl ?_
              refine w_geti dX1_shadedHours_51 fl_X1_15 rfl hi ?_
              refine w_icmp_ge 116 dX1_shadedHours_54 (by decide) (by omega) (by omega) (fun c54 => ?_) (fun c54 => ?_)
              · refine w_drop [4, 5] [some (aR 4 i), some (aI x), some (aI y), some (aI (mShd (h 4 i 1) (h 17 i) x y c)), none, none, none] rfl ?_
                exact J116 _ (by rw [show (9 : Nat) = c + (9 - c) by omega]; exact mShd_stop hy (by omega) (by omega) (9 - c))
              · refine w_iload dX1_shadedHours_57 rfl ?_
                refine w_aload_n dX1_shadedHours_59 rfl ?_
                refine w_getr 17 i dX1_shadedHours_60 fl_X1_9 rfl hi ?_
                refine w_alen dX1_shadedHours_63 rfl (by decide) hi ?_
                refine w_icmp_lt 70 dX1_shadedHours_64 (by decide) (by omega) (by omega) (fun c64 => ?_) (fun c64 => ?_)
                · refine w_aload_n dX1_shadedHours_70 rfl ?_
                  refine w_getr 17 i dX1_shadedHours_71 fl_X1_9 rfl hi ?_
                  refine w_iload dX1_shadedHours_74 rfl ?_
                  refine w_iald dX1_shadedHours_76 rfl hi (by omega) (by omega) ?_
                  refine w_aload_n dX1_shadedHours_77 rfl ?_
                  refine w_getr 17 i dX1_shadedHours_78 fl_X1_9 rfl hi ?_
                  refine w_iload_n dX1_shadedHours_81 rfl ?_
                  refine w_iald dX1_shadedHours_82 rfl hi (by omega) (by omega) ?_
                  refine w_isub dX1_shadedHours_83 ?_
                  refine w_istore [some (aR 4 i), some (aI x), some (aI y), some (aI (mShd (h 4 i 1) (h 17 i) x y c)), some (aI ((c : Int) + 1)), some (aI (x + (y * ((c : Int) + 1)))), some (aI ((h 17 i (x + (y * ((c : Int) + 1))).toNat) - (h 17 i (x).toNat)))] dX1_shadedHours_84 rfl (by decide) ?_
                  have hb1 := g8 (x + y * ((c : Int) + 1)).toNat (by omega)
                  have hb2 := g8 x.toNat (by omega)
                  refine w_iload dX1_shadedHours_86 rfl ?_
                  refine w_if_le 110 dX1_shadedHours_88 (by decide) (by omega) (fun c88 => ?_) (fun c88 => ?_)
                  · refine w_iinc [some (aR 4 i), some (aI x), some (aI y), some (aI (mShd (h 4 i 1) (h 17 i) x y c)), some (aI (((c : Int) + 1) + 1)), some (aI (x + (y * ((c : Int) + 1)))), some (aI ((h 17 i (x + (y * ((c : Int) + 1))).toNat) - (h 17 i (x).toNat)))] dX1_shadedHours_110 rfl rfl (by decide) ?_
                    refine w_goto 28 dX1_shadedHours_113 (by decide) ?_
                    refine w_drop [5, 6] [some (aR 4 i), some (aI x), some (aI y), some (aI (mShd (h 4 i 1) (h 17 i) x y c)), some (aI (((c : Int) + 1) + 1)), none, none] rfl ?_
                    refine ih28 (by omega) _ _ ?_ ?_
                    · exact (by omega)
                    · exact (by rw [mShd]; first | rw [if_pos ⟨by omega, by omega, by omega⟩, hdv] | (rw [if_neg (by rintro ⟨q1, q2, q3⟩; first | omega | (rw [hdv] at c99; omega))]))
                  · refine w_iload dX1_shadedHours_91 rfl ?_
                    refine w_iconst dX1_shadedHours_93 ?_
                    refine w_isub dX1_shadedHours_94 ?_
                    refine w_iload dX1_shadedHours_95 rfl ?_
                    refine w_idiv dX1_shadedHours_97 (by omega) (by omega) ?_
                    have hdv : fwDiv (h 17 i (x + y * ((c : Int) + 1)).toNat - h 17 i x.toNat - 1) ((c : Int) + 1) = (h 17 i (x + y * ((c : Int) + 1)).toNat - h 17 i x.toNat - 1) / ((c : Int) + 1) := fwDiv_nn (by omega) (by omega)
                    have hdr : (h 17 i (x + y * ((c : Int) + 1)).toNat - h 17 i x.toNat - 1) / ((c : Int) + 1) ≤ (h 17 i (x + y * ((c : Int) + 1)).toNat - h 17 i x.toNat - 1) := Int.ediv_le_self _ (by omega)
                    have hdp : 0 ≤ (h 17 i (x + y * ((c : Int) + 1)).toNat - h 17 i x.toNat - 1) / ((c : Int) + 1) := Int.ediv_nonneg (by omega) (by omega)
                    refine w_iload_n dX1_shadedHours_98 rfl ?_
                    refine w_icmp_le 110 dX1_shadedHours_99 (by decide) (by rw [hdv]; omega) (by omega) (fun c99 => ?_) (fun c99 => ?_)
                    · refine w_iinc [some (aR 4 i), some (aI x), some (aI y), some (aI (mShd (h 4 i 1) (h 17 i) x y c)), some (aI (((c : Int) + 1) + 1)), some (aI (x + (y * ((c : Int) + 1)))), some (aI ((h 17 i (x + (y * ((c : Int) + 1))).toNat) - (h 17 i (x).toNat)))] dX1_shadedHours_110 rfl rfl (by decide) ?_
                      refine w_goto 28 dX1_shadedHours_113 (by decide) ?_
                      refine w_drop [5, 6] [some (aR 4 i), some (aI x), some (aI y), some (aI (mShd (h 4 i 1) (h 17 i) x y c)), some (aI (((c : Int) + 1) + 1)), none, none] rfl ?_
                      refine ih28 (by omega) _ _ ?_ ?_
                      · exact (by omega)
                      · exact (by rw [mShd]; first | rw [if_pos ⟨by omega, by omega, by omega⟩, hdv] | (rw [if_neg (by rintro ⟨q1, q2, q3⟩; first | omega | (rw [hdv] at c99; omega))]))
                    · rw [hdv] at c99
                      refine w_iload dX1_shadedHours_102 rfl ?_
                      refine w_iconst dX1_shadedHours_104 ?_
                      refine w_isub dX1_shadedHours_105 ?_
                      refine w_iload dX1_shadedHours_106 rfl ?_
                      refine w_idiv dX1_shadedHours_108 (by omega) (by omega) ?_
                      refine w_istore_n [some (aR 4 i), some (aI x), some (aI y), some (aI (fwDiv (((h 17 i (x + (y * ((c : Int) + 1))).toNat) - (h 17 i (x).toNat)) - 1) ((c : Int) + 1))), some (aI ((c : Int) + 1)), some (aI (x + (y * ((c : Int) + 1)))), some (aI ((h 17 i (x + (y * ((c : Int) + 1))).toNat) - (h 17 i (x).toNat)))] dX1_shadedHours_109 rfl (by decide) ?_
                      refine w_iinc [some (aR 4 i), some (aI x), some (aI y), some (aI (fwDiv (((h 17 i (x + (y * ((c : Int) + 1))).toNat) - (h 17 i (x).toNat)) - 1) ((c : Int) + 1))), some (aI (((c : Int) + 1) + 1)), some (aI (x + (y * ((c : Int) + 1)))), some (aI ((h 17 i (x + (y * ((c : Int) + 1))).toNat) - (h 17 i (x).toNat)))] dX1_shadedHours_110 rfl rfl (by decide) ?_
                      refine w_goto 28 dX1_shadedHours_113 (by decide) ?_
                      refine w_drop [5, 6] [some (aR 4 i), some (aI x), some (aI y), some (aI (fwDiv (((h 17 i (x + (y * ((c : Int) + 1))).toNat) - (h 17 i (x).toNat)) - 1) ((c : Int) + 1))), some (aI (((c : Int) + 1) + 1)), none, none] rfl ?_
                      refine ih28 (by omega) _ _ ?_ ?_
                      · exact (by omega)
                      · exact (by rw [mShd]; first | rw [if_pos ⟨by omega, by omega, by omega⟩, hdv] | (rw [if_neg (by rintro ⟨q1, q2, q3⟩; first | omega | (rw [hdv] at c99; omega))]))
                · refine w_goto 116 dX1_shadedHours_67 (by decide) ?_
                  refine w_drop [4, 5] [some (aR 4 i), some (aI x), some (aI y), some (aI (mShd (h 4 i 1) (h 17 i) x y c)), none, none, none] rfl ?_
                  exact J116 _ (by rw [show (9 : Nat) = c + (9 - c) by omega]; exact mShd_stop hy (by omega) (by omega) (9 - c))
        refine lp28 0 (Nat.zero_le _) _ _ ?_ ?_
        · exact (by omega)
        · exact rfl
      · refine w_iconst dX1_shadedHours_21 ?_
        exact w_iretE dX1_shadedHours_22 rfl (by rw [mSh]; first | (exfalso; omega) | (rw [if_pos (by omega)]; omega) | (rw [if_neg (by omega)])) k
theorem mSh_rng {n : Int} {H : Nat → Int} {x st : Int} (hn : n ≤ 10) (hH : ∀ c : Nat, c < 10 → 0 ≤ H c ∧ H c ≤ 1000) : 0 ≤ mSh n H x st ∧ mSh n H x st ≤ 9 := by
  unfold mSh
  split
  · rename_i q
    have := mShd_rng (st := st) hn q hH 9
    omega
  · omega
/-- SHADE: hour h of a CELL -/
def mShade (n : Int) (H : Nat → Int) (x hr : Int) : Prop := if 0 < hr then hr ≤ mSh n H x (-1) else -hr ≤ mSh n H x 1
def mShadeB (n : Int) (H : Nat → Int) (x hr : Int) : Bool := if 0 < hr then decide (hr ≤ mSh n H x (-1)) else decide (-hr ≤ mSh n H x 1)
set_option maxRecDepth 100000 in
set_option maxHeartbeats 4000000 in
theorem c_X1_isShaded {d : Nat} {h : fwH} {Q : Option fwV → fwH → Prop} (i : Nat) (x y : Int) (hi : i < 6) (hG : gOk h i) (hx : -2147483648 ≤ x ∧ x < 2147483648) (hy : -1000 ≤ y ∧ y ≤ 1000) (k : Q (some (aI (fwB (mShadeB (h 4 i 1) (h 17 i) x y = true)))) h) : fwCt mX1_isShaded (d + 1) [aR 4 i, aI x, aI y] h Q := by
  refine fwCt_of [some (aR 4 i), some (aI x), some (aI y)] rfl rfl rfl ?_
  obtain ⟨⟨g1, g2⟩, ⟨g3, g4⟩, ⟨g5, g6⟩, g7, g8⟩ := id hG
  refine w_iload_n dX1_isShaded_0 rfl ?_
  refine w_if_le 22 dX1_isShaded_1 (by decide) (by omega) (fun c1 => ?_) (fun c1 => ?_)
  · refine w_iload_n dX1_isShaded_22 rfl ?_
    refine w_ineg dX1_isShaded_23 ?_
    refine w_aload_n dX1_isShaded_24 rfl ?_
    refine w_iload_n dX1_isShaded_25 rfl ?_
    refine w_iconst dX1_isShaded_26 ?_
    refine w_callV (d := d + 0) (S := [aI (-y)]) [aI x, aI 1] dX1_isShaded_27 ml_X1_37 ok_X1_shadedHours vi_X1_shadedHours rfl rfl hi rfl (Nat.le_of_ble_eq_true rfl) ?_
    refine c_X1_shadedHours (d := d) i x 1 hi (by first | assumption | omega | decide) (by first | assumption | omega | decide) (by first | assumption | omega | decide) ?_
    show fwWP mX1_isShaded (d + 1) 30 [some (aR 4 i), some (aI x), some (aI y)] [aI (mSh (h 4 i 1) (h 17 i) x 1), aI (-y)] h Q
    have hs2 := mSh_rng (n := (h 4 i 1)) (H := (h 17 i)) (x := x) (st := 1) (by omega) (by assumption)
    refine w_icmp_gt 37 dX1_isShaded_30 (by decide) (by omega) (by omega) (fun c30 => ?_) (fun c30 => ?_)
    · refine w_iconst dX1_isShaded_37 ?_
      exact w_zretE (P := mShadeB (h 4 i 1) (h 17 i) x y = true) dX1_isShaded_38 rfl (by unfold mShadeB; first | (rw [if_pos (by omega)]; first | (rw [fwB_t (by simp only [decide_eq_true_eq]; omega)]) | (rw [fwB_f (by simp only [decide_eq_true_eq]; omega)])) | (rw [if_neg (by omega)]; first | (rw [fwB_t (by simp only [decide_eq_true_eq]; omega)]) | (rw [fwB_f (by simp only [decide_eq_true_eq]; omega)]))) k
    · refine w_iconst dX1_isShaded_33 ?_
      refine w_goto 38 dX1_isShaded_34 (by decide) ?_
      exact w_zretE (P := mShadeB (h 4 i 1) (h 17 i) x y = true) dX1_isShaded_38 rfl (by unfold mShadeB; first | (rw [if_pos (by omega)]; first | (rw [fwB_t (by simp only [decide_eq_true_eq]; omega)]) | (rw [fwB_f (by simp only [decide_eq_true_eq]; omega)])) | (rw [if_neg (by omega)]; first | (rw [fwB_t (by simp only [decide_eq_true_eq]; omega)]) | (rw [fwB_f (by simp only [decide_eq_true_eq]; omega)]))) k
  · refine w_iload_n dX1_isShaded_4 rfl ?_
    refine w_aload_n dX1_isShaded_5 rfl ?_
    refine w_iload_n dX1_isShaded_6 rfl ?_
    refine w_iconst dX1_isShaded_7 ?_
    refine w_callV (d := d + 0) (S := [aI y]) [aI x, aI (-1)] dX1_isShaded_8 ml_X1_37 ok_X1_shadedHours vi_X1_shadedHours rfl rfl hi rfl (Nat.le_of_ble_eq_true rfl) ?_
    refine c_X1_shadedHours (d := d) i x (-1) hi (by first | assumption | omega | decide) (by first | assumption | omega | decide) (by first | assumption | omega | decide) ?_
    show fwWP mX1_isShaded (d + 1) 11 [some (aR 4 i), some (aI x), some (aI y)] [aI (mSh (h 4 i 1) (h 17 i) x (-1)), aI y] h Q
    have hs4 := mSh_rng (n := (h 4 i 1)) (H := (h 17 i)) (x := x) (st := (-1)) (by omega) (by assumption)
    refine w_icmp_gt 18 dX1_isShaded_11 (by decide) (by omega) (by omega) (fun c11 => ?_) (fun c11 => ?_)
    · refine w_iconst dX1_isShaded_18 ?_
      refine w_goto 38 dX1_isShaded_19 (by decide) ?_
      exact w_zretE (P := mShadeB (h 4 i 1) (h 17 i) x y = true) dX1_isShaded_38 rfl (by unfold mShadeB; first | (rw [if_pos (by omega)]; first | (rw [fwB_t (by simp only [decide_eq_true_eq]; omega)]) | (rw [fwB_f (by simp only [decide_eq_true_eq]; omega)])) | (rw [if_neg (by omega)]; first | (rw [fwB_t (by simp only [decide_eq_true_eq]; omega)]) | (rw [fwB_f (by simp only [decide_eq_true_eq]; omega)]))) k
    · refine w_iconst dX1_isShaded_14 ?_
      refine w_goto 38 dX1_isShaded_15 (by decide) ?_
      exact w_zretE (P := mShadeB (h 4 i 1) (h 17 i) x y = true) dX1_isShaded_38 rfl (by unfold mShadeB; first | (rw [if_pos (by omega)]; first | (rw [fwB_t (by simp only [decide_eq_true_eq]; omega)]) | (rw [fwB_f (by simp only [decide_eq_true_eq]; omega)])) | (rw [if_neg (by omega)]; first | (rw [fwB_t (by simp only [decide_eq_true_eq]; omega)]) | (rw [fwB_f (by simp only [decide_eq_true_eq]; omega)]))) k
set_option maxRecDepth 100000 in
set_option maxHeartbeats 4000000 in
theorem c_X1_lightOf {d : Nat} {h : fwH} {Q : Option fwV → fwH → Prop} (i : Nat) (x : Int) (hi : i < 6) (hG : gOk h i) (hx : -2147483648 ≤ x ∧ x < 2147483648) (k : Q (some (aI (18 - mSh (h 4 i 1) (h 17 i) x (-1) - mSh (h 4 i 1) (h 17 i) x 1))) h) : fwCt mX1_lightOf (d + 1) [aR 4 i, aI x] h Q := by
  refine fwCt_of [some (aR 4 i), some (aI x)] rfl rfl rfl ?_
  obtain ⟨⟨g1, g2⟩, ⟨g3, g4⟩, ⟨g5, g6⟩, g7, g8⟩ := id hG
  refine w_bipush dX1_lightOf_0 rfl ?_
  refine w_aload_n dX1_lightOf_2 rfl ?_
  refine w_iload_n dX1_lightOf_3 rfl ?_
  refine w_iconst dX1_lightOf_4 ?_
  refine w_callV (d := d + 0) (S := [aI 18]) [aI x, aI (-1)] dX1_lightOf_5 ml_X1_37 ok_X1_shadedHours vi_X1_shadedHours rfl rfl hi rfl (Nat.le_of_ble_eq_true rfl) ?_
  refine c_X1_shadedHours (d := d) i x (-1) hi (by first | assumption | omega | decide) (by first | assumption | omega | decide) (by first | assumption | omega | decide) ?_
  show fwWP mX1_lightOf (d + 1) 8 [some (aR 4 i), some (aI x)] [aI (mSh (h 4 i 1) (h 17 i) x (-1)), aI 18] h Q
  have hs1 := mSh_rng (n := (h 4 i 1)) (H := (h 17 i)) (x := x) (st := (-1)) (by omega) (by assumption)
  refine w_isub dX1_lightOf_8 ?_
  refine w_aload_n dX1_lightOf_9 rfl ?_
  refine w_iload_n dX1_lightOf_10 rfl ?_
  refine w_iconst dX1_lightOf_11 ?_
  refine w_callV (d := d + 0) (S := [aI (18 - (mSh (h 4 i 1) (h 17 i) x (-1)))]) [aI x, aI 1] dX1_lightOf_12 ml_X1_37 ok_X1_shadedHours vi_X1_shadedHours rfl rfl hi rfl (Nat.le_of_ble_eq_true rfl) ?_
  refine c_X1_shadedHours (d := d) i x 1 hi (by first | assumption | omega | decide) (by first | assumption | omega | decide) (by first | assumption | omega | decide) ?_
  show fwWP mX1_lightOf (d + 1) 15 [some (aR 4 i), some (aI x)] [aI (mSh (h 4 i 1) (h 17 i) x 1), aI (18 - (mSh (h 4 i 1) (h 17 i) x (-1)))] h Q
  have hs2 := mSh_rng (n := (h 4 i 1)) (H := (h 17 i)) (x := x) (st := 1) (by omega) (by assumption)
  refine w_isub dX1_lightOf_15 ?_
  exact w_iretE dX1_lightOf_16 rfl (by rfl) k
set_option maxRecDepth 100000 in
set_option maxHeartbeats 4000000 in
theorem c_X1_shadedCells {d : Nat} {h : fwH} {Q : Option fwV → fwH → Prop} (i : Nat) (y : Int) (hi : i < 6) (hG : gOk h i) (hy : -1000 ≤ y ∧ y ≤ 1000) (k : Q (some (aI (mBits (fun c => mShadeB (h 4 i 1) (h 17 i) (c : Int) y) (h 4 i 1).toNat))) h) : fwCt mX1_shadedCells (d + 2) [aR 4 i, aI y] h Q := by
  refine fwCt_of [some (aR 4 i), some (aI y), none, none] rfl rfl rfl ?_
  obtain ⟨⟨g1, g2⟩, ⟨g3, g4⟩, ⟨g5, g6⟩, g7, g8⟩ := id hG
  refine w_iconst dX1_shadedCells_0 ?_
  refine w_istore_n [some (aR 4 i), some (aI y), some (aI 0), none] dX1_shadedCells_1 rfl (by decide) ?_
  refine w_iconst dX1_shadedCells_2 ?_
  refine w_istore_n [some (aR 4 i), some (aI y), some (aI 0), some (aI 0)] dX1_shadedCells_3 rfl (by decide) ?_
  have lp4 : ∀ c : Nat, c ≤ (h 4 i 1).toNat → ∀ (y4 bi : Int), y4 = (c : Int) → bi = mBits (fun c => mShadeB (h 4 i 1) (h 17 i) (c : Int) y) c → fwWP mX1_shadedCells (d + 2) 4 [some (aR 4 i), some (aI y), some (aI bi), some (aI y4)] [] h Q := by
    refine fw_up (fun c hc4 ih4 => ?_)
    intro y4 bi ey4 e_bi
    subst ey4
    subst e_bi
    show fwWP mX1_shadedCells (d + 2) 4 [some (aR 4 i), some (aI y), some (aI (mBits (fun c => mShadeB (h 4 i 1) (h 17 i) (c : Int) y) c)), some (aI (c : Int))] [] h Q
    refine w_iload_n dX1_shadedCells_4 rfl ?_
    refine w_aload_n dX1_shadedCells_5 rfl ?_
    refine w_geti dX1_shadedCells_6 fl_X1_15 rfl hi ?_
    refine w_icmp_ge 33 dX1_shadedCells_9 (by decide) (by omega) (by omega) (fun c9 => ?_) (fun c9 => ?_)
    · have ec4 : (h 4 i 1).toNat = c := by omega
      subst ec4
      refine w_iload_n dX1_shadedCells_33 rfl ?_
      exact w_iretE dX1_shadedCells_34 rfl (by rfl) k
    · refine w_aload_n dX1_shadedCells_12 rfl ?_
      refine w_iload_n dX1_shadedCells_13 rfl ?_
      refine w_iload_n dX1_shadedCells_14 rfl ?_
      refine w_callV (d := d + 1) (S := []) [aI (c : Int), aI y] dX1_shadedCells_15 ml_X1_41 ok_X1_isShaded vi_X1_isShaded rfl rfl hi rfl (Nat.le_of_ble_eq_true rfl) ?_
      refine c_X1_isShaded (d := d) i (c : Int) y hi (by first | assumption | omega | decide) (by first | assumption | omega | decide) (by first | assumption | omega | decide) ?_
      show fwWP mX1_shadedCells (d + 2) 18 [some (aR 4 i), some (aI y), some (aI (mBits (fun c => mShadeB (h 4 i 1) (h 17 i) (c : Int) y) c)), some (aI (c : Int))] [aI (fwB (mShadeB (h 4 i 1) (h 17 i) (c : Int) y = true))] h Q
      refine w_ifB_eq 27 dX1_shadedCells_18 (by decide) (fun c18 => ?_) (fun c18 => ?_)
      · refine w_iinc [some (aR 4 i), some (aI y), some (aI (mBits (fun c => mShadeB (h 4 i 1) (h 17 i) (c : Int) y) c)), some (aI ((c : Int) + 1))] dX1_shadedCells_27 rfl rfl (by decide) ?_
        refine w_goto 4 dX1_shadedCells_30 (by decide) ?_
        refine ih4 (by omega) _ _ ?_ ?_
        · exact (by omega)
        · exact (by rw [mBits]; first | rw [if_pos (by assumption)] | rw [if_neg (by assumption)])
      · refine w_iload_n dX1_shadedCells_21 rfl ?_
        refine w_iconst dX1_shadedCells_22 ?_
        refine w_iload_n dX1_shadedCells_23 rfl ?_
        refine w_ishl dX1_shadedCells_24 ?_
        refine w_ior dX1_shadedCells_25 ?_
        refine w_istore_n [some (aR 4 i), some (aI y), some (aI (fwOr (mBits (fun c => mShadeB (h 4 i 1) (h 17 i) (c : Int) y) c) (fwShl 1 (c : Int)))), some (aI (c : Int))] dX1_shadedCells_26 rfl (by decide) ?_
        refine w_iinc [some (aR 4 i), some (aI y), some (aI (fwOr (mBits (fun c => mShadeB (h 4 i 1) (h 17 i) (c : Int) y) c) (fwShl 1 (c : Int)))), some (aI ((c : Int) + 1))] dX1_shadedCells_27 rfl rfl (by decide) ?_
        refine w_goto 4 dX1_shadedCells_30 (by decide) ?_
        refine ih4 (by omega) _ _ ?_ ?_
        · exact (by omega)
        · exact (by rw [mBits]; first | rw [if_pos (by assumption)] | rw [if_neg (by assumption)])
  refine lp4 0 (Nat.zero_le _) _ _ ?_ ?_
  · exact (by omega)
  · exact rfl
set_option maxRecDepth 100000 in
set_option maxHeartbeats 4000000 in
theorem c_X1_clear {d : Nat} {h : fwH} {Q : Option fwV → fwH → Prop} (i : Nat) (hi : i < 6) (k : Q none (fwUc h 4 i (fun _ => 0))) : fwCt mX1_clear (d + 0) [aR 4 i] h Q := by
  refine fwCt_of [some (aR 4 i)] rfl rfl rfl ?_
  refine w_aload_n dX1_clear_0 rfl ?_
  refine w_iconst dX1_clear_1 ?_
  refine w_puti dX1_clear_2 fl_X1_15 fp_4_1 rfl hi ?_
  refine w_aload_n dX1_clear_5 rfl ?_
  refine w_iconst dX1_clear_6 ?_
  refine w_puti dX1_clear_7 fl_X1_19 fp_4_2 rfl hi ?_
  refine w_aload_n dX1_clear_10 rfl ?_
  refine w_iconst dX1_clear_11 ?_
  refine w_puti dX1_clear_12 fl_X1_22 fp_4_3 rfl hi ?_
  refine w_aload_n dX1_clear_15 rfl ?_
  refine w_iconst dX1_clear_16 ?_
  refine w_putz dX1_clear_17 fl_X1_25 fp_4_4 rfl (by first | omega | exact fwB_01 _) hi ?_
  refine w_heq (fwUc h 4 i (fun _ => 0)) ?_ ?_
  · intro a b s hb hs hr
    simp only [fwUp, fwUc]
    by_cases e : a = 4 ∧ b = i
    · obtain ⟨rfl, rfl⟩ := e
      rcases (show s = 0 ∨ s = 1 ∨ s = 2 ∨ s = 3 ∨ s = 4 by have : s < 5 := hs; omega) with rfl | rfl | rfl | rfl | rfl
      · cases hr
      all_goals simp
    · simp only [e, if_false]
      repeat rw [if_neg (fun q => e ⟨q.1, q.2.1⟩)]
  · exact w_vret dX1_clear_20 rfl k
set_option maxRecDepth 100000 in
set_option maxHeartbeats 4000000 in
theorem c_X1_copyFrom {d : Nat} {h : fwH} {Q : Option fwV → fwH → Prop} (i j : Nat) (hi : i < 6) (hj : j < 6) (hij : i ≠ j) (hz : h 4 j 4 = 0 ∨ h 4 j 4 = 1) (k : Q none (fwUc (fwUc h 17 i (h 17 j)) 4 i (h 4 j))) : fwCt mX1_copyFrom (d + 0) [aR 4 i, aR 4 j] h Q := by
  refine fwCt_of [some (aR 4 i), some (aR 4 j), none] rfl rfl rfl ?_
  refine w_iconst dX1_copyFrom_0 ?_
  refine w_istore_n [some (aR 4 i), some (aR 4 j), some (aI 0)] dX1_copyFrom_1 rfl (by decide) ?_
  have lp2 : ∀ c : Nat, c ≤ 10 → ∀ (y2  : Int) (hh2 : fwH), y2 = (c : Int) → hh2 = (fwUc h 17 i (fwFl (h 17 j) (h 17 i) c)) → fwWP mX1_copyFrom (d + 0) 2 [some (aR 4 i), some (aR 4 j), some (aI y2)] [] hh2 Q := by
    refine fw_up (fun c hc2 ih2 => ?_)
    intro y2  hh2 ey2 eh2
    subst ey2
    subst eh2
    show fwWP mX1_copyFrom (d + 0) 2 [some (aR 4 i), some (aR 4 j), some (aI (c : Int))] [] (fwUc h 17 i (fwFl (h 17 j) (h 17 i) c)) Q
    refine w_iload_n dX1_copyFrom_2 rfl ?_
    refine w_bipush dX1_copyFrom_3 rfl ?_
    refine w_icmp_ge 26 dX1_copyFrom_5 (by decide) (by omega) (by omega) (fun c5 => ?_) (fun c5 => ?_)
    · have ec2 : 10 = c := by omega
      subst ec2
      refine w_aload_n dX1_copyFrom_26 rfl ?_
      refine w_aload_n dX1_copyFrom_27 rfl ?_
      refine w_getiE (v := h 4 j 1) dX1_copyFrom_28 fl_X1_15 rfl hj (by simp only [fwUp, fwUc]; simp) ?_
      refine w_puti dX1_copyFrom_31 fl_X1_15 fp_4_1 rfl hi ?_
      refine w_aload_n dX1_copyFrom_34 rfl ?_
      refine w_aload_n dX1_copyFrom_35 rfl ?_
      refine w_getiE (v := h 4 j 2) dX1_copyFrom_36 fl_X1_19 rfl hj (by simp only [fwUp, fwUc]; simp) ?_
      refine w_puti dX1_copyFrom_39 fl_X1_19 fp_4_2 rfl hi ?_
      refine w_aload_n dX1_copyFrom_42 rfl ?_
      refine w_aload_n dX1_copyFrom_43 rfl ?_
      refine w_getiE (v := h 4 j 3) dX1_copyFrom_44 fl_X1_22 rfl hj (by simp only [fwUp, fwUc]; simp) ?_
      refine w_puti dX1_copyFrom_47 fl_X1_22 fp_4_3 rfl hi ?_
      refine w_aload_n dX1_copyFrom_50 rfl ?_
      refine w_aload_n dX1_copyFrom_51 rfl ?_
      refine w_getiE (v := h 4 j 4) dX1_copyFrom_52 fl_X1_25 rfl hj (by simp only [fwUp, fwUc]; simp) ?_
      refine w_putz dX1_copyFrom_55 fl_X1_25 fp_4_4 rfl hz hi ?_
      refine w_heq (fwUc (fwUc h 17 i (h 17 j)) 4 i (h 4 j)) ?_ ?_
      · intro a b s hb hs hr
        simp only [fwUp, fwUc]
        by_cases e : a = 4 ∧ b = i
        · obtain ⟨rfl, rfl⟩ := e
          rcases (show s = 0 ∨ s = 1 ∨ s = 2 ∨ s = 3 ∨ s = 4 by have : s < 5 := hs; omega) with rfl | rfl | rfl | rfl | rfl
          · cases hr
          all_goals simp
        · by_cases e2 : a = 17 ∧ b = i
          · obtain ⟨rfl, rfl⟩ := e2
            have : s < 10 := hs
            simp [fwFl, this]
          · simp only [e, e2, if_false]
            repeat rw [if_neg (fun q => e ⟨q.1, q.2.1⟩)]
      · exact w_vret dX1_copyFrom_58 rfl k
    · refine w_aload_n dX1_copyFrom_8 rfl ?_
      refine w_getr 17 i dX1_copyFrom_9 fl_X1_9 rfl hi ?_
      refine w_iload_n dX1_copyFrom_12 rfl ?_
      refine w_aload_n dX1_copyFrom_13 rfl ?_
      refine w_getr 17 j dX1_copyFrom_14 fl_X1_9 rfl hj ?_
      refine w_iload_n dX1_copyFrom_17 rfl ?_
      refine w_ialdE (v := h 17 j c) dX1_copyFrom_18 rfl hj (by omega) (by omega) (by rw [fwUc_ne (fun q => hij q.2.symm)]; rfl) ?_
      refine w_iast dX1_copyFrom_19 rfl hi (by omega) (by omega) ?_
      refine w_iinc [some (aR 4 i), some (aR 4 j), some (aI ((c : Int) + 1))] dX1_copyFrom_20 rfl rfl (by decide) ?_
      refine w_goto 2 dX1_copyFrom_23 (by decide) ?_
      refine ih2 (by omega) _ _ ?_ ?_
      · exact (by omega)
      · exact (by rw [fwUp_uc, Int.toNat_natCast, fwFl_succ])
  refine lp2 0 (Nat.zero_le _) _ _ ?_ ?_
  · exact (by omega)
  · exact (by rw [fwFl_0, fwUc_self])
set_option maxRecDepth 100000 in
set_option maxHeartbeats 4000000 in
theorem c_X1_addCell {d : Nat} {h : fwH} {Q : Option fwV → fwH → Prop} (i : Nat) (x : Int) (hi : i < 6) (h0 : 0 ≤ h 4 i 1) (h1 : h 4 i 1 < 10) (k : Q none (fwUp (fwUp h 17 i (h 4 i 1).toNat x) 4 i 1 (h 4 i 1 + 1))) : fwCt mX1_addCell (d + 0) [aR 4 i, aI x] h Q := by
  refine fwCt_of [some (aR 4 i), some (aI x)] rfl rfl rfl ?_
  refine w_aload_n dX1_addCell_0 rfl ?_
  refine w_geti dX1_addCell_1 fl_X1_15 rfl hi ?_
  refine w_if_lt 39 dX1_addCell_4 (by decide) (by omega) (fun c4 => ?_) (fun c4 => ?_)
  · (exfalso; omega)
  · refine w_aload_n dX1_addCell_7 rfl ?_
    refine w_geti dX1_addCell_8 fl_X1_15 rfl hi ?_
    refine w_aload_n dX1_addCell_11 rfl ?_
    refine w_getr 17 i dX1_addCell_12 fl_X1_9 rfl hi ?_
    refine w_alen dX1_addCell_15 rfl (by decide) hi ?_
    refine w_icmp_ge 39 dX1_addCell_16 (by decide) (by omega) (by omega) (fun c16 => ?_) (fun c16 => ?_)
    · (exfalso; omega)
    · refine w_aload_n dX1_addCell_19 rfl ?_
      refine w_getr 17 i dX1_addCell_20 fl_X1_9 rfl hi ?_
      refine w_aload_n dX1_addCell_23 rfl ?_
      refine w_geti dX1_addCell_24 fl_X1_15 rfl hi ?_
      refine w_iload_n dX1_addCell_27 rfl ?_
      refine w_iast dX1_addCell_28 rfl hi (by omega) (by omega) ?_
      refine w_aload_n dX1_addCell_29 rfl ?_
      refine w_dup dX1_addCell_30 rfl ?_
      refine w_getiE (v := h 4 i 1) dX1_addCell_31 fl_X1_15 rfl hi rfl ?_
      refine w_iconst dX1_addCell_34 ?_
      refine w_iadd dX1_addCell_35 ?_
      refine w_puti dX1_addCell_36 fl_X1_15 fp_4_1 rfl hi ?_
      exact w_vret dX1_addCell_39 rfl k

/-! FootLower$Ground: what its methods answer, in words of n (cells) and H (heights) -/
def gOk (h : fwH) (i : Nat) : Prop := (0 ≤ h 4 i 1 ∧ h 4 i 1 ≤ 10) ∧ (0 ≤ h 4 i 2 ∧ h 4 i 2 ≤ 40) ∧ (0 ≤ h 4 i 3 ∧ h 4 i 3 ≤ 40) ∧ (h 4 i 4 = 0 ∨ h 4 i 4 = 1) ∧ ∀ c : Nat, c < 10 → 0 ≤ h 17 i c ∧ h 17 i c ≤ 1000
def hOf (n : Int) (H : Nat → Int) (c : Int) : Int := if 0 ≤ c ∧ c < n then H c.toNat else 0
def mTop (H : Nat → Int) (ls : Int) : Nat → Int
  | 0 => -1
  | c + 1 => if mTop H ls c = -1 ∨ H (mTop H ls c).toNat < H c ∨ (H (mTop H ls c).toNat = H c ∧ ls ≠ 0) then (c : Int) else mTop H ls c
def mMax (H : Nat → Int) : Nat → Int
  | 0 => 0
  | c + 1 => if mMax H c < H c then H c else mMax H c
theorem mTop_rng (H : Nat → Int) (ls : Int) : ∀ c, -1 ≤ mTop H ls c ∧ mTop H ls c < c ∧ (0 < c → 0 ≤ mTop H ls c) := by
  intro c
  induction c with
  | zero => simp [mTop]
  | succ c ih =>
    unfold mTop
    split
    · omega
    · rename_i hc
      have : mTop H ls c ≠ -1 := fun e => hc (Or.inl e)
      omega
theorem mMax_rng {H : Nat → Int} {b : Int} (hb : 0 ≤ b) : ∀ c, (∀ j, j < c → 0 ≤ H j ∧ H j ≤ b) → 0 ≤ mMax H c ∧ mMax H c ≤ b := by
  intro c
  induction c with
  | zero => intro _; simp [mMax]; omega
  | succ c ih =>
    intro hj
    have h1 := ih (fun j hj2 => hj j (by omega))
    have h2 := hj c (by omega)
    unfold mMax
    split <;> omega
set_option maxRecDepth 100000 in
set_option maxHeartbeats 4000000 in
theorem c_X1_has {d : Nat} {h : fwH} {Q : Option fwV → fwH → Prop} (i : Nat) (x : Int) (hi : i < 6) (hG : gOk h i) (hx : -2147483648 ≤ x ∧ x < 2147483648) (k : Q (some (aI (fwB (0 ≤ x ∧ x < h 4 i 1)))) h) : fwCt mX1_has (d + 0) [aR 4 i, aI x] h Q := by
  refine fwCt_of [some (aR 4 i), some (aI x)] rfl rfl rfl ?_
  obtain ⟨⟨g1, g2⟩, ⟨g3, g4⟩, ⟨g5, g6⟩, g7, g8⟩ := id hG
  refine w_iload_n dX1_has_0 rfl ?_
  refine w_if_lt 25 dX1_has_1 (by decide) (by omega) (fun c1 => ?_) (fun c1 => ?_)
  · refine w_iconst dX1_has_25 ?_
    exact w_zretE dX1_has_26 rfl (by first | omega | (rw [fwB_t (by omega)]) | (rw [fwB_f (by omega)])) k
  · refine w_iload_n dX1_has_4 rfl ?_
    refine w_aload_n dX1_has_5 rfl ?_
    refine w_geti dX1_has_6 fl_X1_15 rfl hi ?_
    refine w_icmp_ge 25 dX1_has_9 (by decide) (by omega) (by omega) (fun c9 => ?_) (fun c9 => ?_)
    · refine w_iconst dX1_has_25 ?_
      exact w_zretE dX1_has_26 rfl (by first | omega | (rw [fwB_t (by omega)]) | (rw [fwB_f (by omega)])) k
    · refine w_iload_n dX1_has_12 rfl ?_
      refine w_aload_n dX1_has_13 rfl ?_
      refine w_getr 17 i dX1_has_14 fl_X1_9 rfl hi ?_
      refine w_alen dX1_has_17 rfl (by decide) hi ?_
      refine w_icmp_ge 25 dX1_has_18 (by decide) (by omega) (by omega) (fun c18 => ?_) (fun c18 => ?_)
      · refine w_iconst dX1_has_25 ?_
        exact w_zretE dX1_has_26 rfl (by first | omega | (rw [fwB_t (by omega)]) | (rw [fwB_f (by omega)])) k
      · refine w_iconst dX1_has_21 ?_
        refine w_goto 26 dX1_has_22 (by decide) ?_
        exact w_zretE dX1_has_26 rfl (by first | omega | (rw [fwB_t (by omega)]) | (rw [fwB_f (by omega)])) k
set_option maxRecDepth 100000 in
set_option maxHeartbeats 4000000 in
theorem c_X1_heightOf {d : Nat} {h : fwH} {Q : Option fwV → fwH → Prop} (i : Nat) (x : Int) (hi : i < 6) (hG : gOk h i) (hx : -2147483648 ≤ x ∧ x < 2147483648) (k : Q (some (aI (hOf (h 4 i 1) (h 17 i) x))) h) : fwCt mX1_heightOf (d + 0) [aR 4 i, aI x] h Q := by
  refine fwCt_of [some (aR 4 i), some (aI x)] rfl rfl rfl ?_
  obtain ⟨⟨g1, g2⟩, ⟨g3, g4⟩, ⟨g5, g6⟩, g7, g8⟩ := id hG
  refine w_iload_n dX1_heightOf_0 rfl ?_
  refine w_if_lt 30 dX1_heightOf_1 (by decide) (by omega) (fun c1 => ?_) (fun c1 => ?_)
  · refine w_iconst dX1_heightOf_30 ?_
    exact w_iretE dX1_heightOf_31 rfl (by first | omega | (unfold hOf; first | rw [if_pos (by omega)] | rw [if_neg (by omega)])) k
  · refine w_iload_n dX1_heightOf_4 rfl ?_
    refine w_aload_n dX1_heightOf_5 rfl ?_
    refine w_geti dX1_heightOf_6 fl_X1_15 rfl hi ?_
    refine w_icmp_ge 30 dX1_heightOf_9 (by decide) (by omega) (by omega) (fun c9 => ?_) (fun c9 => ?_)
    · refine w_iconst dX1_heightOf_30 ?_
      exact w_iretE dX1_heightOf_31 rfl (by first | omega | (unfold hOf; first | rw [if_pos (by omega)] | rw [if_neg (by omega)])) k
    · refine w_iload_n dX1_heightOf_12 rfl ?_
      refine w_aload_n dX1_heightOf_13 rfl ?_
      refine w_getr 17 i dX1_heightOf_14 fl_X1_9 rfl hi ?_
      refine w_alen dX1_heightOf_17 rfl (by decide) hi ?_
      refine w_icmp_ge 30 dX1_heightOf_18 (by decide) (by omega) (by omega) (fun c18 => ?_) (fun c18 => ?_)
      · refine w_iconst dX1_heightOf_30 ?_
        exact w_iretE dX1_heightOf_31 rfl (by first | omega | (unfold hOf; first | rw [if_pos (by omega)] | rw [if_neg (by omega)])) k
      · refine w_aload_n dX1_heightOf_21 rfl ?_
        refine w_getr 17 i dX1_heightOf_22 fl_X1_9 rfl hi ?_
        refine w_iload_n dX1_heightOf_25 rfl ?_
        refine w_iald dX1_heightOf_26 rfl hi (by omega) (by omega) ?_
        refine w_goto 31 dX1_heightOf_27 (by decide) ?_
        exact w_iretE dX1_heightOf_31 rfl (by first | omega | (unfold hOf; first | rw [if_pos (by omega)] | rw [if_neg (by omega)])) k
set_option maxRecDepth 100000 in
set_option maxHeartbeats 4000000 in
theorem c_X1_change {d : Nat} {h : fwH} {Q : Option fwV → fwH → Prop} (i : Nat) (x y : Int) (hi : i < 6) (hG : gOk h i) (hx : -2147483648 ≤ x ∧ x < 2147483648) (k : Q none (if 0 ≤ x ∧ x < h 4 i 1 then fwUp h 17 i x.toNat (h 17 i x.toNat + y) else h)) : fwCt mX1_change (d + 1) [aR 4 i, aI x, aI y] h Q := by
  refine fwCt_of [some (aR 4 i), some (aI x), some (aI y)] rfl rfl rfl ?_
  obtain ⟨⟨g1, g2⟩, ⟨g3, g4⟩, ⟨g5, g6⟩, g7, g8⟩ := id hG
  refine w_aload_n dX1_change_0 rfl ?_
  refine w_iload_n dX1_change_1 rfl ?_
  refine w_callV (d := d + 0) (S := []) [aI x] dX1_change_2 ml_X1_29 ok_X1_has vi_X1_has rfl rfl hi rfl (Nat.le_of_ble_eq_true rfl) ?_
  refine c_X1_has (d := d) i x hi (by first | assumption | omega | decide) (by first | assumption | omega | decide) ?_
  show fwWP mX1_change (d + 1) 5 [some (aR 4 i), some (aI x), some (aI y)] [aI (fwB (0 ≤ x ∧ x < h 4 i 1))] h Q
  refine w_ifB_eq 18 dX1_change_5 (by decide) (fun c5 => ?_) (fun c5 => ?_)
  · exact w_vret dX1_change_18 rfl (by first | (rw [if_pos (by assumption)] at k; exact k) | (rw [if_neg (by assumption)] at k; exact k))
  · refine w_aload_n dX1_change_8 rfl ?_
    refine w_getr 17 i dX1_change_9 fl_X1_9 rfl hi ?_
    refine w_iload_n dX1_change_12 rfl ?_
    refine w_dup2 dX1_change_13 rfl rfl ?_
    refine w_iald dX1_change_14 rfl hi (by omega) (by omega) ?_
    refine w_iload_n dX1_change_15 rfl ?_
    refine w_iadd dX1_change_16 ?_
    refine w_iast dX1_change_17 rfl hi (by omega) (by omega) ?_
    exact w_vret dX1_change_18 rfl (by first | (rw [if_pos (by assumption)] at k; exact k) | (rw [if_neg (by assumption)] at k; exact k))
theorem hOf_in {n : Int} {H : Nat → Int} {c : Nat} (hc : (c : Int) < n) : hOf n H c = H c := by
  unfold hOf
  rw [if_pos (by omega)]
  rfl
theorem hOf_rng {n : Int} {H : Nat → Int} {b : Int} (hb : 0 ≤ b) (hn : n ≤ 10) (hH : ∀ c : Nat, c < 10 → 0 ≤ H c ∧ H c ≤ b) (x : Int) : 0 ≤ hOf n H x ∧ hOf n H x ≤ b := by
  unfold hOf
  split
  · exact hH _ (by omega)
  · omega
theorem c_X1_heightOfE {d : Nat} {h : fwH} {Q : Option fwV → fwH → Prop} (i : Nat) (x v : Int) (hi : i < 6) (hG : gOk h i) (hx : -2147483648 ≤ x ∧ x < 2147483648) (hv : hOf (h 4 i 1) (h 17 i) x = v) (k : Q (some (aI v)) h) : fwCt mX1_heightOf d [aR 4 i, aI x] h Q := by
  subst hv
  exact c_X1_heightOf i x hi hG hx k
set_option maxRecDepth 100000 in
set_option maxHeartbeats 4000000 in
theorem c_X1_topCell {d : Nat} {h : fwH} {Q : Option fwV → fwH → Prop} (i : Nat) (hi : i < 6) (hG : gOk h i) (k : Q (some (aI (mTop (h 17 i) (h 4 i 4) (h 4 i 1).toNat))) h) : fwCt mX1_topCell (d + 1) [aR 4 i] h Q := by
  refine fwCt_of [some (aR 4 i), none, none, none] rfl rfl rfl ?_
  obtain ⟨⟨g1, g2⟩, ⟨g3, g4⟩, ⟨g5, g6⟩, g7, g8⟩ := id hG
  refine w_iconst dX1_topCell_0 ?_
  refine w_istore_n [some (aR 4 i), some (aI (-1)), none, none] dX1_topCell_1 rfl (by decide) ?_
  refine w_iconst dX1_topCell_2 ?_
  refine w_istore_n [some (aR 4 i), some (aI (-1)), some (aI 0), none] dX1_topCell_3 rfl (by decide) ?_
  have lp4 : ∀ c : Nat, c ≤ (h 4 i 1).toNat → ∀ (y4 fo : Int), y4 = (c : Int) → fo = mTop (h 17 i) (h 4 i 4) c → fwWP mX1_topCell (d + 1) 4 [some (aR 4 i), some (aI fo), some (aI y4), none] [] h Q := by
    refine fw_up (fun c hc4 ih4 => ?_)
    intro y4 fo ey4 e_fo
    subst ey4
    subst e_fo
    have ht := mTop_rng (h 17 i) (h 4 i 4) c
    have hf : mTop (h 17 i) (h 4 i 4) c = -1 ∨ hOf (h 4 i 1) (h 17 i) (mTop (h 17 i) (h 4 i 4) c) = h 17 i (mTop (h 17 i) (h 4 i 4) c).toNat := by unfold hOf; split <;> first | exact Or.inr rfl | omega
    show fwWP mX1_topCell (d + 1) 4 [some (aR 4 i), some (aI (mTop (h 17 i) (h 4 i 4) c)), some (aI (c : Int)), none] [] h Q
    refine w_iload_n dX1_topCell_4 rfl ?_
    refine w_aload_n dX1_topCell_5 rfl ?_
    refine w_geti dX1_topCell_6 fl_X1_15 rfl hi ?_
    refine w_icmp_ge 52 dX1_topCell_9 (by decide) (by omega) (by omega) (fun c9 => ?_) (fun c9 => ?_)
    · have ec4 : c = (h 4 i 1).toNat := by omega
      subst ec4
      refine w_iload_n dX1_topCell_52 rfl ?_
      exact w_iretE dX1_topCell_53 rfl (by rfl) k
    · refine w_aload_n dX1_topCell_12 rfl ?_
      refine w_iload_n dX1_topCell_13 rfl ?_
      refine w_callV (d := d + 0) (S := []) [aI (c : Int)] dX1_topCell_14 ml_X1_33 ok_X1_heightOf vi_X1_heightOf rfl rfl hi rfl (Nat.le_of_ble_eq_true rfl) ?_
      refine c_X1_heightOfE (d := d) i (c : Int) (h 17 i c) hi (by first | assumption | omega | decide) (by first | assumption | omega | decide) (hOf_in (by omega)) ?_
      show fwWP mX1_topCell (d + 1) 17 [some (aR 4 i), some (aI (mTop (h 17 i) (h 4 i 4) c)), some (aI (c : Int)), none] [aI (h 17 i c)] h Q
      have hc1 := g8 c (by omega)
      refine w_aload_n dX1_topCell_17 rfl ?_
      refine w_iload_n dX1_topCell_18 rfl ?_
      refine w_callV (d := d + 0) (S := [aI (h 17 i c)]) [aI (mTop (h 17 i) (h 4 i 4) c)] dX1_topCell_19 ml_X1_33 ok_X1_heightOf vi_X1_heightOf rfl rfl hi rfl (Nat.le_of_ble_eq_true rfl) ?_
      refine c_X1_heightOf (d := d) i (mTop (h 17 i) (h 4 i 4) c) hi (by first | assumption | omega | decide) (by first | assumption | omega | decide) ?_
      show fwWP mX1_topCell (d + 1) 22 [some (aR 4 i), some (aI (mTop (h 17 i) (h 4 i 4) c)), some (aI (c : Int)), none] [aI (hOf (h 4 i 1) (h 17 i) (mTop (h 17 i) (h 4 i 4) c)), aI (h 17 i c)] h Q
      have hb2 := hOf_rng (n := h 4 i 1) (H := h 17 i) (b := 1000) (by omega) (by omega) (by assumption) (mTop (h 17 i) (h 4 i 4) c)
      refine w_isub dX1_topCell_22 ?_
      refine w_istore_n [some (aR 4 i), some (aI (mTop (h 17 i) (h 4 i 4) c)), some (aI (c : Int)), some (aI ((h 17 i c) - (hOf (h 4 i 1) (h 17 i) (mTop (h 17 i) (h 4 i 4) c))))] dX1_topCell_23 rfl (by decide) ?_
      refine w_iload_n dX1_topCell_24 rfl ?_
      refine w_iconst dX1_topCell_25 ?_
      refine w_icmp_eq 44 dX1_topCell_26 (by decide) (by omega) (by omega) (fun c26 => ?_) (fun c26 => ?_)
      · refine w_iload_n dX1_topCell_44 rfl ?_
        refine w_istore_n [some (aR 4 i), some (aI (c : Int)), some (aI (c : Int)), some (aI ((h 17 i c) - (hOf (h 4 i 1) (h 17 i) (mTop (h 17 i) (h 4 i 4) c))))] dX1_topCell_45 rfl (by decide) ?_
        refine w_iinc [some (aR 4 i), some (aI (c : Int)), some (aI ((c : Int) + 1)), some (aI ((h 17 i c) - (hOf (h 4 i 1) (h 17 i) (mTop (h 17 i) (h 4 i 4) c))))] dX1_topCell_46 rfl rfl (by decide) ?_
        refine w_goto 4 dX1_topCell_49 (by decide) ?_
        refine w_drop [3] [some (aR 4 i), some (aI (c : Int)), some (aI ((c : Int) + 1)), none] rfl ?_
        refine ih4 (by omega) _ _ ?_ ?_
        · exact (by omega)
        · exact (by rw [mTop]; first | rw [if_pos (by omega)] | rw [if_neg (by omega)])
      · refine w_iload_n dX1_topCell_29 rfl ?_
        refine w_if_gt 44 dX1_topCell_30 (by decide) (by omega) (fun c30 => ?_) (fun c30 => ?_)
        · refine w_iload_n dX1_topCell_44 rfl ?_
          refine w_istore_n [some (aR 4 i), some (aI (c : Int)), some (aI (c : Int)), some (aI ((h 17 i c) - (hOf (h 4 i 1) (h 17 i) (mTop (h 17 i) (h 4 i 4) c))))] dX1_topCell_45 rfl (by decide) ?_
          refine w_iinc [some (aR 4 i), some (aI (c : Int)), some (aI ((c : Int) + 1)), some (aI ((h 17 i c) - (hOf (h 4 i 1) (h 17 i) (mTop (h 17 i) (h 4 i 4) c))))] dX1_topCell_46 rfl rfl (by decide) ?_
          refine w_goto 4 dX1_topCell_49 (by decide) ?_
          refine w_drop [3] [some (aR 4 i), some (aI (c : Int)), some (aI ((c : Int) + 1)), none] rfl ?_
          refine ih4 (by omega) _ _ ?_ ?_
          · exact (by omega)
          · exact (by rw [mTop]; first | rw [if_pos (by omega)] | rw [if_neg (by omega)])
        · refine w_iload_n dX1_topCell_33 rfl ?_
          refine w_if_ne 46 dX1_topCell_34 (by decide) (by omega) (fun c34 => ?_) (fun c34 => ?_)
          · refine w_iinc [some (aR 4 i), some (aI (mTop (h 17 i) (h 4 i 4) c)), some (aI ((c : Int) + 1)), some (aI ((h 17 i c) - (hOf (h 4 i 1) (h 17 i) (mTop (h 17 i) (h 4 i 4) c))))] dX1_topCell_46 rfl rfl (by decide) ?_
            refine w_goto 4 dX1_topCell_49 (by decide) ?_
            refine w_drop [3] [some (aR 4 i), some (aI (mTop (h 17 i) (h 4 i 4) c)), some (aI ((c : Int) + 1)), none] rfl ?_
            refine ih4 (by omega) _ _ ?_ ?_
            · exact (by omega)
            · exact (by rw [mTop]; first | rw [if_pos (by omega)] | rw [if_neg (by omega)])
          · refine w_aload_n dX1_topCell_37 rfl ?_
            refine w_geti dX1_topCell_38 fl_X1_25 rfl hi ?_
            refine w_if_eq 46 dX1_topCell_41 (by decide) (by omega) (fun c41 => ?_) (fun c41 => ?_)
            · refine w_iinc [some (aR 4 i), some (aI (mTop (h 17 i) (h 4 i 4) c)), some (aI ((c : Int) + 1)), some (aI ((h 17 i c) - (hOf (h 4 i 1) (h 17 i) (mTop (h 17 i) (h 4 i 4) c))))] dX1_topCell_46 rfl rfl (by decide) ?_
              refine w_goto 4 dX1_topCell_49 (by decide) ?_
              refine w_drop [3] [some (aR 4 i), some (aI (mTop (h 17 i) (h 4 i 4) c)), some (aI ((c : Int) + 1)), none] rfl ?_
              refine ih4 (by omega) _ _ ?_ ?_
              · exact (by omega)
              · exact (by rw [mTop]; first | rw [if_pos (by omega)] | rw [if_neg (by omega)])
            · refine w_iload_n dX1_topCell_44 rfl ?_
              refine w_istore_n [some (aR 4 i), some (aI (c : Int)), some (aI (c : Int)), some (aI ((h 17 i c) - (hOf (h 4 i 1) (h 17 i) (mTop (h 17 i) (h 4 i 4) c))))] dX1_topCell_45 rfl (by decide) ?_
              refine w_iinc [some (aR 4 i), some (aI (c : Int)), some (aI ((c : Int) + 1)), some (aI ((h 17 i c) - (hOf (h 4 i 1) (h 17 i) (mTop (h 17 i) (h 4 i 4) c))))] dX1_topCell_46 rfl rfl (by decide) ?_
              refine w_goto 4 dX1_topCell_49 (by decide) ?_
              refine w_drop [3] [some (aR 4 i), some (aI (c : Int)), some (aI ((c : Int) + 1)), none] rfl ?_
              refine ih4 (by omega) _ _ ?_ ?_
              · exact (by omega)
              · exact (by rw [mTop]; first | rw [if_pos (by omega)] | rw [if_neg (by omega)])
  refine lp4 0 (Nat.zero_le _) _ _ ?_ ?_
  · exact (by omega)
  · exact rfl
set_option maxRecDepth 100000 in
set_option maxHeartbeats 4000000 in
theorem c_X1_topHeight {d : Nat} {h : fwH} {Q : Option fwV → fwH → Prop} (i : Nat) (hi : i < 6) (hG : gOk h i) (k : Q (some (aI (mMax (h 17 i) (h 4 i 1).toNat))) h) : fwCt mX1_topHeight (d + 1) [aR 4 i] h Q := by
  refine fwCt_of [some (aR 4 i), none, none, none] rfl rfl rfl ?_
  obtain ⟨⟨g1, g2⟩, ⟨g3, g4⟩, ⟨g5, g6⟩, g7, g8⟩ := id hG
  refine w_iconst dX1_topHeight_0 ?_
  refine w_istore_n [some (aR 4 i), some (aI 0), none, none] dX1_topHeight_1 rfl (by decide) ?_
  refine w_iconst dX1_topHeight_2 ?_
  refine w_istore_n [some (aR 4 i), some (aI 0), some (aI 0), none] dX1_topHeight_3 rfl (by decide) ?_
  have lp4 : ∀ c : Nat, c ≤ (h 4 i 1).toNat → ∀ (y4 to : Int), y4 = (c : Int) → to = mMax (h 17 i) c → fwWP mX1_topHeight (d + 1) 4 [some (aR 4 i), some (aI to), some (aI y4), none] [] h Q := by
    refine fw_up (fun c hc4 ih4 => ?_)
    intro y4 to ey4 e_to
    subst ey4
    subst e_to
    have ht := mMax_rng (H := h 17 i) (b := 1000) (by omega) c (fun j hj => g8 j (by omega))
    show fwWP mX1_topHeight (d + 1) 4 [some (aR 4 i), some (aI (mMax (h 17 i) c)), some (aI (c : Int)), none] [] h Q
    refine w_iload_n dX1_topHeight_4 rfl ?_
    refine w_aload_n dX1_topHeight_5 rfl ?_
    refine w_geti dX1_topHeight_6 fl_X1_15 rfl hi ?_
    refine w_icmp_ge 31 dX1_topHeight_9 (by decide) (by omega) (by omega) (fun c9 => ?_) (fun c9 => ?_)
    · have ec4 : c = (h 4 i 1).toNat := by omega
      subst ec4
      refine w_iload_n dX1_topHeight_31 rfl ?_
      exact w_iretE dX1_topHeight_32 rfl (by rfl) k
    · refine w_aload_n dX1_topHeight_12 rfl ?_
      refine w_iload_n dX1_topHeight_13 rfl ?_
      refine w_callV (d := d + 0) (S := []) [aI (c : Int)] dX1_topHeight_14 ml_X1_33 ok_X1_heightOf vi_X1_heightOf rfl rfl hi rfl (Nat.le_of_ble_eq_true rfl) ?_
      refine c_X1_heightOfE (d := d) i (c : Int) (h 17 i c) hi (by first | assumption | omega | decide) (by first | assumption | omega | decide) (hOf_in (by omega)) ?_
      show fwWP mX1_topHeight (d + 1) 17 [some (aR 4 i), some (aI (mMax (h 17 i) c)), some (aI (c : Int)), none] [aI (h 17 i c)] h Q
      have hc1 := g8 c (by omega)
      refine w_istore_n [some (aR 4 i), some (aI (mMax (h 17 i) c)), some (aI (c : Int)), some (aI (h 17 i c))] dX1_topHeight_17 rfl (by decide) ?_
      refine w_iload_n dX1_topHeight_18 rfl ?_
      refine w_iload_n dX1_topHeight_19 rfl ?_
      refine w_icmp_le 25 dX1_topHeight_20 (by decide) (by omega) (by omega) (fun c20 => ?_) (fun c20 => ?_)
      · refine w_iinc [some (aR 4 i), some (aI (mMax (h 17 i) c)), some (aI ((c : Int) + 1)), some (aI (h 17 i c))] dX1_topHeight_25 rfl rfl (by decide) ?_
        refine w_goto 4 dX1_topHeight_28 (by decide) ?_
        refine w_drop [3] [some (aR 4 i), some (aI (mMax (h 17 i) c)), some (aI ((c : Int) + 1)), none] rfl ?_
        refine ih4 (by omega) _ _ ?_ ?_
        · exact (by omega)
        · exact (by rw [mMax]; first | rw [if_pos (by omega)] | rw [if_neg (by omega)])
      · refine w_iload_n dX1_topHeight_23 rfl ?_
        refine w_istore_n [some (aR 4 i), some (aI (h 17 i c)), some (aI (c : Int)), some (aI (h 17 i c))] dX1_topHeight_24 rfl (by decide) ?_
        refine w_iinc [some (aR 4 i), some (aI (h 17 i c)), some (aI ((c : Int) + 1)), some (aI (h 17 i c))] dX1_topHeight_25 rfl rfl (by decide) ?_
        refine w_goto 4 dX1_topHeight_28 (by decide) ?_
        refine w_drop [3] [some (aR 4 i), some (aI (h 17 i c)), some (aI ((c : Int) + 1)), none] rfl ?_
        refine ih4 (by omega) _ _ ?_ ?_
        · exact (by omega)
        · exact (by rw [mMax]; first | rw [if_pos (by omega)] | rw [if_neg (by omega)])
  refine lp4 0 (Nat.zero_le _) _ _ ?_ ?_
  · exact (by omega)
  · exact rfl
def mSum (H : Nat → Int) : Nat → Int
  | 0 => 0
  | c + 1 => mSum H c + H c
set_option maxRecDepth 100000 in
set_option maxHeartbeats 4000000 in
theorem c_X1_feetInAll {d : Nat} {h : fwH} {Q : Option fwV → fwH → Prop} (i : Nat) (hi : i < 6) (hG : gOk h i) (k : Q (some (aI (mSum (h 17 i) (h 4 i 1).toNat))) h) : fwCt mX1_feetInAll (d + 1) [aR 4 i] h Q := by
  refine fwCt_of [some (aR 4 i), none, none] rfl rfl rfl ?_
  obtain ⟨⟨g1, g2⟩, ⟨g3, g4⟩, ⟨g5, g6⟩, g7, g8⟩ := id hG
  refine w_iconst dX1_feetInAll_0 ?_
  refine w_istore_n [some (aR 4 i), some (aI 0), none] dX1_feetInAll_1 rfl (by decide) ?_
  refine w_iconst dX1_feetInAll_2 ?_
  refine w_istore_n [some (aR 4 i), some (aI 0), some (aI 0)] dX1_feetInAll_3 rfl (by decide) ?_
  have lp4 : ∀ c : Nat, c ≤ (h 4 i 1).toNat → ∀ (y4 to : Int), y4 = (c : Int) → to = mSum (h 17 i) c → fwWP mX1_feetInAll (d + 1) 4 [some (aR 4 i), some (aI to), some (aI y4)] [] h Q := by
    refine fw_up (fun c hc4 ih4 => ?_)
    intro y4 to ey4 e_to
    subst ey4
    subst e_to
    show fwWP mX1_feetInAll (d + 1) 4 [some (aR 4 i), some (aI (mSum (h 17 i) c)), some (aI (c : Int))] [] h Q
    refine w_iload_n dX1_feetInAll_4 rfl ?_
    refine w_aload_n dX1_feetInAll_5 rfl ?_
    refine w_geti dX1_feetInAll_6 fl_X1_15 rfl hi ?_
    refine w_icmp_ge 26 dX1_feetInAll_9 (by decide) (by omega) (by omega) (fun c9 => ?_) (fun c9 => ?_)
    · have ec4 : c = (h 4 i 1).toNat := by omega
      subst ec4
      refine w_iload_n dX1_feetInAll_26 rfl ?_
      exact w_iretE dX1_feetInAll_27 rfl (by rfl) k
    · refine w_iload_n dX1_feetInAll_12 rfl ?_
      refine w_aload_n dX1_feetInAll_13 rfl ?_
      refine w_iload_n dX1_feetInAll_14 rfl ?_
      refine w_callV (d := d + 0) (S := [aI (mSum (h 17 i) c)]) [aI (c : Int)] dX1_feetInAll_15 ml_X1_33 ok_X1_heightOf vi_X1_heightOf rfl rfl hi rfl (Nat.le_of_ble_eq_true rfl) ?_
      refine c_X1_heightOfE (d := d) i (c : Int) (h 17 i c) hi (by first | assumption | omega | decide) (by first | assumption | omega | decide) (hOf_in (by omega)) ?_
      show fwWP mX1_feetInAll (d + 1) 18 [some (aR 4 i), some (aI (mSum (h 17 i) c)), some (aI (c : Int))] [aI (h 17 i c), aI (mSum (h 17 i) c)] h Q
      have hc1 := g8 c (by omega)
      refine w_iadd dX1_feetInAll_18 ?_
      refine w_istore_n [some (aR 4 i), some (aI ((mSum (h 17 i) c) + (h 17 i c))), some (aI (c : Int))] dX1_feetInAll_19 rfl (by decide) ?_
      refine w_iinc [some (aR 4 i), some (aI ((mSum (h 17 i) c) + (h 17 i c))), some (aI ((c : Int) + 1))] dX1_feetInAll_20 rfl rfl (by decide) ?_
      refine w_goto 4 dX1_feetInAll_23 (by decide) ?_
      refine ih4 (by omega) _ _ ?_ ?_
      · exact (by omega)
      · exact rfl
  refine lp4 0 (Nat.zero_le _) _ _ ?_ ?_
  · exact (by omega)
  · exact rfl
def mBits (p : Nat → Bool) : Nat → Int
  | 0 => 0
  | c + 1 => if p c = true then fwOr (mBits p c) (fwShl 1 c) else mBits p c
set_option maxRecDepth 100000 in
set_option maxHeartbeats 4000000 in
theorem c_X1_snowyCells {d : Nat} {h : fwH} {Q : Option fwV → fwH → Prop} (i : Nat) (hi : i < 6) (hG : gOk h i) (k : Q (some (aI (mBits (fun c => decide (h 4 i 2 ≤ h 17 i c)) (h 4 i 1).toNat))) h) : fwCt mX1_snowyCells (d + 1) [aR 4 i] h Q := by
  refine fwCt_of [some (aR 4 i), none, none] rfl rfl rfl ?_
  obtain ⟨⟨g1, g2⟩, ⟨g3, g4⟩, ⟨g5, g6⟩, g7, g8⟩ := id hG
  refine w_iconst dX1_snowyCells_0 ?_
  refine w_istore_n [some (aR 4 i), some (aI 0), none] dX1_snowyCells_1 rfl (by decide) ?_
  refine w_iconst dX1_snowyCells_2 ?_
  refine w_istore_n [some (aR 4 i), some (aI 0), some (aI 0)] dX1_snowyCells_3 rfl (by decide) ?_
  have lp4 : ∀ c : Nat, c ≤ (h 4 i 1).toNat → ∀ (y4 bi : Int), y4 = (c : Int) → bi = mBits (fun c => decide (h 4 i 2 ≤ h 17 i c)) c → fwWP mX1_snowyCells (d + 1) 4 [some (aR 4 i), some (aI bi), some (aI y4)] [] h Q := by
    refine fw_up (fun c hc4 ih4 => ?_)
    intro y4 bi ey4 e_bi
    subst ey4
    subst e_bi
    show fwWP mX1_snowyCells (d + 1) 4 [some (aR 4 i), some (aI (mBits (fun c => decide (h 4 i 2 ≤ h 17 i c)) c)), some (aI (c : Int))] [] h Q
    refine w_iload_n dX1_snowyCells_4 rfl ?_
    refine w_aload_n dX1_snowyCells_5 rfl ?_
    refine w_geti dX1_snowyCells_6 fl_X1_15 rfl hi ?_
    refine w_icmp_ge 36 dX1_snowyCells_9 (by decide) (by omega) (by omega) (fun c9 => ?_) (fun c9 => ?_)
    · have ec4 : c = (h 4 i 1).toNat := by omega
      subst ec4
      refine w_iload_n dX1_snowyCells_36 rfl ?_
      exact w_iretE dX1_snowyCells_37 rfl (by rfl) k
    · refine w_aload_n dX1_snowyCells_12 rfl ?_
      refine w_iload_n dX1_snowyCells_13 rfl ?_
      refine w_callV (d := d + 0) (S := []) [aI (c : Int)] dX1_snowyCells_14 ml_X1_33 ok_X1_heightOf vi_X1_heightOf rfl rfl hi rfl (Nat.le_of_ble_eq_true rfl) ?_
      refine c_X1_heightOfE (d := d) i (c : Int) (h 17 i c) hi (by first | assumption | omega | decide) (by first | assumption | omega | decide) (hOf_in (by omega)) ?_
      show fwWP mX1_snowyCells (d + 1) 17 [some (aR 4 i), some (aI (mBits (fun c => decide (h 4 i 2 ≤ h 17 i c)) c)), some (aI (c : Int))] [aI (h 17 i c)] h Q
      have hc1 := g8 c (by omega)
      refine w_aload_n dX1_snowyCells_17 rfl ?_
      refine w_geti dX1_snowyCells_18 fl_X1_19 rfl hi ?_
      refine w_icmp_lt 30 dX1_snowyCells_21 (by decide) (by omega) (by omega) (fun c21 => ?_) (fun c21 => ?_)
      · refine w_iinc [some (aR 4 i), some (aI (mBits (fun c => decide (h 4 i 2 ≤ h 17 i c)) c)), some (aI ((c : Int) + 1))] dX1_snowyCells_30 rfl rfl (by decide) ?_
        refine w_goto 4 dX1_snowyCells_33 (by decide) ?_
        refine ih4 (by omega) _ _ ?_ ?_
        · exact (by omega)
        · exact (by rw [mBits]; first | rw [if_pos (by simp; omega)] | rw [if_neg (by simp; omega)])
      · refine w_iload_n dX1_snowyCells_24 rfl ?_
        refine w_iconst dX1_snowyCells_25 ?_
        refine w_iload_n dX1_snowyCells_26 rfl ?_
        refine w_ishl dX1_snowyCells_27 ?_
        refine w_ior dX1_snowyCells_28 ?_
        refine w_istore_n [some (aR 4 i), some (aI (fwOr (mBits (fun c => decide (h 4 i 2 ≤ h 17 i c)) c) (fwShl 1 (c : Int)))), some (aI (c : Int))] dX1_snowyCells_29 rfl (by decide) ?_
        refine w_iinc [some (aR 4 i), some (aI (fwOr (mBits (fun c => decide (h 4 i 2 ≤ h 17 i c)) c) (fwShl 1 (c : Int)))), some (aI ((c : Int) + 1))] dX1_snowyCells_30 rfl rfl (by decide) ?_
        refine w_goto 4 dX1_snowyCells_33 (by decide) ?_
        refine ih4 (by omega) _ _ ?_ ?_
        · exact (by omega)
        · exact (by rw [mBits]; first | rw [if_pos (by simp; omega)] | rw [if_neg (by simp; omega)])
  refine lp4 0 (Nat.zero_le _) _ _ ?_ ?_
  · exact (by omega)
  · exact rfl

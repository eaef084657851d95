section
set_option maxRecDepth 100000 in
set_option maxHeartbeats 4000000 in
theorem c_X12_steps {d : Nat} {h : fwH} {Q : Option fwV → fwH → Prop} (x a b : Int) (hx : -1000 ≤ x ∧ x ≤ 1000) (ha : -1000 ≤ a ∧ a ≤ 1000) (hb : -1000 ≤ b ∧ b ≤ 1000) (k : Q (some (aI (mSteps x a b))) h) : fwCt mX12_steps (d + 1) [aI x, aI a, aI b] h Q := by
  refine fwCt_of [some (aI x), some (aI a), some (aI b)] rfl rfl rfl ?_
  refine w_iload_n dX12_steps_0 rfl ?_
  refine w_iload_n dX12_steps_1 rfl ?_
  refine w_isub dX12_steps_2 ?_
  refine w_iload_n dX12_steps_3 rfl ?_
  refine w_iload_n dX12_steps_4 rfl ?_
  refine w_isub dX12_steps_5 ?_
  refine w_iload_n dX12_steps_6 rfl ?_
  refine w_iload_n dX12_steps_7 rfl ?_
  refine w_isub dX12_steps_8 ?_
  refine w_min (d := d + 0) (S := [aI (b - a)]) dX12_steps_9 ml_X12_112 (by omega) (by omega) (Nat.le_of_ble_eq_true rfl) ?_
  refine w_iadd dX12_steps_12 ?_
  exact w_iretE dX12_steps_13 rfl (by rfl) k
/-- names of WILLING FOLK whose CELL lies in one of two stretches -/
def nOn (F : Nat → Int) (wl l r u v : Int) : Nat → Int
  | 0 => 0
  | f + 1 => if fwAnd (fwShr wl (f : Int)) 1 = 1 ∧ ((l ≤ F (7 * f) ∧ F (7 * f) ≤ r) ∨ (u ≤ F (7 * f) ∧ F (7 * f) ≤ v)) then nOn F wl l r u v f + F (7 * f + 1) else nOn F wl l r u v f
theorem mAh_f {F : Nat → Int} {wl : Int} {k : Nat} (hF : 0 ≤ F (7 * k)) : ∀ c : Nat, mAh F wl (k + 1) c = mAh F wl k c + (if fwAnd (fwShr wl (k : Int)) 1 = 1 ∧ F (7 * k) < (c : Int) then F (7 * k + 1) else 0) := by
  intro c
  induction c with
  | zero => rw [mAh, mAh, if_neg (by omega)]; omega
  | succ c ih =>
    rw [mAh, mAh, ih, mHereF]
    by_cases q : fwAnd (fwShr wl (k : Int)) 1 = 1 ∧ F (7 * k) = (c : Int)
    · rw [if_pos q, if_neg (by omega), if_pos (by omega)]
      omega
    · rw [if_neg q]
      by_cases q2 : fwAnd (fwShr wl (k : Int)) 1 = 1 ∧ F (7 * k) < (c : Int)
      · rw [if_pos q2, if_pos (by omega)]; omega
      · rw [if_neg q2, if_neg (by omega)]; omega
theorem mWi_f {F : Nat → Int} {wl : Int} {k : Nat} (hF : 0 ≤ F (7 * k)) (x y : Int) : mWi (mAh F wl (k + 1)) x y = mWi (mAh F wl k) x y + (if (x ≤ y ∧ 0 ≤ x ∧ y < 10) ∧ fwAnd (fwShr wl (k : Int)) 1 = 1 ∧ x ≤ F (7 * k) ∧ F (7 * k) ≤ y then F (7 * k + 1) else 0) := by
  unfold mWi
  by_cases q : x ≤ y ∧ 0 ≤ x ∧ y < 10
  · rw [if_pos q, if_pos q, mAh_f hF, mAh_f hF]
    have h1 : ((y + 1).toNat : Int) = y + 1 := by omega
    have h2 : ((x.toNat : Nat) : Int) = x := by omega
    rw [h1, h2]
    by_cases b : fwAnd (fwShr wl (k : Int)) 1 = 1
    · by_cases z1 : F (7 * k) < x
      · rw [if_pos ⟨b, by omega⟩, if_pos ⟨b, z1⟩, if_neg (by omega)]; omega
      · by_cases z2 : F (7 * k) ≤ y
        · rw [if_pos ⟨b, by omega⟩, if_neg (by omega), if_pos ⟨q, b, by omega, z2⟩]; omega
        · rw [if_neg (by omega), if_neg (by omega), if_neg (by omega)]; omega
    · rw [if_neg (fun z => b z.1), if_neg (fun z => b z.1), if_neg (fun z => b z.2.1)]; omega
  · rw [if_neg q, if_neg q, if_neg (fun z => q z.1)]; omega
theorem mAh_0 (F : Nat → Int) (wl : Int) : ∀ c : Nat, mAh F wl 0 c = 0 := by
  intro c
  induction c with
  | zero => rfl
  | succ c ih => rw [mAh, ih, mHereF]; omega
theorem nOn_both {F : Nat → Int} {wl l r u v : Int} (h1 : 0 ≤ l ∧ l ≤ r ∧ r < 10) (h2 : 0 ≤ u ∧ u ≤ v ∧ v < 10) : ∀ n : Nat, n ≤ 8 → (∀ f : Nat, f < 8 → 0 ≤ F (7 * f)) → nOn F wl l r u v n = mBoth (mAh F wl n) l r u v := by
  intro n
  induction n with
  | zero =>
    intro _ _
    have z : ∀ x y : Int, mWi (mAh F wl 0) x y = 0 := by
      intro x y
      unfold mWi
      split
      · rw [mAh_0, mAh_0]; omega
      · rfl
    unfold mBoth
    rw [nOn, z, z, z]
    omega
  | succ n ih =>
    intro hn hF
    have e := ih (by omega) hF
    have hf := hF n (by omega)
    unfold mBoth at e ⊢
    rw [nOn, mWi_f hf, mWi_f hf, mWi_f hf, e]
    by_cases b : fwAnd (fwShr wl (n : Int)) 1 = 1
    · by_cases z1 : l ≤ F (7 * n) ∧ F (7 * n) ≤ r
      · by_cases z2 : u ≤ F (7 * n) ∧ F (7 * n) ≤ v
        · rw [if_pos ⟨b, Or.inl z1⟩, if_pos ⟨by omega, b, z1⟩, if_pos ⟨by omega, b, z2⟩, if_pos ⟨by omega, b, by omega⟩]; omega
        · rw [if_pos ⟨b, Or.inl z1⟩, if_pos ⟨by omega, b, z1⟩, if_neg (fun z => z2 z.2.2), if_neg (fun z => z2 (by omega))]; omega
      · by_cases z2 : u ≤ F (7 * n) ∧ F (7 * n) ≤ v
        · rw [if_pos ⟨b, Or.inr z2⟩, if_neg (fun z => z1 z.2.2), if_pos ⟨by omega, b, z2⟩, if_neg (fun z => z1 (by omega))]; omega
        · rw [if_neg (fun z => z.2.elim z1 z2), if_neg (fun z => z1 z.2.2), if_neg (fun z => z2 z.2.2), if_neg (fun z => z1 (by omega))]; omega
    · rw [if_neg (fun z => b z.1), if_neg (fun z => b z.2.1), if_neg (fun z => b z.2.1), if_neg (fun z => b z.2.1)]; omega
theorem nOn_one {F : Nat → Int} {wl l r : Int} (h1 : 0 ≤ l ∧ l ≤ r ∧ r < 10) {n : Nat} (hn : n ≤ 8) (hF : ∀ f : Nat, f < 8 → 0 ≤ F (7 * f)) : nOn F wl l r l r n = mWi (mAh F wl n) l r := by
  rw [nOn_both h1 h1 n hn hF]
  unfold mBoth
  rw [Int.max_self, Int.min_self]
  omega
theorem nOn_r {F : Nat → Int} {wl l r u v : Int} : ∀ n : Nat, n ≤ 8 → (∀ f : Nat, f < 8 → 0 ≤ F (7 * f + 1) ∧ F (7 * f + 1) ≤ 99) → 0 ≤ nOn F wl l r u v n ∧ nOn F wl l r u v n ≤ 99 * n := by
  intro n
  induction n with
  | zero => intro _ _; rw [nOn]; omega
  | succ n ih =>
    intro hn hF
    have h1 := ih (by omega) hF
    have h2 := hF n (by omega)
    rw [nOn]
    split <;> omega
set_option maxRecDepth 100000 in
set_option maxHeartbeats 4000000 in
theorem c_X12_namesOn {d : Nat} {h gg : fwH} {Q : Option fwV → fwH → Prop} (wl l r u v : Int) (J : cOk gg) (R : jF gg h) (hl1 : -1000 ≤ l ∧ l ≤ 1000) (hr1 : -1000 ≤ r ∧ r ≤ 1000) (hu1 : -1000 ≤ u ∧ u ≤ 1000) (hv1 : -1000 ≤ v ∧ v ≤ 1000) (k : Q (some (aI (nOn (gg 18 0) wl l r u v (gg 5 0 3).toNat))) h) : fwCt mX12_namesOn (d + 1) [aR 12 0, aI wl, aI l, aI r, aI u, aI v] h Q := by
  refine fwCt_of [some (aR 12 0), some (aI wl), some (aI l), some (aI r), some (aI u), some (aI v), none, none] rfl rfl rfl ?_
  obtain ⟨hl, hP, hG, -, -, -, hlw, -, ha, hs, -, hsc⟩ := id J
  obtain ⟨⟨g1, g2⟩, ⟨g3, g4⟩, ⟨g5, g6⟩, g7, -⟩ := id hG
  have hpz := hP.1
  refine w_iconst dX12_namesOn_0 ?_
  refine w_istore [some (aR 12 0), some (aI wl), some (aI l), some (aI r), some (aI u), some (aI v), some (aI 0), none] dX12_namesOn_1 rfl (by decide) ?_
  refine w_iconst dX12_namesOn_3 ?_
  refine w_istore [some (aR 12 0), some (aI wl), some (aI l), some (aI r), some (aI u), some (aI v), some (aI 0), some (aI 0)] dX12_namesOn_4 rfl (by decide) ?_
  have lp6 : ∀ c : Nat, c ≤ (gg 5 0 3).toNat → ∀ (y6 nv : Int), y6 = (c : Int) → nv = nOn (gg 18 0) wl l r u v c → fwWP mX12_namesOn (d + 1) 6 [some (aR 12 0), some (aI wl), some (aI l), some (aI r), some (aI u), some (aI v), some (aI nv), some (aI y6)] [] h Q := by
    refine fw_up (fun c hc6 ih6 => ?_)
    intro y6 nv ey6 e_nv
    subst ey6
    subst e_nv
    show fwWP mX12_namesOn (d + 1) 6 [some (aR 12 0), some (aI wl), some (aI l), some (aI r), some (aI u), some (aI v), some (aI (nOn (gg 18 0) wl l r u v c)), some (aI (c : Int))] [] h Q
    refine w_iload dX12_namesOn_6 rfl ?_
    refine w_aload_n dX12_namesOn_8 rfl ?_
    refine w_getr 36 0 dX12_namesOn_9 fl_X12_9 rfl (by decide) ?_
    refine w_bipush dX12_namesOn_12 rfl ?_
    refine w_ialdE (v := gg 5 0 3) dX12_namesOn_14 rfl (by decide) (by omega) (by omega) R.2.2.2.2.2.2.1 ?_
    refine w_icmp_ge 88 dX12_namesOn_15 (by decide) (by omega) (by omega) (fun c15 => ?_) (fun c15 => ?_)
    · have ec6 : (gg 5 0 3).toNat = c := by omega
      subst ec6
      refine w_iload dX12_namesOn_88 rfl ?_
      exact w_iretE dX12_namesOn_90 rfl (by rfl) k
    · have hnr := nOn_r (F := gg 18 0) (wl := wl) (l := l) (r := r) (u := u) (v := v) c (by omega) (fun f hf => (hP.2 f hf).2.1)
      refine w_iload dX12_namesOn_18 rfl ?_
      refine w_iload_n dX12_namesOn_20 rfl ?_
      refine w_iload dX12_namesOn_21 rfl ?_
      refine w_callS (d := d + 0) (S := [aI (nOn (gg 18 0) wl l r u v c)]) [aI wl, aI (c : Int)] dX12_namesOn_23 ml_X12_257 ok_X12_bit st_X12_bit rfl (Nat.le_of_ble_eq_true rfl) ?_
      refine c_X12_bit (d := d) wl (c : Int) ?_
      show fwWP mX12_namesOn (d + 1) 26 [some (aR 12 0), some (aI wl), some (aI l), some (aI r), some (aI u), some (aI v), some (aI (nOn (gg 18 0) wl l r u v c)), some (aI (c : Int))] [aI (fwAnd (fwShr wl (c : Int)) 1), aI (nOn (gg 18 0) wl l r u v c)] h Q
      have hbt2 := bit_01 wl (c : Int)
      refine w_iconst dX12_namesOn_26 ?_
      refine w_icmp_ne 78 dX12_namesOn_27 (by decide) (by omega) (by omega) (fun c27 => ?_) (fun c27 => ?_)
      · refine w_iconst dX12_namesOn_78 ?_
        refine w_iadd dX12_namesOn_79 ?_
        refine w_istore [some (aR 12 0), some (aI wl), some (aI l), some (aI r), some (aI u), some (aI v), some (aI ((nOn (gg 18 0) wl l r u v c) + 0)), some (aI (c : Int))] dX12_namesOn_80 rfl (by decide) ?_
        refine w_iinc [some (aR 12 0), some (aI wl), some (aI l), some (aI r), some (aI u), some (aI v), some (aI ((nOn (gg 18 0) wl l r u v c) + 0)), some (aI ((c : Int) + 1))] dX12_namesOn_82 rfl rfl (by decide) ?_
        refine w_goto 6 dX12_namesOn_85 (by decide) ?_
        refine ih6 (by omega) _ _ ?_ ?_
        · exact (by omega)
        · exact (by rw [nOn, if_neg (fun z => c27 z.1)]; omega)
      · have e00 : gg 18 0 (7 * c + 0) = gg 18 0 (7 * c) := rfl
        refine w_aload_n dX12_namesOn_30 rfl ?_
        refine w_iload dX12_namesOn_31 rfl ?_
        refine w_iconst dX12_namesOn_33 ?_
        refine w_callV (d := d + 0) (S := [aI (nOn (gg 18 0) wl l r u v c)]) [aI (c : Int), aI 0] dX12_namesOn_34 ml_X12_220 ok_X12_of vi_X12_of rfl rfl (by decide) rfl (Nat.le_of_ble_eq_true rfl) ?_
        refine c_ofE (d := d) c 0 (c : Int) J R (by omega) (by omega) (by omega) ?_
        show fwWP mX12_namesOn (d + 1) 37 [some (aR 12 0), some (aI wl), some (aI l), some (aI r), some (aI u), some (aI v), some (aI (nOn (gg 18 0) wl l r u v c)), some (aI (c : Int))] [aI (gg 18 0 (7 * c + 0)), aI (nOn (gg 18 0) wl l r u v c)] h Q
        have hof4 := hP.2 c (by omega)
        refine w_i2l dX12_namesOn_37 (by omega) ?_
        refine w_iload_n dX12_namesOn_38 rfl ?_
        refine w_i2l dX12_namesOn_39 (by omega) ?_
        refine w_iload_n dX12_namesOn_40 rfl ?_
        refine w_i2l dX12_namesOn_41 (by omega) ?_
        refine w_callS (d := d + 0) (S := [aI (nOn (gg 18 0) wl l r u v c)]) [aJ (gg 18 0 (7 * c + 0)), aJ l, aJ r] dX12_namesOn_42 ml_X12_65 ok_X12_in st_X12_in rfl (Nat.le_of_ble_eq_true rfl) ?_
        refine c_X12_in (d := d) (gg 18 0 (7 * c + 0)) l r (by omega) (by omega) (by omega) ?_
        show fwWP mX12_namesOn (d + 1) 45 [some (aR 12 0), some (aI wl), some (aI l), some (aI r), some (aI u), some (aI v), some (aI (nOn (gg 18 0) wl l r u v c)), some (aI (c : Int))] [aI (fwB (l ≤ (gg 18 0 (7 * c + 0)) ∧ (gg 18 0 (7 * c + 0)) ≤ r)), aI (nOn (gg 18 0) wl l r u v c)] h Q
        refine w_ifB_ne 68 dX12_namesOn_45 (by decide) (fun c45 => ?_) (fun c45 => ?_)
        · refine w_aload_n dX12_namesOn_68 rfl ?_
          refine w_iload dX12_namesOn_69 rfl ?_
          refine w_iconst dX12_namesOn_71 ?_
          refine w_callV (d := d + 0) (S := [aI (nOn (gg 18 0) wl l r u v c)]) [aI (c : Int), aI 1] dX12_namesOn_72 ml_X12_220 ok_X12_of vi_X12_of rfl rfl (by decide) rfl (Nat.le_of_ble_eq_true rfl) ?_
          refine c_ofE (d := d) c 1 (c : Int) J R (by omega) (by omega) (by omega) ?_
          show fwWP mX12_namesOn (d + 1) 75 [some (aR 12 0), some (aI wl), some (aI l), some (aI r), some (aI u), some (aI v), some (aI (nOn (gg 18 0) wl l r u v c)), some (aI (c : Int))] [aI (gg 18 0 (7 * c + 1)), aI (nOn (gg 18 0) wl l r u v c)] h Q
          have hof6 := hP.2 c (by omega)
          refine w_goto 79 dX12_namesOn_75 (by decide) ?_
          refine w_iadd dX12_namesOn_79 ?_
          refine w_istore [some (aR 12 0), some (aI wl), some (aI l), some (aI r), some (aI u), some (aI v), some (aI ((nOn (gg 18 0) wl l r u v c) + (gg 18 0 (7 * c + 1)))), some (aI (c : Int))] dX12_namesOn_80 rfl (by decide) ?_
          refine w_iinc [some (aR 12 0), some (aI wl), some (aI l), some (aI r), some (aI u), some (aI v), some (aI ((nOn (gg 18 0) wl l r u v c) + (gg 18 0 (7 * c + 1)))), some (aI ((c : Int) + 1))] dX12_namesOn_82 rfl rfl (by decide) ?_
          refine w_goto 6 dX12_namesOn_85 (by decide) ?_
          refine ih6 (by omega) _ _ ?_ ?_
          · exact (by omega)
          · exact (by rw [nOn, if_pos ⟨c27, Or.inl c45⟩])
        · refine w_aload_n dX12_namesOn_48 rfl ?_
          refine w_iload dX12_namesOn_49 rfl ?_
          refine w_iconst dX12_namesOn_51 ?_
          refine w_callV (d := d + 0) (S := [aI (nOn (gg 18 0) wl l r u v c)]) [aI (c : Int), aI 0] dX12_namesOn_52 ml_X12_220 ok_X12_of vi_X12_of rfl rfl (by decide) rfl (Nat.le_of_ble_eq_true rfl) ?_
          refine c_ofE (d := d) c 0 (c : Int) J R (by omega) (by omega) (by omega) ?_
          show fwWP mX12_namesOn (d + 1) 55 [some (aR 12 0), some (aI wl), some (aI l), some (aI r), some (aI u), some (aI v), some (aI (nOn (gg 18 0) wl l r u v c)), some (aI (c : Int))] [aI (gg 18 0 (7 * c + 0)), aI (nOn (gg 18 0) wl l r u v c)] h Q
          have hof7 := hP.2 c (by omega)
          refine w_i2l dX12_namesOn_55 (by omega) ?_
          refine w_iload dX12_namesOn_56 rfl ?_
          refine w_i2l dX12_namesOn_58 (by omega) ?_
          refine w_iload dX12_namesOn_59 rfl ?_
          refine w_i2l dX12_namesOn_61 (by omega) ?_
          refine w_callS (d := d + 0) (S := [aI (nOn (gg 18 0) wl l r u v c)]) [aJ (gg 18 0 (7 * c + 0)), aJ u, aJ v] dX12_namesOn_62 ml_X12_65 ok_X12_in st_X12_in rfl (Nat.le_of_ble_eq_true rfl) ?_
          refine c_X12_in (d := d) (gg 18 0 (7 * c + 0)) u v (by omega) (by omega) (by omega) ?_
          show fwWP mX12_namesOn (d + 1) 65 [some (aR 12 0), some (aI wl), some (aI l), some (aI r), some (aI u), some (aI v), some (aI (nOn (gg 18 0) wl l r u v c)), some (aI (c : Int))] [aI (fwB (u ≤ (gg 18 0 (7 * c + 0)) ∧ (gg 18 0 (7 * c + 0)) ≤ v)), aI (nOn (gg 18 0) wl l r u v c)] h Q
          refine w_ifB_eq 78 dX12_namesOn_65 (by decide) (fun c65 => ?_) (fun c65 => ?_)
          · refine w_iconst dX12_namesOn_78 ?_
            refine w_iadd dX12_namesOn_79 ?_
            refine w_istore [some (aR 12 0), some (aI wl), some (aI l), some (aI r), some (aI u), some (aI v), some (aI ((nOn (gg 18 0) wl l r u v c) + 0)), some (aI (c : Int))] dX12_namesOn_80 rfl (by decide) ?_
            refine w_iinc [some (aR 12 0), some (aI wl), some (aI l), some (aI r), some (aI u), some (aI v), some (aI ((nOn (gg 18 0) wl l r u v c) + 0)), some (aI ((c : Int) + 1))] dX12_namesOn_82 rfl rfl (by decide) ?_
            refine w_goto 6 dX12_namesOn_85 (by decide) ?_
            refine ih6 (by omega) _ _ ?_ ?_
            · exact (by omega)
            · exact (by rw [nOn, if_neg (fun z => z.2.elim c45 c65)]; omega)
          · refine w_aload_n dX12_namesOn_68 rfl ?_
            refine w_iload dX12_namesOn_69 rfl ?_
            refine w_iconst dX12_namesOn_71 ?_
            refine w_callV (d := d + 0) (S := [aI (nOn (gg 18 0) wl l r u v c)]) [aI (c : Int), aI 1] dX12_namesOn_72 ml_X12_220 ok_X12_of vi_X12_of rfl rfl (by decide) rfl (Nat.le_of_ble_eq_true rfl) ?_
            refine c_ofE (d := d) c 1 (c : Int) J R (by omega) (by omega) (by omega) ?_
            show fwWP mX12_namesOn (d + 1) 75 [some (aR 12 0), some (aI wl), some (aI l), some (aI r), some (aI u), some (aI v), some (aI (nOn (gg 18 0) wl l r u v c)), some (aI (c : Int))] [aI (gg 18 0 (7 * c + 1)), aI (nOn (gg 18 0) wl l r u v c)] h Q
            have hof9 := hP.2 c (by omega)
            refine w_goto 79 dX12_namesOn_75 (by decide) ?_
            refine w_iadd dX12_namesOn_79 ?_
            refine w_istore [some (aR 12 0), some (aI wl), some (aI l), some (aI r), some (aI u), some (aI v), some (aI ((nOn (gg 18 0) wl l r u v c) + (gg 18 0 (7 * c + 1)))), some (aI (c : Int))] dX12_namesOn_80 rfl (by decide) ?_
            refine w_iinc [some (aR 12 0), some (aI wl), some (aI l), some (aI r), some (aI u), some (aI v), some (aI ((nOn (gg 18 0) wl l r u v c) + (gg 18 0 (7 * c + 1)))), some (aI ((c : Int) + 1))] dX12_namesOn_82 rfl rfl (by decide) ?_
            refine w_goto 6 dX12_namesOn_85 (by decide) ?_
            refine ih6 (by omega) _ _ ?_ ?_
            · exact (by omega)
            · exact (by rw [nOn, if_pos ⟨c27, Or.inr c65⟩])
  refine lp6 0 (Nat.zero_le _) _ _ ?_ ?_
  · exact (by omega)
  · exact rfl
set_option maxRecDepth 100000 in
set_option maxHeartbeats 4000000 in
theorem c_X12_isRound {d : Nat} {h gg : fwH} {Q : Option fwV → fwH → Prop} (x : Int) (y : Int) (J : cOk gg) (R : jF gg h) (hx : -2147483648 ≤ x ∧ x < 2147483648) (hy : -2147483648 ≤ y ∧ y < 2147483648) (k : Q (some (aI (fwB ((0 ≤ x ∧ x ≤ gg 4 0 1 - 1) ∧ 1 ≤ y ∧ y ≤ 800)))) h) : fwCt mX12_isRound (d + 2) [aR 12 0, aI x, aI y] h Q := by
  refine fwCt_of [some (aR 12 0), some (aI x), some (aI y)] rfl rfl rfl ?_
  obtain ⟨hl, hP, hG, -, -, -, hlw, -, ha, hs, -, hsc⟩ := id J
  obtain ⟨⟨g1, g2⟩, ⟨g3, g4⟩, ⟨g5, g6⟩, g7, -⟩ := id hG
  have hpz := hP.1
  refine w_aload_n dX12_isRound_0 rfl ?_
  refine w_iload_n dX12_isRound_1 rfl ?_
  refine w_i2l dX12_isRound_2 (by omega) ?_
  refine w_callV (d := d + 1) (S := []) [aJ x] dX12_isRound_3 ml_X12_203 ok_X12_isCell vi_X12_isCell rfl rfl (by decide) rfl (Nat.le_of_ble_eq_true rfl) ?_
  refine c_X12_isCell (d := d) x J R (by omega) ?_
  show fwWP mX12_isRound (d + 2) 6 [some (aR 12 0), some (aI x), some (aI y)] [aI (fwB (0 ≤ x ∧ x ≤ gg 4 0 1 - 1))] h Q
  refine w_ifB_eq 25 dX12_isRound_6 (by decide) (fun c6 => ?_) (fun c6 => ?_)
  · refine w_iconst dX12_isRound_25 ?_
    exact w_zretE dX12_isRound_26 rfl (by first | (exfalso; omega) | (rw [fwB_t (by omega)]) | (rw [fwB_f (by omega)]) | rfl) k
  · refine w_iload_n dX12_isRound_9 rfl ?_
    refine w_i2l dX12_isRound_10 (by omega) ?_
    refine w_lconst (z := 1) dX12_isRound_11 rfl ?_
    refine w_ldc2 (n := 800) dX12_isRound_12 cs_X12_309 ?_
    refine w_callS (d := d + 1) (S := []) [aJ y, aJ 1, aJ 800] dX12_isRound_15 ml_X12_65 ok_X12_in st_X12_in rfl (Nat.le_of_ble_eq_true rfl) ?_
    refine c_X12_in (d := (d + 1)) y 1 800 (by omega) (by omega) (by omega) ?_
    show fwWP mX12_isRound (d + 2) 18 [some (aR 12 0), some (aI x), some (aI y)] [aI (fwB (1 ≤ y ∧ y ≤ 800))] h Q
    refine w_ifB_eq 25 dX12_isRound_18 (by decide) (fun c18 => ?_) (fun c18 => ?_)
    · refine w_iconst dX12_isRound_25 ?_
      exact w_zretE dX12_isRound_26 rfl (by first | (exfalso; omega) | (rw [fwB_t (by omega)]) | (rw [fwB_f (by omega)]) | rfl) k
    · refine w_iconst dX12_isRound_21 ?_
      refine w_goto 26 dX12_isRound_22 (by decide) ?_
      exact w_zretE dX12_isRound_26 rfl (by first | (exfalso; omega) | (rw [fwB_t (by omega)]) | (rw [fwB_f (by omega)]) | rfl) k
end
section
theorem fwFu_kk (H : Nat → Int) (t : Nat) (k : Int) : fwFu (fwFu H t (H t + k)) t (fwFu H t (H t + k) t - k) = H := by
  funext s
  unfold fwFu
  split
  · rename_i e; subst e; rw [if_pos rfl]; omega
  · rfl
theorem mOH_hb {h : fwH} (J : cOk h) {k : Nat} (hk : k ≤ 50) : hB (mOH h k) := fun c hc => by
  have := mOH_rng (fun c hc => by have := J.2.2.2.1 c hc; omega) hk J.2.2.1.1.2 c hc
  omega
set_option maxRecDepth 100000 in
set_option maxHeartbeats 4000000 in
theorem c_X12_wasDark {d : Nat} {h gg : fwH} {Q : Option fwV → fwH → Prop} (p : Nat) (x y : Int) (J : cOk gg) (R : jF gg h) (hH : hiR (gg 4 0 1) (h 42 0) (gg 17 0)) (hp : p ≤ 50) (hx : 0 ≤ x ∧ x < gg 4 0 1) (hy : y ≠ 0 ∧ -9 ≤ y ∧ y ≤ 9) (k : ∀ A, hiR (gg 4 0 1) A (gg 17 0) → Q (some (aI (fwB (mShadeB (gg 4 0 1) (mOH gg p) x y = true)))) (fwUc h 42 0 A)) : fwCt mX12_wasDark (d + 3) [aR 12 0, aI (p : Int), aI x, aI y] h Q := by
  refine fwCt_of [some (aR 12 0), some (aI (p : Int)), some (aI x), some (aI y), none, none] rfl rfl rfl ?_
  obtain ⟨hl, hP, hG, -, -, -, hlw, -, ha, hs, -, hsc⟩ := id J
  obtain ⟨⟨g1, g2⟩, ⟨g3, g4⟩, ⟨g5, g6⟩, g7, -⟩ := id hG
  have hpz := hP.1
  have hb17 : hB (gg 17 0) := fun c hc => by have := J.2.2.2.1 c hc; omega
  refine w_aload_n dX12_wasDark_0 rfl ?_
  refine w_callV (d := d + 2) (S := []) [] dX12_wasDark_1 ml_X12_200 ok_X12_topCell vi_X12_topCell rfl rfl (by decide) rfl (Nat.le_of_ble_eq_true rfl) ?_
  refine c_X12_topCell (d := (d + 2)) (gg 17 0) J R hH hb17 (show 1 ≤ gg 4 0 1 by omega) ?_
  show fwWP mX12_wasDark (d + 3) 4 [some (aR 12 0), some (aI (p : Int)), some (aI x), some (aI y), none, none] [aI (mTop (gg 17 0) (gg 4 0 4) (gg 4 0 1).toNat)] h Q
  have htp1 := mTop_r2 (gg 17 0) (gg 4 0 4) (gg 4 0 1).toNat (by omega)
  refine w_istore [some (aR 12 0), some (aI (p : Int)), some (aI x), some (aI y), some (aI (mTop (gg 17 0) (gg 4 0 4) (gg 4 0 1).toNat)), none] dX12_wasDark_4 rfl (by decide) ?_
  refine w_aload_n dX12_wasDark_6 rfl ?_
  refine w_getr 42 0 dX12_wasDark_7 fl_X12_34 rfl (by decide) ?_
  refine w_iload dX12_wasDark_10 rfl ?_
  refine w_dup2 dX12_wasDark_12 rfl rfl ?_
  refine w_ialdE (v := (gg 17 0) (mTop (gg 17 0) (gg 4 0 4) (gg 4 0 1).toNat).toNat) dX12_wasDark_13 rfl (by decide) (by omega) (by omega) (hH _ (by omega)) ?_
  refine w_iload_n dX12_wasDark_14 rfl ?_
  refine w_iadd dX12_wasDark_15 ?_
  refine w_iast dX12_wasDark_16 rfl (by decide) (by omega) (by omega) ?_
  rw [show (fwUp h 42 0 (mTop (gg 17 0) (gg 4 0 4) (gg 4 0 1).toNat).toNat (((gg 17 0) (mTop (gg 17 0) (gg 4 0 4) (gg 4 0 1).toNat).toNat) + (p : Int))) = (fwUc h 42 0 (fwFu (h 42 0) (mTop (gg 17 0) (gg 4 0 4) (gg 4 0 1).toNat).toNat (((gg 17 0) (mTop (gg 17 0) (gg 4 0 4) (gg 4 0 1).toNat).toNat) + (p : Int)))) from by rw [fwUp_fu]; try rfl]
  have hA16 : hiR (gg 4 0 1) _ (mOH gg p) := hiR_fu hH (mTop (gg 17 0) (gg 4 0 4) (gg 4 0 1).toNat).toNat (((gg 17 0) (mTop (gg 17 0) (gg 4 0 4) (gg 4 0 1).toNat).toNat) + (p : Int))
  have hb16 := mOH_hb J (k := p) (by omega)
  refine w_aload_n dX12_wasDark_17 rfl ?_
  refine w_iload_n dX12_wasDark_18 rfl ?_
  refine w_iload_n dX12_wasDark_19 rfl ?_
  refine w_callV (d := d + 2) (S := []) [aI x, aI y] dX12_wasDark_20 ml_X12_217 ok_X12_isDark vi_X12_isDark rfl rfl (by decide) rfl (Nat.le_of_ble_eq_true rfl) ?_
  refine c_X12_isDark (d := d) x y (mOH gg p) J R hA16 hb16 (show 0 ≤ x ∧ x < gg 4 0 1 by omega) (by omega) ?_
  show fwWP mX12_wasDark (d + 3) 23 [some (aR 12 0), some (aI (p : Int)), some (aI x), some (aI y), some (aI (mTop (gg 17 0) (gg 4 0 4) (gg 4 0 1).toNat)), none] [aI (fwB (mShadeB (gg 4 0 1) (mOH gg p) x y = true))] (fwUc h 42 0 (fwFu (h 42 0) (mTop (gg 17 0) (gg 4 0 4) (gg 4 0 1).toNat).toNat (((gg 17 0) (mTop (gg 17 0) (gg 4 0 4) (gg 4 0 1).toNat).toNat) + (p : Int)))) Q
  refine w_istore [some (aR 12 0), some (aI (p : Int)), some (aI x), some (aI y), some (aI (mTop (gg 17 0) (gg 4 0 4) (gg 4 0 1).toNat)), some (aI (fwB (mShadeB (gg 4 0 1) (mOH gg p) x y = true)))] dX12_wasDark_23 rfl (by decide) ?_
  refine w_aload_n dX12_wasDark_25 rfl ?_
  refine w_getr 42 0 dX12_wasDark_26 fl_X12_34 rfl (by decide) ?_
  refine w_iload dX12_wasDark_29 rfl ?_
  refine w_dup2 dX12_wasDark_31 rfl rfl ?_
  refine w_ialdE (v := (mOH gg p) (mTop (gg 17 0) (gg 4 0 4) (gg 4 0 1).toNat).toNat) dX12_wasDark_32 rfl (by decide) (by omega) (by omega) (hA16 _ (by omega)) ?_
  refine w_iload_n dX12_wasDark_33 rfl ?_
  refine w_isub dX12_wasDark_34 ?_
  refine w_iast dX12_wasDark_35 rfl (by decide) (by omega) (by omega) ?_
  rw [show (fwUp (fwUc h 42 0 (fwFu (h 42 0) (mTop (gg 17 0) (gg 4 0 4) (gg 4 0 1).toNat).toNat (((gg 17 0) (mTop (gg 17 0) (gg 4 0 4) (gg 4 0 1).toNat).toNat) + (p : Int)))) 42 0 (mTop (gg 17 0) (gg 4 0 4) (gg 4 0 1).toNat).toNat (((mOH gg p) (mTop (gg 17 0) (gg 4 0 4) (gg 4 0 1).toNat).toNat) - (p : Int))) = (fwUc h 42 0 (fwFu (fwFu (h 42 0) (mTop (gg 17 0) (gg 4 0 4) (gg 4 0 1).toNat).toNat (((gg 17 0) (mTop (gg 17 0) (gg 4 0 4) (gg 4 0 1).toNat).toNat) + (p : Int))) (mTop (gg 17 0) (gg 4 0 4) (gg 4 0 1).toNat).toNat (((mOH gg p) (mTop (gg 17 0) (gg 4 0 4) (gg 4 0 1).toNat).toNat) - (p : Int)))) from by rw [fwUp_fu]; rw [fwUc_uc]; rfl]
  have hA35 := hiR_fu hA16 (mTop (gg 17 0) (gg 4 0 4) (gg 4 0 1).toNat).toNat (((mOH gg p) (mTop (gg 17 0) (gg 4 0 4) (gg 4 0 1).toNat).toNat) - (p : Int))
  have e35 : fwFu (mOH gg p) (mTop (gg 17 0) (gg 4 0 4) (gg 4 0 1).toNat).toNat (((mOH gg p) (mTop (gg 17 0) (gg 4 0 4) (gg 4 0 1).toNat).toNat) - (p : Int)) = gg 17 0 := fwFu_kk (gg 17 0) (mTop (gg 17 0) (gg 4 0 4) (gg 4 0 1).toNat).toNat (p : Int)
  rw [e35] at hA35
  refine w_iload dX12_wasDark_36 rfl ?_
  exact w_zret dX12_wasDark_38 rfl (fwB_01 _) (k _ hA35)
set_option maxRecDepth 100000 in
set_option maxHeartbeats 4000000 in
theorem c_X12_asksOld {d : Nat} {h gg : fwH} {Q : Option fwV → fwH → Prop} (x : Int) (J : cOk gg) (R : jF gg h) (K : jA gg h) (S : jS gg h) (hx : -2147483648 ≤ x ∧ x < 2147483648) (k : (¬ mLd gg x → Q (some (aI (mLdR gg x))) h) ∧ (mLd gg x → ∀ A, hiR (gg 4 0 1) A (gg 17 0) → Q (some (aI 0)) (fwUc h 42 0 A))) : fwCt mX12_asksOld (d + 6) [aR 12 0, aI x] h Q := by
  refine fwCt_of [some (aR 12 0), some (aI x), none] rfl rfl rfl ?_
  obtain ⟨hl, hP, hG, hM0, htd, hut, hlw, hhc, ha, hs, hT, hsc⟩ := id J
  have hb17 : hB (gg 17 0) := fun c hc => by have := hM0 c hc; omega
  obtain ⟨⟨g1, g2⟩, ⟨g3, g4⟩, ⟨g5, g6⟩, g7, -⟩ := id hG
  have h17_99 : ∀ c : Nat, (c : Int) < gg 4 0 1 → gg 17 0 c ≤ 99 := fun c hc => (hM0 c (by omega)).2
  have hpz := hP.1
  have hrs1 := R.2.2.2.2.2.2.2.2.2.2.2
  refine w_iload_n dX12_asksOld_0 rfl ?_
  refine w_callS (d := d + 5) (S := []) [aI x] dX12_asksOld_1 ml_X12_357 ok_X12_isSlot st_X12_isSlot rfl (Nat.le_of_ble_eq_true rfl) ?_
  refine c_X12_isSlot (d := (d + 4)) x (by omega) ?_
  show fwWP mX12_asksOld (d + 6) 4 [some (aR 12 0), some (aI x), none] [aI (fwB (0 ≤ x ∧ x ≤ 3))] h Q
  refine w_ifB_eq 14 dX12_asksOld_4 (by decide) (fun c4 => ?_) (fun c4 => ?_)
  · refine w_bipush dX12_asksOld_14 rfl ?_
    exact w_iretE dX12_asksOld_16 rfl (by unfold mLdR; rw [if_neg (by omega)]) (k.1 (fun q0 => by have q1 := q0.1; have q2 := q0.2.1; omega))
  · refine w_aload_n dX12_asksOld_7 rfl ?_
    refine w_callV (d := d + 5) (S := []) [] dX12_asksOld_8 ml_X12_73 ok_X12_isMount vi_X12_isMount rfl rfl (by decide) rfl (Nat.le_of_ble_eq_true rfl) ?_
    refine c_X12_isMount (d := (d + 5)) J R ?_
    show fwWP mX12_asksOld (d + 6) 11 [some (aR 12 0), some (aI x), none] [aI (fwB (0 < gg 3 0 6))] h Q
    refine w_ifB_ne 17 dX12_asksOld_11 (by decide) (fun c11 => ?_) (fun c11 => ?_)
    · obtain ⟨s, rfl⟩ : ∃ s : Nat, x = (s : Int) := ⟨x.toNat, by omega⟩
      have hs35 := (hs s (by omega)).1
      refine w_aload_n dX12_asksOld_17 rfl ?_
      refine w_getr 46 0 dX12_asksOld_18 fl_X12_47 rfl (by decide) ?_
      refine w_iload_n dX12_asksOld_21 rfl ?_
      refine w_ialdE (v := gg 35 0 s) dX12_asksOld_22 rfl (by decide) (by omega) (by omega) (S s (by omega)).1 ?_
      refine w_iconst dX12_asksOld_23 ?_
      refine w_icmp_ne 30 dX12_asksOld_24 (by decide) (by omega) (by omega) (fun c24 => ?_) (fun c24 => ?_)
      · refine w_aload_n dX12_asksOld_30 rfl ?_
        refine w_getr 46 0 dX12_asksOld_31 fl_X12_47 rfl (by decide) ?_
        refine w_iload_n dX12_asksOld_34 rfl ?_
        refine w_ialdE (v := gg 35 0 s) dX12_asksOld_35 rfl (by decide) (by omega) (by omega) (S s (by omega)).1 ?_
        refine w_iconst dX12_asksOld_36 ?_
        have hrm : fwRem (gg 35 0 s) 3 = gg 35 0 s % 3 := fwRem_nn (by omega) (by omega)
        refine w_irem dX12_asksOld_37 (by omega) (by omega) ?_
        rw [hrm]
        refine w_if_eq 44 dX12_asksOld_38 (by decide) (by omega) (fun c38 => ?_) (fun c38 => ?_)
        · refine w_iconst dX12_asksOld_44 ?_
          refine w_istore_n [some (aR 12 0), some (aI (s : Int)), some (aI 0)] dX12_asksOld_45 rfl (by decide) ?_
          have lp46 : ∀ c : Nat, c ≤ (gg 35 0 s / 3).toNat → ∀ (y46  : Int), y46 = 3 * (c : Int) → (mAll (mSiP (gg 33 s) (gg 4 0 1)) c = true) → fwWP mX12_asksOld (d + 6) 46 [some (aR 12 0), some (aI (s : Int)), some (aI y46)] [] h Q := by
            refine fw_up (fun c hc46 ih46 => ?_)
            intro y46  ey46 iv46_0
            subst ey46
            show fwWP mX12_asksOld (d + 6) 46 [some (aR 12 0), some (aI (s : Int)), some (aI (3 * (c : Int)))] [] h Q
            refine w_iload_n dX12_asksOld_46 rfl ?_
            refine w_aload_n dX12_asksOld_47 rfl ?_
            refine w_getr 46 0 dX12_asksOld_48 fl_X12_47 rfl (by decide) ?_
            refine w_iload_n dX12_asksOld_51 rfl ?_
            refine w_ialdE (v := gg 35 0 s) dX12_asksOld_52 rfl (by decide) (by omega) (by omega) (S s (by omega)).1 ?_
            refine w_icmp_ge 108 dX12_asksOld_53 (by decide) (by omega) (by omega) (fun c53 => ?_) (fun c53 => ?_)
            · have ec46 : (gg 35 0 s / 3).toNat = c := by omega
              subst ec46
              refine w_aload_n dX12_asksOld_108 rfl ?_
              refine w_callV (d := d + 5) (S := []) [] dX12_asksOld_109 ml_X12_240 ok_X12_asItIs vi_X12_asItIs rfl rfl (by decide) rfl (Nat.le_of_ble_eq_true rfl) ?_
              refine c_X12_asItIs (d := d) J R K (show 1 ≤ gg 4 0 1 by omega) (show 1 ≤ gg 4 0 3 by omega) ?_
              intro A109_6 hA109_6
              show fwWP mX12_asksOld (d + 6) 112 [some (aR 12 0), some (aI (s : Int)), some (aI (3 * (((gg 35 0 s / 3).toNat : Nat) : Int)))] [] (fwUc h 42 0 A109_6) Q
              refine w_iconst dX12_asksOld_112 ?_
              exact w_iret dX12_asksOld_113 rfl (k.2 ⟨by omega, by omega, c24, by show gg 35 0 s % 3 = 0; omega, iv46_0⟩ _ hA109_6)
            · refine w_aload_n dX12_asksOld_56 rfl ?_
              refine w_aload_n dX12_asksOld_57 rfl ?_
              refine w_iload_n dX12_asksOld_58 rfl ?_
              refine w_iload_n dX12_asksOld_59 rfl ?_
              refine w_callV (d := d + 5) (S := [aR 12 0]) [aI (s : Int), aI (3 * (c : Int))] dX12_asksOld_60 ml_X12_360 ok_X12_numberAt vi_X12_numberAt rfl rfl (by decide) rfl (Nat.le_of_ble_eq_true rfl) ?_
              refine c_naE (d := (d + 5)) s (3 * c) (s : Int) (3 * (c : Int)) S (by omega) (by omega) (by omega) (by omega) ?_
              show fwWP mX12_asksOld (d + 6) 63 [some (aR 12 0), some (aI (s : Int)), some (aI (3 * (c : Int)))] [aJ (gg 33 s (3 * c)), aR 12 0] h Q
              have hl7 := (hs s (by omega)).2.2 (3 * c) (by omega)
              refine w_callV (d := d + 5) (S := []) [aJ (gg 33 s (3 * c))] dX12_asksOld_63 ml_X12_203 ok_X12_isCell vi_X12_isCell rfl rfl (by decide) rfl (Nat.le_of_ble_eq_true rfl) ?_
              refine c_X12_isCell (d := (d + 4)) (gg 33 s (3 * c)) J R (by omega) ?_
              show fwWP mX12_asksOld (d + 6) 66 [some (aR 12 0), some (aI (s : Int)), some (aI (3 * (c : Int)))] [aI (fwB (0 ≤ (gg 33 s (3 * c)) ∧ (gg 33 s (3 * c)) ≤ gg 4 0 1 - 1))] h Q
              refine w_ifB_eq 99 dX12_asksOld_66 (by decide) (fun c66 => ?_) (fun c66 => ?_)
              · refine w_bipush dX12_asksOld_99 rfl ?_
                exact w_iretE dX12_asksOld_101 rfl (by unfold mLdR; rw [if_neg (fun q0 => c24 q0.2.2)]) (k.1 (fun q0 => by have q9 : mAll (mSiP (gg 33 s) (gg 4 0 1)) (gg 35 0 s / 3).toNat = true := q0.2.2.2.2; have q1 := of_decide_eq_true ((mAll_iff _ _).mp q9 c (by omega)); omega))
              · refine w_aload_n dX12_asksOld_69 rfl ?_
                refine w_iload_n dX12_asksOld_70 rfl ?_
                refine w_iload_n dX12_asksOld_71 rfl ?_
                refine w_iconst dX12_asksOld_72 ?_
                refine w_iadd dX12_asksOld_73 ?_
                refine w_callV (d := d + 5) (S := []) [aI (s : Int), aI ((3 * (c : Int)) + 1)] dX12_asksOld_74 ml_X12_360 ok_X12_numberAt vi_X12_numberAt rfl rfl (by decide) rfl (Nat.le_of_ble_eq_true rfl) ?_
                refine c_naE (d := (d + 5)) s ((3 * c) + 1) (s : Int) ((3 * (c : Int)) + 1) S (by omega) (by omega) (by omega) (by omega) ?_
                show fwWP mX12_asksOld (d + 6) 77 [some (aR 12 0), some (aI (s : Int)), some (aI (3 * (c : Int)))] [aJ (gg 33 s ((3 * c) + 1))] h Q
                have hl9 := (hs s (by omega)).2.2 ((3 * c) + 1) (by omega)
                refine w_callS (d := d + 5) (S := []) [aJ (gg 33 s ((3 * c) + 1))] dX12_asksOld_77 ml_X12_243 ok_X12_isHour st_X12_isHour rfl (Nat.le_of_ble_eq_true rfl) ?_
                refine c_X12_isHour (d := (d + 4)) (gg 33 s ((3 * c) + 1)) (by omega) ?_
                show fwWP mX12_asksOld (d + 6) 80 [some (aR 12 0), some (aI (s : Int)), some (aI (3 * (c : Int)))] [aI (fwB ((gg 33 s ((3 * c) + 1)) ≠ 0 ∧ -9 ≤ (gg 33 s ((3 * c) + 1)) ∧ (gg 33 s ((3 * c) + 1)) ≤ 9))] h Q
                refine w_ifB_eq 99 dX12_asksOld_80 (by decide) (fun c80 => ?_) (fun c80 => ?_)
                · refine w_bipush dX12_asksOld_99 rfl ?_
                  exact w_iretE dX12_asksOld_101 rfl (by unfold mLdR; rw [if_neg (fun q0 => c24 q0.2.2)]) (k.1 (fun q0 => by have q9 : mAll (mSiP (gg 33 s) (gg 4 0 1)) (gg 35 0 s / 3).toNat = true := q0.2.2.2.2; have q1 := of_decide_eq_true ((mAll_iff _ _).mp q9 c (by omega)); omega))
                · refine w_aload_n dX12_asksOld_83 rfl ?_
                  refine w_iload_n dX12_asksOld_84 rfl ?_
                  refine w_iload_n dX12_asksOld_85 rfl ?_
                  refine w_iconst dX12_asksOld_86 ?_
                  refine w_iadd dX12_asksOld_87 ?_
                  refine w_callV (d := d + 5) (S := []) [aI (s : Int), aI ((3 * (c : Int)) + 2)] dX12_asksOld_88 ml_X12_360 ok_X12_numberAt vi_X12_numberAt rfl rfl (by decide) rfl (Nat.le_of_ble_eq_true rfl) ?_
                  refine c_naE (d := (d + 5)) s ((3 * c) + 2) (s : Int) ((3 * (c : Int)) + 2) S (by omega) (by omega) (by omega) (by omega) ?_
                  show fwWP mX12_asksOld (d + 6) 91 [some (aR 12 0), some (aI (s : Int)), some (aI (3 * (c : Int)))] [aJ (gg 33 s ((3 * c) + 2))] h Q
                  have hl11 := (hs s (by omega)).2.2 ((3 * c) + 2) (by omega)
                  refine w_lconst (z := 0) dX12_asksOld_91 rfl ?_
                  refine w_lconst (z := 1) dX12_asksOld_92 rfl ?_
                  refine w_callS (d := d + 5) (S := []) [aJ (gg 33 s ((3 * c) + 2)), aJ 0, aJ 1] dX12_asksOld_93 ml_X12_65 ok_X12_in st_X12_in rfl (Nat.le_of_ble_eq_true rfl) ?_
                  refine c_X12_in (d := (d + 5)) (gg 33 s ((3 * c) + 2)) 0 1 (by omega) (by omega) (by omega) ?_
                  show fwWP mX12_asksOld (d + 6) 96 [some (aR 12 0), some (aI (s : Int)), some (aI (3 * (c : Int)))] [aI (fwB (0 ≤ (gg 33 s ((3 * c) + 2)) ∧ (gg 33 s ((3 * c) + 2)) ≤ 1))] h Q
                  refine w_ifB_ne 102 dX12_asksOld_96 (by decide) (fun c96 => ?_) (fun c96 => ?_)
                  · refine w_iinc [some (aR 12 0), some (aI (s : Int)), some (aI ((3 * (c : Int)) + 3))] dX12_asksOld_102 rfl rfl (by decide) ?_
                    refine w_goto 46 dX12_asksOld_105 (by decide) ?_
                    refine ih46 (by omega) _ ?_ ?_
                    · exact (by omega)
                    · exact (by rw [mAll, iv46_0, Bool.true_and]; exact decide_eq_true (by omega))
                  · refine w_bipush dX12_asksOld_99 rfl ?_
                    exact w_iretE dX12_asksOld_101 rfl (by unfold mLdR; rw [if_neg (fun q0 => c24 q0.2.2)]) (k.1 (fun q0 => by have q9 : mAll (mSiP (gg 33 s) (gg 4 0 1)) (gg 35 0 s / 3).toNat = true := q0.2.2.2.2; have q1 := of_decide_eq_true ((mAll_iff _ _).mp q9 c (by omega)); omega))
          refine lp46 0 (Nat.zero_le _) _ ?_ ?_
          · exact (by omega)
          · exact rfl
        · refine w_bipush dX12_asksOld_41 rfl ?_
          exact w_iretE dX12_asksOld_43 rfl (by unfold mLdR; rw [if_neg (fun q0 => c24 q0.2.2)]) (k.1 (fun q0 => by have q1 : gg 35 0 s % 3 = 0 := q0.2.2.2.1; omega))
      · refine w_bipush dX12_asksOld_27 rfl ?_
        exact w_iretE dX12_asksOld_29 rfl (by unfold mLdR; rw [if_pos ⟨by omega, by omega, c24⟩]) (k.1 (fun q0 => q0.2.2.1 c24))
    · refine w_bipush dX12_asksOld_14 rfl ?_
      exact w_iretE dX12_asksOld_16 rfl (by unfold mLdR; rw [if_neg (by omega)]) (k.1 (fun q0 => by have q1 := q0.1; have q2 := q0.2.1; omega))
end
section
def fV (a b c p e : Int) (i : Nat) : Int := if i = 0 then a else if i = 1 then b else if i = 2 then c else if i = 3 then p else e
def fV8 (a b c p e : Int) (k : Nat) : Int := fwB8 (fwShr (fV a b c p e (k / 4)) (24 - 8 * ((k % 4 : Nat) : Int)))
def mF20 (B : Nat → Int) (s : Nat) (V : Nat → Int) : Nat → (Nat → Int)
  | 0 => B
  | k + 1 => fwFu (mF20 B s V k) (s + k) (V k)
set_option maxRecDepth 100000 in
theorem mF20_feed (B : Nat → Int) (s : Nat) (a b c p e : Int) : mF20 B s (fV8 a b c p e) 20 = mFeed B s a b c p e := by
  unfold mFeed
  simp only [mF20, mAdN]
  rfl
def fiv (g : Nat → Int) (a b c p e : Int) : Nat → Int := fwFu (fwFu (fwFu (fwFu (fwFu g 0 a) 1 b) 2 c) 3 p) 4 e
theorem fiv_at (g : Nat → Int) (a b c p e : Int) {i : Nat} (hi : i < 5) : fiv g a b c p e i = fV a b c p e i := by
  rcases (show i = 0 ∨ i = 1 ∨ i = 2 ∨ i = 3 ∨ i = 4 by omega) with rfl | rfl | rfl | rfl | rfl <;> rfl
set_option maxRecDepth 100000 in
set_option maxHeartbeats 4000000 in
theorem c_X12_feed {d : Nat} {h : fwH} {Q : Option fwV → fwH → Prop} (a b c0 p e : Int) (ht : 0 ≤ h 12 0 5 ∧ h 12 0 5 ≤ 900) (k : (h 12 0 5 ≤ 880 → Q (some (aI (h 12 0 5 + 20))) (fwUp (fwUc (fwUc h 40 0 (fiv (h 40 0) a b c0 p e)) 39 0 (mFeed (h 39 0) (h 12 0 5).toNat a b c0 p e)) 12 0 5 (h 12 0 5 + 20))) ∧ (¬ h 12 0 5 ≤ 880 → Q (some (aI (-1))) h)) : fwCt mX12_feed (d + 0) [aR 12 0, aI a, aI b, aI c0, aI p, aI e] h Q := by
  refine fwCt_of [some (aR 12 0), some (aI a), some (aI b), some (aI c0), some (aI p), some (aI e), none] rfl rfl rfl ?_
  refine w_aload_n dX12_feed_0 rfl ?_
  refine w_getiE (v := h 12 0 5) dX12_feed_1 fl_X12_81 rfl (by decide) rfl ?_
  refine w_bipush dX12_feed_4 rfl ?_
  refine w_iadd dX12_feed_6 ?_
  refine w_sipush dX12_feed_7 rfl ?_
  refine w_icmp_le 15 dX12_feed_10 (by decide) (by omega) (by omega) (fun c10 => ?_) (fun c10 => ?_)
  · refine w_aload_n dX12_feed_15 rfl ?_
    refine w_getr 40 0 dX12_feed_16 fl_X12_24 rfl (by decide) ?_
    refine w_iconst dX12_feed_19 ?_
    refine w_iload_n dX12_feed_20 rfl ?_
    refine w_iast dX12_feed_21 rfl (by decide) (by omega) (by omega) ?_
    refine w_aload_n dX12_feed_22 rfl ?_
    refine w_getr 40 0 dX12_feed_23 fl_X12_24 rfl (by decide) ?_
    refine w_iconst dX12_feed_26 ?_
    refine w_iload_n dX12_feed_27 rfl ?_
    refine w_iast dX12_feed_28 rfl (by decide) (by omega) (by omega) ?_
    refine w_aload_n dX12_feed_29 rfl ?_
    refine w_getr 40 0 dX12_feed_30 fl_X12_24 rfl (by decide) ?_
    refine w_iconst dX12_feed_33 ?_
    refine w_iload_n dX12_feed_34 rfl ?_
    refine w_iast dX12_feed_35 rfl (by decide) (by omega) (by omega) ?_
    refine w_aload_n dX12_feed_36 rfl ?_
    refine w_getr 40 0 dX12_feed_37 fl_X12_24 rfl (by decide) ?_
    refine w_iconst dX12_feed_40 ?_
    refine w_iload dX12_feed_41 rfl ?_
    refine w_iast dX12_feed_43 rfl (by decide) (by omega) (by omega) ?_
    refine w_aload_n dX12_feed_44 rfl ?_
    refine w_getr 40 0 dX12_feed_45 fl_X12_24 rfl (by decide) ?_
    refine w_iconst dX12_feed_48 ?_
    refine w_iload dX12_feed_49 rfl ?_
    refine w_iast dX12_feed_51 rfl (by decide) (by omega) (by omega) ?_
    rw [show (fwUp (fwUp (fwUp (fwUp (fwUp h 40 0 (Int.toNat 0) a) 40 0 (Int.toNat 1) b) 40 0 (Int.toNat 2) c0) 40 0 (Int.toNat 3) p) 40 0 (Int.toNat 4) e) = (fwUc h 40 0 (fiv (h 40 0) a b c0 p e)) from by rw [fwUp_fu h 40, fwUp_fu _ 40, fwUp_fu _ 40, fwUp_fu _ 40, fwUp_fu _ 40, fwUc_at, fwUc_uc, fwUc_at, fwUc_uc, fwUc_at, fwUc_uc, fwUc_at, fwUc_uc]; rfl]
    refine w_iconst dX12_feed_52 ?_
    refine w_istore [some (aR 12 0), some (aI a), some (aI b), some (aI c0), some (aI p), some (aI e), some (aI 0)] dX12_feed_53 rfl (by decide) ?_
    have lp55 : ∀ c : Nat, c ≤ 20 → ∀ (y55  : Int) (hh55 : fwH), y55 = (c : Int) → hh55 = (fwUc (fwUc h 40 0 (fiv (h 40 0) a b c0 p e)) 39 0 (mF20 (h 39 0) (h 12 0 5).toNat (fV8 a b c0 p e) c)) → fwWP mX12_feed (d + 0) 55 [some (aR 12 0), some (aI a), some (aI b), some (aI c0), some (aI p), some (aI e), some (aI y55)] [] hh55 Q := by
      refine fw_up (fun c hc55 ih55 => ?_)
      intro y55  hh55 ey55 eh55
      subst ey55
      subst eh55
      show fwWP mX12_feed (d + 0) 55 [some (aR 12 0), some (aI a), some (aI b), some (aI c0), some (aI p), some (aI e), some (aI (c : Int))] [] (fwUc (fwUc h 40 0 (fiv (h 40 0) a b c0 p e)) 39 0 (mF20 (h 39 0) (h 12 0 5).toNat (fV8 a b c0 p e) c)) Q
      refine w_iload dX12_feed_55 rfl ?_
      refine w_bipush dX12_feed_57 rfl ?_
      refine w_icmp_ge 101 dX12_feed_59 (by decide) (by omega) (by omega) (fun c59 => ?_) (fun c59 => ?_)
      · have ec55 : 20 = c := by omega
        subst ec55
        refine w_aload_n dX12_feed_101 rfl ?_
        refine w_dup dX12_feed_102 rfl ?_
        refine w_getiE (v := h 12 0 5) dX12_feed_103 fl_X12_81 rfl (by decide) rfl ?_
        refine w_bipush dX12_feed_106 rfl ?_
        refine w_iadd dX12_feed_108 ?_
        refine w_puti dX12_feed_109 fl_X12_81 fp_12_5 rfl (by decide) ?_
        refine w_aload_n dX12_feed_112 rfl ?_
        refine w_getiE (v := h 12 0 5 + 20) dX12_feed_113 fl_X12_81 rfl (by decide) rfl ?_
        rw [mF20_feed]
        exact w_iretE dX12_feed_116 rfl rfl (k.1 (by omega))
      · have hdv : fwDiv (c : Int) 4 = (c : Int) / 4 := fwDiv_nn (by omega) (by omega)
        have hrm : fwRem (c : Int) 4 = (c : Int) % 4 := fwRem_nn (by omega) (by omega)
        have hv8 := fwB8_rng (fwShr (fV a b c0 p e (c / 4)) (24 - 8 * fwRem (c : Int) 4))
        refine w_aload_n dX12_feed_62 rfl ?_
        refine w_getr 39 0 dX12_feed_63 fl_X12_20 rfl (by decide) ?_
        refine w_aload_n dX12_feed_66 rfl ?_
        refine w_getiE (v := h 12 0 5) dX12_feed_67 fl_X12_81 rfl (by decide) rfl ?_
        refine w_iload dX12_feed_70 rfl ?_
        refine w_iadd dX12_feed_72 ?_
        refine w_aload_n dX12_feed_73 rfl ?_
        refine w_getr 40 0 dX12_feed_74 fl_X12_24 rfl (by decide) ?_
        refine w_iload dX12_feed_77 rfl ?_
        refine w_iconst dX12_feed_79 ?_
        refine w_idiv dX12_feed_80 (by omega) (by omega) ?_
        refine w_ialdE (v := fV a b c0 p e (c / 4)) dX12_feed_81 rfl (by decide) (by rw [hdv]; omega) (by rw [hdv]; omega) (by rw [show ((fwDiv (c : Int) 4).toNat) = c / 4 by rw [hdv]; omega]; exact fiv_at _ _ _ _ _ _ (by omega)) ?_
        refine w_bipush dX12_feed_82 rfl ?_
        refine w_bipush dX12_feed_84 rfl ?_
        refine w_iload dX12_feed_86 rfl ?_
        refine w_iconst dX12_feed_88 ?_
        refine w_irem dX12_feed_89 (by omega) (by omega) ?_
        refine w_imul dX12_feed_90 ?_
        refine w_isub dX12_feed_91 ?_
        refine w_ishr dX12_feed_92 ?_
        refine w_i2b dX12_feed_93 ?_
        refine w_bast dX12_feed_94 rfl (by decide) (by omega) (by omega) (by first | omega | exact fwB_01 _) ?_
        refine w_iinc [some (aR 12 0), some (aI a), some (aI b), some (aI c0), some (aI p), some (aI e), some (aI ((c : Int) + 1))] dX12_feed_95 rfl rfl (by decide) ?_
        refine w_goto 55 dX12_feed_98 (by decide) ?_
        refine ih55 (by omega) _ _ ?_ ?_
        · exact (by omega)
        · exact (by rw [fwUp_uc, show (h 12 0 5 + (c : Int)).toNat = (h 12 0 5).toNat + c by omega, hrm, mF20]; rfl)
    refine lp55 0 (Nat.zero_le _) _ _ ?_ ?_
    · exact (by omega)
    · exact (fwUc_self _ 39 0).symm
  · refine w_iconst dX12_feed_13 ?_
    exact w_iretE dX12_feed_14 rfl rfl (k.2 (by omega))
end

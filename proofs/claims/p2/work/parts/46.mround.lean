set_option maxRecDepth 100000 in
set_option maxHeartbeats 4000000 in
theorem c_X12_steps {d : Nat} {h : fwH} {Q : Option fwV → fwH → Prop} (x a b : Int) (hx : -1000 ≤ x ∧ x ≤ 1000) (ha : -1000 ≤ a ∧ a ≤ 1000) (hb : -1000 ≤ b ∧ b ≤ 1000) (k : Q (some (aI (mSteps x a b))) h) : fwCt mX12_steps (d + 1) [aI x, aI a, aI b] h Q := by
  refine fwCt_of [some (aI x), some (aI a), some (aI b)] rfl rfl rfl ?_
  refine w_iload_n dX12_steps_0 rfl ?_
  refine w_iload_n dX12_steps_1 rfl ?_
  refine w_isub dX12_steps_2 ?_
  refine w_iload_n dX12_steps_3 rfl ?_
  refine w_iload_n dX12_steps_4 rfl ?_
  refine w_isub dX12_steps_5 ?_
  refine w_iload_n dX12_steps_6 rfl ?_
  refine w_iload_n dX12_steps_7 rfl ?_
  refine w_isub dX12_steps_8 ?_
  refine w_min (d := d + 0) (S := [aI (b - a)]) dX12_steps_9 ml_X12_112 (by omega) (by omega) (Nat.le_of_ble_eq_true rfl) ?_
  refine w_iadd dX12_steps_12 ?_
  exact w_iretE dX12_steps_13 rfl (by rfl) k
/-- names of WILLING FOLK whose CELL lies in one of two stretches -/
def nOn (F : Nat → Int) (wl l r u v : Int) : Nat → Int
  | 0 => 0
  | f + 1 => if fwAnd (fwShr wl (f : Int)) 1 = 1 ∧ ((l ≤ F (7 * f) ∧ F (7 * f) ≤ r) ∨ (u ≤ F (7 * f) ∧ F (7 * f) ≤ v)) then nOn F wl l r u v f + F (7 * f + 1) else nOn F wl l r u v f
theorem mAh_f {F : Nat → Int} {wl : Int} {k : Nat} (hF : 0 ≤ F (7 * k)) : ∀ c : Nat, mAh F wl (k + 1) c = mAh F wl k c + (if fwAnd (fwShr wl (k : Int)) 1 = 1 ∧ F (7 * k) < (c : Int) then F (7 * k + 1) else 0) := by
  intro c
  induction c with
  | zero => rw [mAh, mAh, if_neg (by omega)]; omega
  | succ c ih =>
    rw [mAh, mAh, ih, mHereF]
    by_cases q : fwAnd (fwShr wl (k : Int)) 1 = 1 ∧ F (7 * k) = (c : Int)
    · rw [if_pos q, if_neg (by omega), if_pos (by omega)]
      omega
    · rw [if_neg q]
      by_cases q2 : fwAnd (fwShr wl (k : Int)) 1 = 1 ∧ F (7 * k) < (c : Int)
      · rw [if_pos q2, if_pos (by omega)]; omega
      · rw [if_neg q2, if_neg (by omega)]; omega
theorem mWi_f {F : Nat → Int} {wl : Int} {k : Nat} (hF : 0 ≤ F (7 * k)) (x y : Int) : mWi (mAh F wl (k + 1)) x y = mWi (mAh F wl k) x y + (if (x ≤ y ∧ 0 ≤ x ∧ y < 10) ∧ fwAnd (fwShr wl (k : Int)) 1 = 1 ∧ x ≤ F (7 * k) ∧ F (7 * k) ≤ y then F (7 * k + 1) else 0) := by
  unfold mWi
  by_cases q : x ≤ y ∧ 0 ≤ x ∧ y < 10
  · rw [if_pos q, if_pos q, mAh_f hF, mAh_f hF]
    have h1 : ((y + 1).toNat : Int) = y + 1 := by omega
    have h2 : ((x.toNat : Nat) : Int) = x := by omega
    rw [h1, h2]
    by_cases b : fwAnd (fwShr wl (k : Int)) 1 = 1
    · by_cases z1 : F (7 * k) < x
      · rw [if_pos ⟨b, by omega⟩, if_pos ⟨b, z1⟩, if_neg (by omega)]; omega
      · by_cases z2 : F (7 * k) ≤ y
        · rw [if_pos ⟨b, by omega⟩, if_neg (by omega), if_pos ⟨q, b, by omega, z2⟩]; omega
        · rw [if_neg (by omega), if_neg (by omega), if_neg (by omega)]; omega
    · rw [if_neg (fun z => b z.1), if_neg (fun z => b z.1), if_neg (fun z => b z.2.1)]; omega
  · rw [if_neg q, if_neg q, if_neg (fun z => q z.1)]; omega
theorem mAh_0 (F : Nat → Int) (wl : Int) : ∀ c : Nat, mAh F wl 0 c = 0 := by
  intro c
  induction c with
  | zero => rfl
  | succ c ih => rw [mAh, ih, mHereF]; omega
theorem nOn_both {F : Nat → Int} {wl l r u v : Int} (h1 : 0 ≤ l ∧ l ≤ r ∧ r < 10) (h2 : 0 ≤ u ∧ u ≤ v ∧ v < 10) : ∀ n : Nat, n ≤ 8 → (∀ f : Nat, f < 8 → 0 ≤ F (7 * f)) → nOn F wl l r u v n = mBoth (mAh F wl n) l r u v := by
  intro n
  induction n with
  | zero =>
    intro _ _
    have z : ∀ x y : Int, mWi (mAh F wl 0) x y = 0 := by
      intro x y
      unfold mWi
      split
      · rw [mAh_0, mAh_0]; omega
      · rfl
    unfold mBoth
    rw [nOn, z, z, z]
    omega
  | succ n ih =>
    intro hn hF
    have e := ih (by omega) hF
    have hf := hF n (by omega)
    unfold mBoth at e ⊢
    rw [nOn, mWi_f hf, mWi_f hf, mWi_f hf, e]
    by_cases b : fwAnd (fwShr wl (n : Int)) 1 = 1
    · by_cases z1 : l ≤ F (7 * n) ∧ F (7 * n) ≤ r
      · by_cases z2 : u ≤ F (7 * n) ∧ F (7 * n) ≤ v
        · rw [if_pos ⟨b, Or.inl z1⟩, if_pos ⟨by omega, b, z1⟩, if_pos ⟨by omega, b, z2⟩, if_pos ⟨by omega, b, by omega⟩]; omega
        · rw [if_pos ⟨b, Or.inl z1⟩, if_pos ⟨by omega, b, z1⟩, if_neg (fun z => z2 z.2.2), if_neg (fun z => z2 (by omega))]; omega
      · by_cases z2 : u ≤ F (7 * n) ∧ F (7 * n) ≤ v
        · rw [if_pos ⟨b, Or.inr z2⟩, if_neg (fun z => z1 z.2.2), if_pos ⟨by omega, b, z2⟩, if_neg (fun z => z1 (by omega))]; omega
        · rw [if_neg (fun z => z.2.elim z1 z2), if_neg (fun z => z1 z.2.2), if_neg (fun z => z2 z.2.2), if_neg (fun z => z1 (by omega))]; omega
    · rw [if_neg (fun z => b z.1), if_neg (fun z => b z.2.1), if_neg (fun z => b z.2.1), if_neg (fun z => b z.2.1)]; omega
theorem nOn_one {F : Nat → Int} {wl l r : Int} (h1 : 0 ≤ l ∧ l ≤ r ∧ r < 10) {n : Nat} (hn : n ≤ 8) (hF : ∀ f : Nat, f < 8 → 0 ≤ F (7 * f)) : nOn F wl l r l r n = mWi (mAh F wl n) l r := by
  rw [nOn_both h1 h1 n hn hF]
  unfold mBoth
  rw [Int.max_self, Int.min_self]
  omega
theorem nOn_r {F : Nat → Int} {wl l r u v : Int} : ∀ n : Nat, n ≤ 8 → (∀ f : Nat, f < 8 → 0 ≤ F (7 * f + 1) ∧ F (7 * f + 1) ≤ 99) → 0 ≤ nOn F wl l r u v n ∧ nOn F wl l r u v n ≤ 99 * n := by
  intro n
  induction n with
  | zero => intro _ _; rw [nOn]; omega
  | succ n ih =>
    intro hn hF
    have h1 := ih (by omega) hF
    have h2 := hF n (by omega)
    rw [nOn]
    split <;> omega
set_option maxRecDepth 100000 in
set_option maxHeartbeats 4000000 in
theorem c_X12_namesOn {d : Nat} {h gg : fwH} {Q : Option fwV → fwH → Prop} (wl l r u v : Int) (J : cOk gg) (R : jF gg h) (hl1 : -1000 ≤ l ∧ l ≤ 1000) (hr1 : -1000 ≤ r ∧ r ≤ 1000) (hu1 : -1000 ≤ u ∧ u ≤ 1000) (hv1 : -1000 ≤ v ∧ v ≤ 1000) (k : Q (some (aI (nOn (gg 18 0) wl l r u v (gg 5 0 3).toNat))) h) : fwCt mX12_namesOn (d + 1) [aR 12 0, aI wl, aI l, aI r, aI u, aI v] h Q := by
  refine fwCt_of [some (aR 12 0), some (aI wl), some (aI l), some (aI r), some (aI u), some (aI v), none, none] rfl rfl rfl ?_
  obtain ⟨hl, hP, hG, -, -, -, hlw, -, ha, hs, -, hsc⟩ := id J
  obtain ⟨⟨g1, g2⟩, ⟨g3, g4⟩, ⟨g5, g6⟩, g7, -⟩ := id hG
  have hpz := hP.1
  refine w_iconst dX12_namesOn_0 ?_
  refine w_istore [some (aR 12 0), some (aI wl), some (aI l), some (aI r), some (aI u), some (aI v), some (aI 0), none] dX12_namesOn_1 rfl (by decide) ?_
  refine w_iconst dX12_namesOn_3 ?_
  refine w_istore [some (aR 12 0), some (aI wl), some (aI l), some (aI r), some (aI u), some (aI v), some (aI 0), some (aI 0)] dX12_namesOn_4 rfl (by decide) ?_
  have lp6 : ∀ c : Nat, c ≤ (gg 5 0 3).toNat → ∀ (y6 nv : Int), y6 = (c : Int) → nv = nOn (gg 18 0) wl l r u v c → fwWP mX12_namesOn (d + 1) 6 [some (aR 12 0), some (aI wl), some (aI l), some (aI r), some (aI u), some (aI v), some (aI nv), some (aI y6)] [] h Q := by
    refine fw_up (fun c hc6 ih6 => ?_)
    intro y6 nv ey6 e_nv
    subst ey6
    subst e_nv
    show fwWP mX12_namesOn (d + 1) 6 [some (aR 12 0), some (aI wl), some (aI l), some (aI r), some (aI u), some (aI v), some (aI (nOn (gg 18 0) wl l r u v c)), some (aI (c : Int))] [] h Q
    refine w_iload dX12_namesOn_6 rfl ?_
    refine w_aload_n dX12_namesOn_8 rfl ?_
    refine w_getr 36 0 dX12_namesOn_9 fl_X12_9 rfl (by decide) ?_
    refine w_bipush dX12_namesOn_12 rfl ?_
    refine w_ialdE (v := gg 5 0 3) dX12_namesOn_14 rfl (by decide) (by omega) (by omega) R.2.2.2.2.2.2.1 ?_
    refine w_icmp_ge 88 dX12_namesOn_15 (by decide) (by omega) (by omega) (fun c15 => ?_) (fun c15 => ?_)
    · have ec6 : (gg 5 0 3).toNat = c := by omega
      subst ec6
      refine w_iload dX12_namesOn_88 rfl ?_
      exact w_iretE dX12_namesOn_90 rfl (by rfl) k
    · have hnr := nOn_r (F := gg 18 0) (wl := wl) (l := l) (r := r) (u := u) (v := v) c (by omega) (fun f hf => (hP.2 f hf).2.1)
      refine w_iload dX12_namesOn_18 rfl ?_
      refine w_iload_n dX12_namesOn_20 rfl ?_
      refine w_iload dX12_namesOn_21 rfl ?_
      refine w_callS (d := d + 0) (S := [aI (nOn (gg 18 0) wl l r u v c)]) [aI wl, aI (c : Int)] dX12_namesOn_23 ml_X12_257 ok_X12_bit st_X12_bit rfl (Nat.le_of_ble_eq_true rfl) ?_
      refine c_X12_bit (d := d) wl (c : Int) ?_
      show fwWP mX12_namesOn (d + 1) 26 [some (aR 12 0), some (aI wl), some (aI l), some (aI r), some (aI u), some (aI v), some (aI (nOn (gg 18 0) wl l r u v c)), some (aI (c : Int))] [aI (fwAnd (fwShr wl (c : Int)) 1), aI (nOn (gg 18 0) wl l r u v c)] h Q
      have hbt2 := bit_01 wl (c : Int)
      refine w_iconst dX12_namesOn_26 ?_
      refine w_icmp_ne 78 dX12_namesOn_27 (by decide) (by omega) (by omega) (fun c27 => ?_) (fun c27 => ?_)
      · refine w_iconst dX12_namesOn_78 ?_
        refine w_iadd dX12_namesOn_79 ?_
        refine w_istore [some (aR 12 0), some (aI wl), some (aI l), some (aI r), some (aI u), some (aI v), some (aI ((nOn (gg 18 0) wl l r u v c) + 0)), some (aI (c : Int))] dX12_namesOn_80 rfl (by decide) ?_
        refine w_iinc [some (aR 12 0), some (aI wl), some (aI l), some (aI r), some (aI u), some (aI v), some (aI ((nOn (gg 18 0) wl l r u v c) + 0)), some (aI ((c : Int) + 1))] dX12_namesOn_82 rfl rfl (by decide) ?_
        refine w_goto 6 dX12_namesOn_85 (by decide) ?_
        refine ih6 (by omega) _ _ ?_ ?_
        · exact (by omega)
        · exact (by rw [nOn, if_neg (fun z => c27 z.1)]; omega)
      · have e00 : gg 18 0 (7 * c + 0) = gg 18 0 (7 * c) := rfl
        refine w_aload_n dX12_namesOn_30 rfl ?_
        refine w_iload dX12_namesOn_31 rfl ?_
        refine w_iconst dX12_namesOn_33 ?_
        refine w_callV (d := d + 0) (S := [aI (nOn (gg 18 0) wl l r u v c)]) [aI (c : Int), aI 0] dX12_namesOn_34 ml_X12_220 ok_X12_of vi_X12_of rfl rfl (by decide) rfl (Nat.le_of_ble_eq_true rfl) ?_
        refine c_ofE (d := d) c 0 (c : Int) J R (by omega) (by omega) (by omega) ?_
        show fwWP mX12_namesOn (d + 1) 37 [some (aR 12 0), some (aI wl), some (aI l), some (aI r), some (aI u), some (aI v), some (aI (nOn (gg 18 0) wl l r u v c)), some (aI (c : Int))] [aI (gg 18 0 (7 * c + 0)), aI (nOn (gg 18 0) wl l r u v c)] h Q
        have hof4 := hP.2 c (by omega)
        refine w_i2l dX12_namesOn_37 (by omega) ?_
        refine w_iload_n dX12_namesOn_38 rfl ?_
        refine w_i2l dX12_namesOn_39 (by omega) ?_
        refine w_iload_n dX12_namesOn_40 rfl ?_
        refine w_i2l dX12_namesOn_41 (by omega) ?_
        refine w_callS (d := d + 0) (S := [aI (nOn (gg 18 0) wl l r u v c)]) [aJ (gg 18 0 (7 * c + 0)), aJ l, aJ r] dX12_namesOn_42 ml_X12_65 ok_X12_in st_X12_in rfl (Nat.le_of_ble_eq_true rfl) ?_
        refine c_X12_in (d := d) (gg 18 0 (7 * c + 0)) l r (by omega) (by omega) (by omega) ?_
        show fwWP mX12_namesOn (d + 1) 45 [some (aR 12 0), some (aI wl), some (aI l), some (aI r), some (aI u), some (aI v), some (aI (nOn (gg 18 0) wl l r u v c)), some (aI (c : Int))] [aI (fwB (l ≤ (gg 18 0 (7 * c + 0)) ∧ (gg 18 0 (7 * c + 0)) ≤ r)), aI (nOn (gg 18 0) wl l r u v c)] h Q
        refine w_ifB_ne 68 dX12_namesOn_45 (by decide) (fun c45 => ?_) (fun c45 => ?_)
        · refine w_aload_n dX12_namesOn_68 rfl ?_
          refine w_iload dX12_namesOn_69 rfl ?_
          refine w_iconst dX12_namesOn_71 ?_
          refine w_callV (d := d + 0) (S := [aI (nOn (gg 18 0) wl l r u v c)]) [aI (c : Int), aI 1] dX12_namesOn_72 ml_X12_220 ok_X12_of vi_X12_of rfl rfl (by decide) rfl (Nat.le_of_ble_eq_true rfl) ?_
          refine c_ofE (d := d) c 1 (c : Int) J R (by omega) (by omega) (by omega) ?_
          show fwWP mX12_namesOn (d + 1) 75 [some (aR 12 0), some (aI wl), some (aI l), some (aI r), some (aI u), some (aI v), some (aI (nOn (gg 18 0) wl l r u v c)), some (aI (c : Int))] [aI (gg 18 0 (7 * c + 1)), aI (nOn (gg 18 0) wl l r u v c)] h Q
          have hof6 := hP.2 c (by omega)
          refine w_goto 79 dX12_namesOn_75 (by decide) ?_
          refine w_iadd dX12_namesOn_79 ?_
          refine w_istore [some (aR 12 0), some (aI wl), some (aI l), some (aI r), some (aI u), some (aI v), some (aI ((nOn (gg 18 0) wl l r u v c) + (gg 18 0 (7 * c + 1)))), some (aI (c : Int))] dX12_namesOn_80 rfl (by decide) ?_
          refine w_iinc [some (aR 12 0), some (aI wl), some (aI l), some (aI r), some (aI u), some (aI v), some (aI ((nOn (gg 18 0) wl l r u v c) + (gg 18 0 (7 * c + 1)))), some (aI ((c : Int) + 1))] dX12_namesOn_82 rfl rfl (by decide) ?_
          refine w_goto 6 dX12_namesOn_85 (by decide) ?_
          refine ih6 (by omega) _ _ ?_ ?_
          · exact (by omega)
          · exact (by rw [nOn, if_pos ⟨c27, Or.inl c45⟩])
        · refine w_aload_n dX12_namesOn_48 rfl ?_
          refine w_iload dX12_namesOn_49 rfl ?_
          refine w_iconst dX12_namesOn_51 ?_
          refine w_callV (d := d + 0) (S := [aI (nOn (gg 18 0) wl l r u v c)]) [aI (c : Int), aI 0] dX12_namesOn_52 ml_X12_220 ok_X12_of vi_X12_of rfl rfl (by decide) rfl (Nat.le_of_ble_eq_true rfl) ?_
          refine c_ofE (d := d) c 0 (c : Int) J R (by omega) (by omega) (by omega) ?_
          show fwWP mX12_namesOn (d + 1) 55 [some (aR 12 0), some (aI wl), some (aI l), some (aI r), some (aI u), some (aI v), some (aI (nOn (gg 18 0) wl l r u v c)), some (aI (c : Int))] [aI (gg 18 0 (7 * c + 0)), aI (nOn (gg 18 0) wl l r u v c)] h Q
          have hof7 := hP.2 c (by omega)
          refine w_i2l dX12_namesOn_55 (by omega) ?_
          refine w_iload dX12_namesOn_56 rfl ?_
          refine w_i2l dX12_namesOn_58 (by omega) ?_
          refine w_iload dX12_namesOn_59 rfl ?_
          refine w_i2l dX12_namesOn_61 (by omega) ?_
          refine w_callS (d := d + 0) (S := [aI (nOn (gg 18 0) wl l r u v c)]) [aJ (gg 18 0 (7 * c + 0)), aJ u, aJ v] dX12_namesOn_62 ml_X12_65 ok_X12_in st_X12_in rfl (Nat.le_of_ble_eq_true rfl) ?_
          refine c_X12_in (d := d) (gg 18 0 (7 * c + 0)) u v (by omega) (by omega) (by omega) ?_
          show fwWP mX12_namesOn (d + 1) 65 [some (aR 12 0), some (aI wl), some (aI l), some (aI r), some (aI u), some (aI v), some (aI (nOn (gg 18 0) wl l r u v c)), some (aI (c : Int))] [aI (fwB (u ≤ (gg 18 0 (7 * c + 0)) ∧ (gg 18 0 (7 * c + 0)) ≤ v)), aI (nOn (gg 18 0) wl l r u v c)] h Q
          refine w_ifB_eq 78 dX12_namesOn_65 (by decide) (fun c65 => ?_) (fun c65 => ?_)
          · refine w_iconst dX12_namesOn_78 ?_
            refine w_iadd dX12_namesOn_79 ?_
            refine w_istore [some (aR 12 0), some (aI wl), some (aI l), some (aI r), some (aI u), some (aI v), some (aI ((nOn (gg 18 0) wl l r u v c) + 0)), some (aI (c : Int))] dX12_namesOn_80 rfl (by decide) ?_
            refine w_iinc [some (aR 12 0), some (aI wl), some (aI l), some (aI r), some (aI u), some (aI v), some (aI ((nOn (gg 18 0) wl l r u v c) + 0)), some (aI ((c : Int) + 1))] dX12_namesOn_82 rfl rfl (by decide) ?_
            refine w_goto 6 dX12_namesOn_85 (by decide) ?_
            refine ih6 (by omega) _ _ ?_ ?_
            · exact (by omega)
            · exact (by rw [nOn, if_neg (fun z => z.2.elim c45 c65)]; omega)
          · refine w_aload_n dX12_namesOn_68 rfl ?_
            refine w_iload dX12_namesOn_69 rfl ?_
            refine w_iconst dX12_namesOn_71 ?_
            refine w_callV (d := d + 0) (S := [aI (nOn (gg 18 0) wl l r u v c)]) [aI (c : Int), aI 1] dX12_namesOn_72 ml_X12_220 ok_X12_of vi_X12_of rfl rfl (by decide) rfl (Nat.le_of_ble_eq_true rfl) ?_
            refine c_ofE (d := d) c 1 (c : Int) J R (by omega) (by omega) (by omega) ?_
            show fwWP mX12_namesOn (d + 1) 75 [some (aR 12 0), some (aI wl), some (aI l), some (aI r), some (aI u), some (aI v), some (aI (nOn (gg 18 0) wl l r u v c)), some (aI (c : Int))] [aI (gg 18 0 (7 * c + 1)), aI (nOn (gg 18 0) wl l r u v c)] h Q
            have hof9 := hP.2 c (by omega)
            refine w_goto 79 dX12_namesOn_75 (by decide) ?_
            refine w_iadd dX12_namesOn_79 ?_
            refine w_istore [some (aR 12 0), some (aI wl), some (aI l), some (aI r), some (aI u), some (aI v), some (aI ((nOn (gg 18 0) wl l r u v c) + (gg 18 0 (7 * c + 1)))), some (aI (c : Int))] dX12_namesOn_80 rfl (by decide) ?_
            refine w_iinc [some (aR 12 0), some (aI wl), some (aI l), some (aI r), some (aI u), some (aI v), some (aI ((nOn (gg 18 0) wl l r u v c) + (gg 18 0 (7 * c + 1)))), some (aI ((c : Int) + 1))] dX12_namesOn_82 rfl rfl (by decide) ?_
            refine w_goto 6 dX12_namesOn_85 (by decide) ?_
            refine ih6 (by omega) _ _ ?_ ?_
            · exact (by omega)
            · exact (by rw [nOn, if_pos ⟨c27, Or.inr c65⟩])
  refine lp6 0 (Nat.zero_le _) _ _ ?_ ?_
  · exact (by omega)
  · exact rfl
set_option maxRecDepth 100000 in
set_option maxHeartbeats 4000000 in
theorem c_X12_isRound {d : Nat} {h gg : fwH} {Q : Option fwV → fwH → Prop} (x : Int) (y : Int) (J : cOk gg) (R : jF gg h) (hx : -2147483648 ≤ x ∧ x < 2147483648) (hy : -2147483648 ≤ y ∧ y < 2147483648) (k : Q (some (aI (fwB ((0 ≤ x ∧ x ≤ gg 4 0 1 - 1) ∧ 1 ≤ y ∧ y ≤ 800)))) h) : fwCt mX12_isRound (d + 2) [aR 12 0, aI x, aI y] h Q := by
  refine fwCt_of [some (aR 12 0), some (aI x), some (aI y)] rfl rfl rfl ?_
  obtain ⟨hl, hP, hG, -, -, -, hlw, -, ha, hs, -, hsc⟩ := id J
  obtain ⟨⟨g1, g2⟩, ⟨g3, g4⟩, ⟨g5, g6⟩, g7, -⟩ := id hG
  have hpz := hP.1
  refine w_aload_n dX12_isRound_0 rfl ?_
  refine w_iload_n dX12_isRound_1 rfl ?_
  refine w_i2l dX12_isRound_2 (by omega) ?_
  refine w_callV (d := d + 1) (S := []) [aJ x] dX12_isRound_3 ml_X12_203 ok_X12_isCell vi_X12_isCell rfl rfl (by decide) rfl (Nat.le_of_ble_eq_true rfl) ?_
  refine c_X12_isCell (d := d) x J R (by omega) ?_
  show fwWP mX12_isRound (d + 2) 6 [some (aR 12 0), some (aI x), some (aI y)] [aI (fwB (0 ≤ x ∧ x ≤ gg 4 0 1 - 1))] h Q
  refine w_ifB_eq 25 dX12_isRound_6 (by decide) (fun c6 => ?_) (fun c6 => ?_)
  · refine w_iconst dX12_isRound_25 ?_
    exact w_zretE dX12_isRound_26 rfl (by first | (exfalso; omega) | (rw [fwB_t (by omega)]) | (rw [fwB_f (by omega)]) | rfl) k
  · refine w_iload_n dX12_isRound_9 rfl ?_
    refine w_i2l dX12_isRound_10 (by omega) ?_
    refine w_lconst (z := 1) dX12_isRound_11 rfl ?_
    refine w_ldc2 (n := 800) dX12_isRound_12 cs_X12_309 ?_
    refine w_callS (d := d + 1) (S := []) [aJ y, aJ 1, aJ 800] dX12_isRound_15 ml_X12_65 ok_X12_in st_X12_in rfl (Nat.le_of_ble_eq_true rfl) ?_
    refine c_X12_in (d := (d + 1)) y 1 800 (by omega) (by omega) (by omega) ?_
    show fwWP mX12_isRound (d + 2) 18 [some (aR 12 0), some (aI x), some (aI y)] [aI (fwB (1 ≤ y ∧ y ≤ 800))] h Q
    refine w_ifB_eq 25 dX12_isRound_18 (by decide) (fun c18 => ?_) (fun c18 => ?_)
    · refine w_iconst dX12_isRound_25 ?_
      exact w_zretE dX12_isRound_26 rfl (by first | (exfalso; omega) | (rw [fwB_t (by omega)]) | (rw [fwB_f (by omega)]) | rfl) k
    · refine w_iconst dX12_isRound_21 ?_
      refine w_goto 26 dX12_isRound_22 (by decide) ?_
      exact w_zretE dX12_isRound_26 rfl (by first | (exfalso; omega) | (rw [fwB_t (by omega)]) | (rw [fwB_f (by omega)]) | rfl) k

/-- a row some of whose places are taken from others of it -/
def psr (f : Nat → Int) (a b c : Nat) : Nat → Int := fun z => if b ≤ z ∧ z < b + c then f (a + (z - b)) else f z
theorem psr_0 (f : Nat → Int) (a b : Nat) : psr f a b 0 = f := by
  funext z
  exact if_neg (by omega)
theorem psr_s (f : Nat → Int) (a b c : Nat) : fwFu (psr f a b c) (b + c) (f (a + c)) = psr f a b (c + 1) := by
  funext z
  unfold fwFu psr
  by_cases e : z = b + c
  · rw [if_pos e, if_pos (by omega), show z - b = c by omega]
  · rw [if_neg e]
    by_cases e2 : b ≤ z ∧ z < b + c
    · rw [if_pos e2, if_pos (by omega)]
    · rw [if_neg e2, if_neg (by omega)]
set_option maxRecDepth 100000 in
set_option maxHeartbeats 4000000 in
theorem c_X12_paste {d : Nat} {h : fwH} {Q : Option fwV → fwH → Prop} (x y z u m : Int) (hx : -2147483648 ≤ x ∧ x < 2147483648) (hy : -2147483648 ≤ y ∧ y < 2147483648) (hz : -2147483648 ≤ z ∧ z < 2147483648) (hu : -2147483648 ≤ u ∧ u < 2147483648) (hm : -2147483648 ≤ m ∧ m < 2147483648) (hmn : ∀ s : Nat, s < 4 → -1 ≤ h 46 0 s ∧ h 46 0 s ≤ 60) (hwd : ∀ s : Nat, s < 4 → 0 ≤ h 47 0 s ∧ h 47 0 s ≤ 3) (k : (¬ ((0 ≤ x ∧ x < 4) ∧ 0 ≤ z ∧ z < 4) → Q (some (aI (-2))) h) ∧ (((0 ≤ x ∧ x < 4) ∧ 0 ≤ z ∧ z < 4) → ¬ (h 46 0 x.toNat ≠ -1 ∧ h 46 0 z.toNat ≠ -1) → Q (some (aI (-6))) h) ∧ (((0 ≤ x ∧ x < 4) ∧ 0 ≤ z ∧ z < 4) → (h 46 0 x.toNat ≠ -1 ∧ h 46 0 z.toNat ≠ -1) → ¬ (h 47 0 x.toNat = h 47 0 z.toNat) → Q (some (aI (-8))) h) ∧ (((0 ≤ x ∧ x < 4) ∧ 0 ≤ z ∧ z < 4) → (h 46 0 x.toNat ≠ -1 ∧ h 46 0 z.toNat ≠ -1) → (h 47 0 x.toNat = h 47 0 z.toNat) → ¬ (0 ≤ y ∧ 0 ≤ u ∧ 0 ≤ m ∧ y + m ≤ h 46 0 x.toNat ∧ u + m ≤ h 46 0 z.toNat) → Q (some (aI (-7))) h) ∧ (((0 ≤ x ∧ x < 4) ∧ 0 ≤ z ∧ z < 4) → (h 46 0 x.toNat ≠ -1 ∧ h 46 0 z.toNat ≠ -1) → (h 47 0 x.toNat = h 47 0 z.toNat) → (0 ≤ y ∧ 0 ≤ u ∧ 0 ≤ m ∧ y + m ≤ h 46 0 x.toNat ∧ u + m ≤ h 46 0 z.toNat) → ∀ F, Q (some (aI 0)) (fwUc (fwUc h 49 0 F) 48 0 (psr (h 48 0) (60 * x.toNat + y.toNat) (60 * z.toNat + u.toNat) m.toNat)))) : fwCt mX12_paste (d + 2) [aR 12 0, aI x, aI y, aI z, aI u, aI m] h Q := by
  refine fwCt_of [some (aR 12 0), some (aI x), some (aI y), some (aI z), some (aI u), some (aI m), none] rfl rfl rfl ?_
  refine w_iload_n dX12_paste_0 rfl ?_
  refine w_callS (d := d + 1) (S := []) [aI x] dX12_paste_1 ml_X12_357 ok_X12_isSlot st_X12_isSlot rfl (Nat.le_of_ble_eq_true rfl) ?_
  refine c_X12_isSlot (d := d) x (by omega) ?_
  show fwWP mX12_paste (d + 2) 4 [some (aR 12 0), some (aI x), some (aI y), some (aI z), some (aI u), some (aI m), none] [aI (fwB (0 ≤ x ∧ x ≤ 3))] h Q
  refine w_ifB_eq 14 dX12_paste_4 (by decide) (fun c4 => ?_) (fun c4 => ?_)
  · refine w_bipush dX12_paste_14 rfl ?_
    exact w_iretE dX12_paste_16 rfl rfl (k.1 (by omega))
  · refine w_iload_n dX12_paste_7 rfl ?_
    refine w_callS (d := d + 1) (S := []) [aI z] dX12_paste_8 ml_X12_357 ok_X12_isSlot st_X12_isSlot rfl (Nat.le_of_ble_eq_true rfl) ?_
    refine c_X12_isSlot (d := d) z (by omega) ?_
    show fwWP mX12_paste (d + 2) 11 [some (aR 12 0), some (aI x), some (aI y), some (aI z), some (aI u), some (aI m), none] [aI (fwB (0 ≤ z ∧ z ≤ 3))] h Q
    refine w_ifB_ne 17 dX12_paste_11 (by decide) (fun c11 => ?_) (fun c11 => ?_)
    · obtain ⟨s, rfl⟩ : ∃ s : Nat, x = (s : Int) := ⟨x.toNat, by omega⟩
      obtain ⟨q9, rfl⟩ : ∃ q9 : Nat, z = (q9 : Int) := ⟨z.toNat, by omega⟩
      have hm1 := hmn s (by omega)
      have hm2 := hmn q9 (by omega)
      have hw1 := hwd s (by omega)
      have hw2 := hwd q9 (by omega)
      refine w_aload_n dX12_paste_17 rfl ?_
      refine w_getr 46 0 dX12_paste_18 fl_X12_47 rfl (by decide) ?_
      refine w_iload_n dX12_paste_21 rfl ?_
      refine w_ialdE (v := h 46 0 s) dX12_paste_22 rfl (by decide) (by omega) (by omega) rfl ?_
      refine w_iconst dX12_paste_23 ?_
      refine w_icmp_eq 37 dX12_paste_24 (by decide) (by omega) (by omega) (fun c24 => ?_) (fun c24 => ?_)
      · refine w_bipush dX12_paste_37 rfl ?_
        exact w_iretE dX12_paste_39 rfl rfl (k.2.1 (by omega) (show ¬ (h 46 0 s ≠ -1 ∧ h 46 0 q9 ≠ -1) by omega))
      · refine w_aload_n dX12_paste_27 rfl ?_
        refine w_getr 46 0 dX12_paste_28 fl_X12_47 rfl (by decide) ?_
        refine w_iload_n dX12_paste_31 rfl ?_
        refine w_ialdE (v := h 46 0 q9) dX12_paste_32 rfl (by decide) (by omega) (by omega) rfl ?_
        refine w_iconst dX12_paste_33 ?_
        refine w_icmp_ne 40 dX12_paste_34 (by decide) (by omega) (by omega) (fun c34 => ?_) (fun c34 => ?_)
        · refine w_aload_n dX12_paste_40 rfl ?_
          refine w_getr 47 0 dX12_paste_41 fl_X12_50 rfl (by decide) ?_
          refine w_iload_n dX12_paste_44 rfl ?_
          refine w_ialdE (v := h 47 0 s) dX12_paste_45 rfl (by decide) (by omega) (by omega) rfl ?_
          refine w_aload_n dX12_paste_46 rfl ?_
          refine w_getr 47 0 dX12_paste_47 fl_X12_50 rfl (by decide) ?_
          refine w_iload_n dX12_paste_50 rfl ?_
          refine w_ialdE (v := h 47 0 q9) dX12_paste_51 rfl (by decide) (by omega) (by omega) rfl ?_
          refine w_icmp_eq 58 dX12_paste_52 (by decide) (by omega) (by omega) (fun c52 => ?_) (fun c52 => ?_)
          · refine w_iload_n dX12_paste_58 rfl ?_
            refine w_if_lt 107 dX12_paste_59 (by decide) (by omega) (fun c59 => ?_) (fun c59 => ?_)
            · refine w_bipush dX12_paste_107 rfl ?_
              exact w_iretE dX12_paste_109 rfl rfl (k.2.2.2.1 (by omega) (show (h 46 0 s ≠ -1 ∧ h 46 0 q9 ≠ -1) by omega) (show (h 47 0 s = h 47 0 q9) by omega) (show ¬ (0 ≤ y ∧ 0 ≤ u ∧ 0 ≤ m ∧ y + m ≤ h 46 0 s ∧ u + m ≤ h 46 0 q9) by omega))
            · refine w_iload dX12_paste_62 rfl ?_
              refine w_if_lt 107 dX12_paste_64 (by decide) (by omega) (fun c64 => ?_) (fun c64 => ?_)
              · refine w_bipush dX12_paste_107 rfl ?_
                exact w_iretE dX12_paste_109 rfl rfl (k.2.2.2.1 (by omega) (show (h 46 0 s ≠ -1 ∧ h 46 0 q9 ≠ -1) by omega) (show (h 47 0 s = h 47 0 q9) by omega) (show ¬ (0 ≤ y ∧ 0 ≤ u ∧ 0 ≤ m ∧ y + m ≤ h 46 0 s ∧ u + m ≤ h 46 0 q9) by omega))
              · refine w_iload dX12_paste_67 rfl ?_
                refine w_if_lt 107 dX12_paste_69 (by decide) (by omega) (fun c69 => ?_) (fun c69 => ?_)
                · refine w_bipush dX12_paste_107 rfl ?_
                  exact w_iretE dX12_paste_109 rfl rfl (k.2.2.2.1 (by omega) (show (h 46 0 s ≠ -1 ∧ h 46 0 q9 ≠ -1) by omega) (show (h 47 0 s = h 47 0 q9) by omega) (show ¬ (0 ≤ y ∧ 0 ≤ u ∧ 0 ≤ m ∧ y + m ≤ h 46 0 s ∧ u + m ≤ h 46 0 q9) by omega))
                · refine w_iload_n dX12_paste_72 rfl ?_
                  refine w_i2l dX12_paste_73 (by omega) ?_
                  refine w_iload dX12_paste_74 rfl ?_
                  refine w_i2l dX12_paste_76 (by omega) ?_
                  refine w_ladd dX12_paste_77 ?_
                  refine w_aload_n dX12_paste_78 rfl ?_
                  refine w_getr 46 0 dX12_paste_79 fl_X12_47 rfl (by decide) ?_
                  refine w_iload_n dX12_paste_82 rfl ?_
                  refine w_ialdE (v := h 46 0 s) dX12_paste_83 rfl (by decide) (by omega) (by omega) rfl ?_
                  refine w_i2l dX12_paste_84 (by omega) ?_
                  refine w_lc_gt 107 dX12_paste_85 dX12_paste_86 (by decide) (by omega) (by omega) (fun c86 => ?_) (fun c86 => ?_)
                  · refine w_bipush dX12_paste_107 rfl ?_
                    exact w_iretE dX12_paste_109 rfl rfl (k.2.2.2.1 (by omega) (show (h 46 0 s ≠ -1 ∧ h 46 0 q9 ≠ -1) by omega) (show (h 47 0 s = h 47 0 q9) by omega) (show ¬ (0 ≤ y ∧ 0 ≤ u ∧ 0 ≤ m ∧ y + m ≤ h 46 0 s ∧ u + m ≤ h 46 0 q9) by omega))
                  · refine w_iload dX12_paste_89 rfl ?_
                    refine w_i2l dX12_paste_91 (by omega) ?_
                    refine w_iload dX12_paste_92 rfl ?_
                    refine w_i2l dX12_paste_94 (by omega) ?_
                    refine w_ladd dX12_paste_95 ?_
                    refine w_aload_n dX12_paste_96 rfl ?_
                    refine w_getr 46 0 dX12_paste_97 fl_X12_47 rfl (by decide) ?_
                    refine w_iload_n dX12_paste_100 rfl ?_
                    refine w_ialdE (v := h 46 0 q9) dX12_paste_101 rfl (by decide) (by omega) (by omega) rfl ?_
                    refine w_i2l dX12_paste_102 (by omega) ?_
                    refine w_lc_le 110 dX12_paste_103 dX12_paste_104 (by decide) (by omega) (by omega) (fun c104 => ?_) (fun c104 => ?_)
                    · obtain ⟨iy, rfl⟩ : ∃ iy : Nat, y = (iy : Int) := ⟨y.toNat, by omega⟩
                      obtain ⟨ku, rfl⟩ : ∃ ku : Nat, u = (ku : Int) := ⟨u.toNat, by omega⟩
                      obtain ⟨nm, rfl⟩ : ∃ nm : Nat, m = (nm : Int) := ⟨m.toNat, by omega⟩
                      refine w_iconst dX12_paste_110 ?_
                      refine w_istore [some (aR 12 0), some (aI (s : Int)), some (aI (iy : Int)), some (aI (q9 : Int)), some (aI (ku : Int)), some (aI (nm : Int)), some (aI 0)] dX12_paste_111 rfl (by decide) ?_
                      have lp113 : ∀ c : Nat, c ≤ nm → ∀ (y113  : Int) (hh113 : fwH), y113 = (c : Int) → hh113 = (fwUc h 49 0 (fwFl (fun j => h 48 0 (60 * s + iy + j)) (h 49 0) c)) → fwWP mX12_paste (d + 2) 113 [some (aR 12 0), some (aI (s : Int)), some (aI (iy : Int)), some (aI (q9 : Int)), some (aI (ku : Int)), some (aI (nm : Int)), some (aI y113)] [] hh113 Q := by
                        refine fw_up (fun c hc113 ih113 => ?_)
                        intro y113  hh113 ey113 eh113
                        subst ey113
                        subst eh113
                        show fwWP mX12_paste (d + 2) 113 [some (aR 12 0), some (aI (s : Int)), some (aI (iy : Int)), some (aI (q9 : Int)), some (aI (ku : Int)), some (aI (nm : Int)), some (aI (c : Int))] [] (fwUc h 49 0 (fwFl (fun j => h 48 0 (60 * s + iy + j)) (h 49 0) c)) Q
                        refine w_iload dX12_paste_113 rfl ?_
                        refine w_iload dX12_paste_115 rfl ?_
                        refine w_icmp_ge 147 dX12_paste_117 (by decide) (by omega) (by omega) (fun c117 => ?_) (fun c117 => ?_)
                        · have ec113 : nm = c := by omega
                          subst ec113
                          refine w_iconst dX12_paste_147 ?_
                          refine w_istore [some (aR 12 0), some (aI (s : Int)), some (aI (iy : Int)), some (aI (q9 : Int)), some (aI (ku : Int)), some (aI (nm : Int)), some (aI 0)] dX12_paste_148 rfl (by decide) ?_
                          have lp150 : ∀ c2 : Nat, c2 ≤ nm → ∀ (y150  : Int) (hh150 : fwH), y150 = (c2 : Int) → hh150 = (fwUc (fwUc h 49 0 (fwFl (fun j => h 48 0 (60 * s + iy + j)) (h 49 0) nm)) 48 0 (psr (h 48 0) (60 * s + iy) (60 * q9 + ku) c2)) → fwWP mX12_paste (d + 2) 150 [some (aR 12 0), some (aI (s : Int)), some (aI (iy : Int)), some (aI (q9 : Int)), some (aI (ku : Int)), some (aI (nm : Int)), some (aI y150)] [] hh150 Q := by
                            refine fw_up (fun c2 hc150 ih150 => ?_)
                            intro y150  hh150 ey150 eh150
                            subst ey150
                            subst eh150
                            show fwWP mX12_paste (d + 2) 150 [some (aR 12 0), some (aI (s : Int)), some (aI (iy : Int)), some (aI (q9 : Int)), some (aI (ku : Int)), some (aI (nm : Int)), some (aI (c2 : Int))] [] (fwUc (fwUc h 49 0 (fwFl (fun j => h 48 0 (60 * s + iy + j)) (h 49 0) nm)) 48 0 (psr (h 48 0) (60 * s + iy) (60 * q9 + ku) c2)) Q
                            refine w_iload dX12_paste_150 rfl ?_
                            refine w_iload dX12_paste_152 rfl ?_
                            refine w_icmp_ge 185 dX12_paste_154 (by decide) (by omega) (by omega) (fun c154 => ?_) (fun c154 => ?_)
                            · have ec150 : nm = c2 := by omega
                              subst ec150
                              refine w_iconst dX12_paste_185 ?_
                              exact w_iretE dX12_paste_186 rfl rfl (k.2.2.2.2 (by omega) (show (h 46 0 s ≠ -1 ∧ h 46 0 q9 ≠ -1) by omega) (show (h 47 0 s = h 47 0 q9) by omega) (by show (0 : Int) ≤ (iy : Int) ∧ 0 ≤ (ku : Int) ∧ 0 ≤ (nm : Int) ∧ (iy : Int) + (nm : Int) ≤ h 46 0 s ∧ (ku : Int) + (nm : Int) ≤ h 46 0 q9; omega) _)
                            · refine w_aload_n dX12_paste_157 rfl ?_
                              refine w_getr 48 0 dX12_paste_158 fl_X12_53 rfl (by decide) ?_
                              refine w_bipush dX12_paste_161 rfl ?_
                              refine w_iload_n dX12_paste_163 rfl ?_
                              refine w_imul dX12_paste_164 ?_
                              refine w_iload dX12_paste_165 rfl ?_
                              refine w_iadd dX12_paste_167 ?_
                              refine w_iload dX12_paste_168 rfl ?_
                              refine w_iadd dX12_paste_170 ?_
                              refine w_aload_n dX12_paste_171 rfl ?_
                              refine w_getr 49 0 dX12_paste_172 fl_X12_57 rfl (by decide) ?_
                              refine w_iload dX12_paste_175 rfl ?_
                              refine w_laldE (v := h 48 0 (60 * s + iy + c2)) dX12_paste_177 rfl (by decide) (by omega) (by omega) (by rw [show ((c2 : Int) : Int).toNat = c2 by omega]; exact if_pos (show c2 < nm by omega)) ?_
                              refine w_last dX12_paste_178 rfl (by decide) (by omega) (by omega) ?_
                              refine w_iinc [some (aR 12 0), some (aI (s : Int)), some (aI (iy : Int)), some (aI (q9 : Int)), some (aI (ku : Int)), some (aI (nm : Int)), some (aI ((c2 : Int) + 1))] dX12_paste_179 rfl rfl (by decide) ?_
                              refine w_goto 150 dX12_paste_182 (by decide) ?_
                              refine ih150 (by omega) _ _ ?_ ?_
                              · exact (by omega)
                              · exact (by rw [fwUp_uc, show (60 * (q9 : Int) + (ku : Int) + (c2 : Int)).toNat = 60 * q9 + ku + c2 by omega]; exact congrArg _ (psr_s _ _ _ _))
                          refine lp150 0 (Nat.zero_le _) _ _ ?_ ?_
                          · exact (by omega)
                          · exact (by rw [psr_0]; exact (fwUc_self _ 48 0).symm)
                        · refine w_aload_n dX12_paste_120 rfl ?_
                          refine w_getr 49 0 dX12_paste_121 fl_X12_57 rfl (by decide) ?_
                          refine w_iload dX12_paste_124 rfl ?_
                          refine w_aload_n dX12_paste_126 rfl ?_
                          refine w_getr 48 0 dX12_paste_127 fl_X12_53 rfl (by decide) ?_
                          refine w_bipush dX12_paste_130 rfl ?_
                          refine w_iload_n dX12_paste_132 rfl ?_
                          refine w_imul dX12_paste_133 ?_
                          refine w_iload_n dX12_paste_134 rfl ?_
                          refine w_iadd dX12_paste_135 ?_
                          refine w_iload dX12_paste_136 rfl ?_
                          refine w_iadd dX12_paste_138 ?_
                          refine w_laldE (v := h 48 0 (60 * s + iy + c)) dX12_paste_139 rfl (by decide) (by omega) (by omega) (by rw [show (((60 * (s : Int)) + (iy : Int)) + (c : Int) : Int).toNat = 60 * s + iy + c by omega]; rfl) ?_
                          refine w_last dX12_paste_140 rfl (by decide) (by omega) (by omega) ?_
                          refine w_iinc [some (aR 12 0), some (aI (s : Int)), some (aI (iy : Int)), some (aI (q9 : Int)), some (aI (ku : Int)), some (aI (nm : Int)), some (aI ((c : Int) + 1))] dX12_paste_141 rfl rfl (by decide) ?_
                          refine w_goto 113 dX12_paste_144 (by decide) ?_
                          refine ih113 (by omega) _ _ ?_ ?_
                          · exact (by omega)
                          · exact (by rw [fwUp_uc, Int.toNat_natCast, ← fwFl_succ])
                      refine lp113 0 (Nat.zero_le _) _ _ ?_ ?_
                      · exact (by omega)
                      · exact (by rw [fwFl_0]; exact (fwUc_self _ 49 0).symm)
                    · refine w_bipush dX12_paste_107 rfl ?_
                      exact w_iretE dX12_paste_109 rfl rfl (k.2.2.2.1 (by omega) (show (h 46 0 s ≠ -1 ∧ h 46 0 q9 ≠ -1) by omega) (show (h 47 0 s = h 47 0 q9) by omega) (show ¬ (0 ≤ y ∧ 0 ≤ u ∧ 0 ≤ m ∧ y + m ≤ h 46 0 s ∧ u + m ≤ h 46 0 q9) by omega))
          · refine w_bipush dX12_paste_55 rfl ?_
            exact w_iretE dX12_paste_57 rfl rfl (k.2.2.1 (by omega) (show (h 46 0 s ≠ -1 ∧ h 46 0 q9 ≠ -1) by omega) (show ¬ (h 47 0 s = h 47 0 q9) by omega))
        · refine w_bipush dX12_paste_37 rfl ?_
          exact w_iretE dX12_paste_39 rfl rfl (k.2.1 (by omega) (show ¬ (h 46 0 s ≠ -1 ∧ h 46 0 q9 ≠ -1) by omega))
    · refine w_bipush dX12_paste_14 rfl ?_
      exact w_iretE dX12_paste_16 rfl rfl (k.1 (by omega))

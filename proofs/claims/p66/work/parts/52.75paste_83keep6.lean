section
/-- a row some of whose places are taken from others of it -/
def psr (f : Nat → Int) (a b c : Nat) : Nat → Int := fun z => if b ≤ z ∧ z < b + c then f (a + (z - b)) else f z
theorem psr_0 (f : Nat → Int) (a b : Nat) : psr f a b 0 = f := by
  funext z
  exact if_neg (by omega)
theorem psr_s (f : Nat → Int) (a b c : Nat) : fwFu (psr f a b c) (b + c) (f (a + c)) = psr f a b (c + 1) := by
  funext z
  unfold fwFu psr
  by_cases e : z = b + c
  · rw [if_pos e, if_pos (by omega), show z - b = c by omega]
  · rw [if_neg e]
    by_cases e2 : b ≤ z ∧ z < b + c
    · rw [if_pos e2, if_pos (by omega)]
    · rw [if_neg e2, if_neg (by omega)]
set_option maxRecDepth 100000 in
set_option maxHeartbeats 4000000 in
theorem c_X12_paste {d : Nat} {h : fwH} {Q : Option fwV → fwH → Prop} (x y z u m : Int) (hx : -2147483648 ≤ x ∧ x < 2147483648) (hy : -2147483648 ≤ y ∧ y < 2147483648) (hz : -2147483648 ≤ z ∧ z < 2147483648) (hu : -2147483648 ≤ u ∧ u < 2147483648) (hm : -2147483648 ≤ m ∧ m < 2147483648) (hmn : ∀ s : Nat, s < 4 → -1 ≤ h 46 0 s ∧ h 46 0 s ≤ 60) (hwd : ∀ s : Nat, s < 4 → 0 ≤ h 47 0 s ∧ h 47 0 s ≤ 3) (k : (¬ ((0 ≤ x ∧ x < 4) ∧ 0 ≤ z ∧ z < 4) → Q (some (aI (-2))) h) ∧ (((0 ≤ x ∧ x < 4) ∧ 0 ≤ z ∧ z < 4) → ¬ (h 46 0 x.toNat ≠ -1 ∧ h 46 0 z.toNat ≠ -1) → Q (some (aI (-6))) h) ∧ (((0 ≤ x ∧ x < 4) ∧ 0 ≤ z ∧ z < 4) → (h 46 0 x.toNat ≠ -1 ∧ h 46 0 z.toNat ≠ -1) → ¬ (h 47 0 x.toNat = h 47 0 z.toNat) → Q (some (aI (-8))) h) ∧ (((0 ≤ x ∧ x < 4) ∧ 0 ≤ z ∧ z < 4) → (h 46 0 x.toNat ≠ -1 ∧ h 46 0 z.toNat ≠ -1) → (h 47 0 x.toNat = h 47 0 z.toNat) → ¬ (0 ≤ y ∧ 0 ≤ u ∧ 0 ≤ m ∧ y + m ≤ h 46 0 x.toNat ∧ u + m ≤ h 46 0 z.toNat) → Q (some (aI (-7))) h) ∧ (((0 ≤ x ∧ x < 4) ∧ 0 ≤ z ∧ z < 4) → (h 46 0 x.toNat ≠ -1 ∧ h 46 0 z.toNat ≠ -1) → (h 47 0 x.toNat = h 47 0 z.toNat) → (0 ≤ y ∧ 0 ≤ u ∧ 0 ≤ m ∧ y + m ≤ h 46 0 x.toNat ∧ u + m ≤ h 46 0 z.toNat) → ∀ F, Q (some (aI 0)) (fwUc (fwUc h 49 0 F) 48 0 (psr (h 48 0) (60 * x.toNat + y.toNat) (60 * z.toNat + u.toNat) m.toNat)))) : fwCt mX12_paste (d + 2) [aR 12 0, aI x, aI y, aI z, aI u, aI m] h Q := by
  refine fwCt_of [some (aR 12 0), some (aI x), some (aI y), some (aI z), some (aI u), some (aI m), none] rfl rfl rfl ?_
  refine w_iload_n dX12_paste_0 rfl ?_
  refine w_callS (d := d + 1) (S := []) [aI x] dX12_paste_1 ml_X12_357 ok_X12_isSlot st_X12_isSlot rfl (Nat.le_of_ble_eq_true rfl) ?_
  refine c_X12_isSlot (d := d) x (by omega) ?_
  show fwWP mX12_paste (d + 2) 4 [some (aR 12 0), some (aI x), some (aI y), some (aI z), some (aI u), some (aI m), none] [aI (fwB (0 ≤ x ∧ x ≤ 3))] h Q
  refine w_ifB_eq 14 dX12_paste_4 (by decide) (fun c4 => ?_) (fun c4 => ?_)
  · refine w_bipush dX12_paste_14 rfl ?_
    exact w_iretE dX12_paste_16 rfl rfl (k.1 (by omega))
  · refine w_iload_n dX12_paste_7 rfl ?_
    refine w_callS (d := d + 1) (S := []) [aI z] dX12_paste_8 ml_X12_357 ok_X12_isSlot st_X12_isSlot rfl (Nat.le_of_ble_eq_true rfl) ?_
    refine c_X12_isSlot (d := d) z (by omega) ?_
    show fwWP mX12_paste (d + 2) 11 [some (aR 12 0), some (aI x), some (aI y), some (aI z), some (aI u), some (aI m), none] [aI (fwB (0 ≤ z ∧ z ≤ 3))] h Q
    refine w_ifB_ne 17 dX12_paste_11 (by decide) (fun c11 => ?_) (fun c11 => ?_)
    · obtain ⟨s, rfl⟩ : ∃ s : Nat, x = (s : Int) := ⟨x.toNat, by omega⟩
      obtain ⟨q9, rfl⟩ : ∃ q9 : Nat, z = (q9 : Int) := ⟨z.toNat, by omega⟩
      have hm1 := hmn s (by omega)
      have hm2 := hmn q9 (by omega)
      have hw1 := hwd s (by omega)
      have hw2 := hwd q9 (by omega)
      refine w_aload_n dX12_paste_17 rfl ?_
      refine w_getr 46 0 dX12_paste_18 fl_X12_47 rfl (by decide) ?_
      refine w_iload_n dX12_paste_21 rfl ?_
      refine w_ialdE (v := h 46 0 s) dX12_paste_22 rfl (by decide) (by omega) (by omega) rfl ?_
      refine w_iconst dX12_paste_23 ?_
      refine w_icmp_eq 37 dX12_paste_24 (by decide) (by omega) (by omega) (fun c24 => ?_) (fun c24 => ?_)
      · refine w_bipush dX12_paste_37 rfl ?_
        exact w_iretE dX12_paste_39 rfl rfl (k.2.1 (by omega) (show ¬ (h 46 0 s ≠ -1 ∧ h 46 0 q9 ≠ -1) by omega))
      · refine w_aload_n dX12_paste_27 rfl ?_
        refine w_getr 46 0 dX12_paste_28 fl_X12_47 rfl (by decide) ?_
        refine w_iload_n dX12_paste_31 rfl ?_
        refine w_ialdE (v := h 46 0 q9) dX12_paste_32 rfl (by decide) (by omega) (by omega) rfl ?_
        refine w_iconst dX12_paste_33 ?_
        refine w_icmp_ne 40 dX12_paste_34 (by decide) (by omega) (by omega) (fun c34 => ?_) (fun c34 => ?_)
        · refine w_aload_n dX12_paste_40 rfl ?_
          refine w_getr 47 0 dX12_paste_41 fl_X12_50 rfl (by decide) ?_
          refine w_iload_n dX12_paste_44 rfl ?_
          refine w_ialdE (v := h 47 0 s) dX12_paste_45 rfl (by decide) (by omega) (by omega) rfl ?_
          refine w_aload_n dX12_paste_46 rfl ?_
          refine w_getr 47 0 dX12_paste_47 fl_X12_50 rfl (by decide) ?_
          refine w_iload_n dX12_paste_50 rfl ?_
          refine w_ialdE (v := h 47 0 q9) dX12_paste_51 rfl (by decide) (by omega) (by omega) rfl ?_
          refine w_icmp_eq 58 dX12_paste_52 (by decide) (by omega) (by omega) (fun c52 => ?_) (fun c52 => ?_)
          · refine w_iload_n dX12_paste_58 rfl ?_
            refine w_if_lt 107 dX12_paste_59 (by decide) (by omega) (fun c59 => ?_) (fun c59 => ?_)
            · refine w_bipush dX12_paste_107 rfl ?_
              exact w_iretE dX12_paste_109 rfl rfl (k.2.2.2.1 (by omega) (show (h 46 0 s ≠ -1 ∧ h 46 0 q9 ≠ -1) by omega) (show (h 47 0 s = h 47 0 q9) by omega) (show ¬ (0 ≤ y ∧ 0 ≤ u ∧ 0 ≤ m ∧ y + m ≤ h 46 0 s ∧ u + m ≤ h 46 0 q9) by omega))
            · refine w_iload dX12_paste_62 rfl ?_
              refine w_if_lt 107 dX12_paste_64 (by decide) (by omega) (fun c64 => ?_) (fun c64 => ?_)
              · refine w_bipush dX12_paste_107 rfl ?_
                exact w_iretE dX12_paste_109 rfl rfl (k.2.2.2.1 (by omega) (show (h 46 0 s ≠ -1 ∧ h 46 0 q9 ≠ -1) by omega) (show (h 47 0 s = h 47 0 q9) by omega) (show ¬ (0 ≤ y ∧ 0 ≤ u ∧ 0 ≤ m ∧ y + m ≤ h 46 0 s ∧ u + m ≤ h 46 0 q9) by omega))
              · refine w_iload dX12_paste_67 rfl ?_
                refine w_if_lt 107 dX12_paste_69 (by decide) (by omega) (fun c69 => ?_) (fun c69 => ?_)
                · refine w_bipush dX12_paste_107 rfl ?_
                  exact w_iretE dX12_paste_109 rfl rfl (k.2.2.2.1 (by omega) (show (h 46 0 s ≠ -1 ∧ h 46 0 q9 ≠ -1) by omega) (show (h 47 0 s = h 47 0 q9) by omega) (show ¬ (0 ≤ y ∧ 0 ≤ u ∧ 0 ≤ m ∧ y + m ≤ h 46 0 s ∧ u + m ≤ h 46 0 q9) by omega))
                · refine w_iload_n dX12_paste_72 rfl ?_
                  refine w_i2l dX12_paste_73 (by omega) ?_
                  refine w_iload dX12_paste_74 rfl ?_
                  refine w_i2l dX12_paste_76 (by omega) ?_
                  refine w_ladd dX12_paste_77 ?_
                  refine w_aload_n dX12_paste_78 rfl ?_
                  refine w_getr 46 0 dX12_paste_79 fl_X12_47 rfl (by decide) ?_
                  refine w_iload_n dX12_paste_82 rfl ?_
                  refine w_ialdE (v := h 46 0 s) dX12_paste_83 rfl (by decide) (by omega) (by omega) rfl ?_
                  refine w_i2l dX12_paste_84 (by omega) ?_
                  refine w_lc_gt 107 dX12_paste_85 dX12_paste_86 (by decide) (by omega) (by omega) (fun c86 => ?_) (fun c86 => ?_)
                  · refine w_bipush dX12_paste_107 rfl ?_
                    exact w_iretE dX12_paste_109 rfl rfl (k.2.2.2.1 (by omega) (show (h 46 0 s ≠ -1 ∧ h 46 0 q9 ≠ -1) by omega) (show (h 47 0 s = h 47 0 q9) by omega) (show ¬ (0 ≤ y ∧ 0 ≤ u ∧ 0 ≤ m ∧ y + m ≤ h 46 0 s ∧ u + m ≤ h 46 0 q9) by omega))
                  · refine w_iload dX12_paste_89 rfl ?_
                    refine w_i2l dX12_paste_91 (by omega) ?_
                    refine w_iload dX12_paste_92 rfl ?_
                    refine w_i2l dX12_paste_94 (by omega) ?_
                    refine w_ladd dX12_paste_95 ?_
                    refine w_aload_n dX12_paste_96 rfl ?_
                    refine w_getr 46 0 dX12_paste_97 fl_X12_47 rfl (by decide) ?_
                    refine w_iload_n dX12_paste_100 rfl ?_
                    refine w_ialdE (v := h 46 0 q9) dX12_paste_101 rfl (by decide) (by omega) (by omega) rfl ?_
                    refine w_i2l dX12_paste_102 (by omega) ?_
                    refine w_lc_le 110 dX12_paste_103 dX12_paste_104 (by decide) (by omega) (by omega) (fun c104 => ?_) (fun c104 => ?_)
                    · obtain ⟨iy, rfl⟩ : ∃ iy : Nat, y = (iy : Int) := ⟨y.toNat, by omega⟩
                      obtain ⟨ku, rfl⟩ : ∃ ku : Nat, u = (ku : Int) := ⟨u.toNat, by omega⟩
                      obtain ⟨nm, rfl⟩ : ∃ nm : Nat, m = (nm : Int) := ⟨m.toNat, by omega⟩
                      refine w_iconst dX12_paste_110 ?_
                      refine w_istore [some (aR 12 0), some (aI (s : Int)), some (aI (iy : Int)), some (aI (q9 : Int)), some (aI (ku : Int)), some (aI (nm : Int)), some (aI 0)] dX12_paste_111 rfl (by decide) ?_
                      have lp113 : ∀ c : Nat, c ≤ nm → ∀ (y113  : Int) (hh113 : fwH), y113 = (c : Int) → hh113 = (fwUc h 49 0 (fwFl (fun j => h 48 0 (60 * s + iy + j)) (h 49 0) c)) → fwWP mX12_paste (d + 2) 113 [some (aR 12 0), some (aI (s : Int)), some (aI (iy : Int)), some (aI (q9 : Int)), some (aI (ku : Int)), some (aI (nm : Int)), some (aI y113)] [] hh113 Q := by
                        refine fw_up (fun c hc113 ih113 => ?_)
                        intro y113  hh113 ey113 eh113
                        subst ey113
                        subst eh113
                        show fwWP mX12_paste (d + 2) 113 [some (aR 12 0), some (aI (s : Int)), some (aI (iy : Int)), some (aI (q9 : Int)), some (aI (ku : Int)), some (aI (nm : Int)), some (aI (c : Int))] [] (fwUc h 49 0 (fwFl (fun j => h 48 0 (60 * s + iy + j)) (h 49 0) c)) Q
                        refine w_iload dX12_paste_113 rfl ?_
                        refine w_iload dX12_paste_115 rfl ?_
                        refine w_icmp_ge 147 dX12_paste_117 (by decide) (by omega) (by omega) (fun c117 => ?_) (fun c117 => ?_)
                        · have ec113 : nm = c := by omega
                          subst ec113
                          refine w_iconst dX12_paste_147 ?_
                          refine w_istore [some (aR 12 0), some (aI (s : Int)), some (aI (iy : Int)), some (aI (q9 : Int)), some (aI (ku : Int)), some (aI (nm : Int)), some (aI 0)] dX12_paste_148 rfl (by decide) ?_
                          have lp150 : ∀ c2 : Nat, c2 ≤ nm → ∀ (y150  : Int) (hh150 : fwH), y150 = (c2 : Int) → hh150 = (fwUc (fwUc h 49 0 (fwFl (fun j => h 48 0 (60 * s + iy + j)) (h 49 0) nm)) 48 0 (psr (h 48 0) (60 * s + iy) (60 * q9 + ku) c2)) → fwWP mX12_paste (d + 2) 150 [some (aR 12 0), some (aI (s : Int)), some (aI (iy : Int)), some (aI (q9 : Int)), some (aI (ku : Int)), some (aI (nm : Int)), some (aI y150)] [] hh150 Q := by
                            refine fw_up (fun c2 hc150 ih150 => ?_)
                            intro y150  hh150 ey150 eh150
                            subst ey150
                            subst eh150
                            show fwWP mX12_paste (d + 2) 150 [some (aR 12 0), some (aI (s : Int)), some (aI (iy : Int)), some (aI (q9 : Int)), some (aI (ku : Int)), some (aI (nm : Int)), some (aI (c2 : Int))] [] (fwUc (fwUc h 49 0 (fwFl (fun j => h 48 0 (60 * s + iy + j)) (h 49 0) nm)) 48 0 (psr (h 48 0) (60 * s + iy) (60 * q9 + ku) c2)) Q
                            refine w_iload dX12_paste_150 rfl ?_
                            refine w_iload dX12_paste_152 rfl ?_
                            refine w_icmp_ge 185 dX12_paste_154 (by decide) (by omega) (by omega) (fun c154 => ?_) (fun c154 => ?_)
                            · have ec150 : nm = c2 := by omega
                              subst ec150
                              refine w_iconst dX12_paste_185 ?_
                              exact w_iretE dX12_paste_186 rfl rfl (k.2.2.2.2 (by omega) (show (h 46 0 s ≠ -1 ∧ h 46 0 q9 ≠ -1) by omega) (show (h 47 0 s = h 47 0 q9) by omega) (by show (0 : Int) ≤ (iy : Int) ∧ 0 ≤ (ku : Int) ∧ 0 ≤ (nm : Int) ∧ (iy : Int) + (nm : Int) ≤ h 46 0 s ∧ (ku : Int) + (nm : Int) ≤ h 46 0 q9; omega) _)
                            · refine w_aload_n dX12_paste_157 rfl ?_
                              refine w_getr 48 0 dX12_paste_158 fl_X12_53 rfl (by decide) ?_
                              refine w_bipush dX12_paste_161 rfl ?_
                              refine w_iload_n dX12_paste_163 rfl ?_
                              refine w_imul dX12_paste_164 ?_
                              refine w_iload dX12_paste_165 rfl ?_
                              refine w_iadd dX12_paste_167 ?_
                              refine w_iload dX12_paste_168 rfl ?_
                              refine w_iadd dX12_paste_170 ?_
                              refine w_aload_n dX12_paste_171 rfl ?_
                              refine w_getr 49 0 dX12_paste_172 fl_X12_57 rfl (by decide) ?_
                              refine w_iload dX12_paste_175 rfl ?_
                              refine w_laldE (v := h 48 0 (60 * s + iy + c2)) dX12_paste_177 rfl (by decide) (by omega) (by omega) (by rw [show ((c2 : Int) : Int).toNat = c2 by omega]; exact if_pos (show c2 < nm by omega)) ?_
                              refine w_last dX12_paste_178 rfl (by decide) (by omega) (by omega) ?_
                              refine w_iinc [some (aR 12 0), some (aI (s : Int)), some (aI (iy : Int)), some (aI (q9 : Int)), some (aI (ku : Int)), some (aI (nm : Int)), some (aI ((c2 : Int) + 1))] dX12_paste_179 rfl rfl (by decide) ?_
                              refine w_goto 150 dX12_paste_182 (by decide) ?_
                              refine ih150 (by omega) _ _ ?_ ?_
                              · exact (by omega)
                              · exact (by rw [fwUp_uc, show (60 * (q9 : Int) + (ku : Int) + (c2 : Int)).toNat = 60 * q9 + ku + c2 by omega]; exact congrArg _ (psr_s _ _ _ _))
                          refine lp150 0 (Nat.zero_le _) _ _ ?_ ?_
                          · exact (by omega)
                          · exact (by rw [psr_0]; exact (fwUc_self _ 48 0).symm)
                        · refine w_aload_n dX12_paste_120 rfl ?_
                          refine w_getr 49 0 dX12_paste_121 fl_X12_57 rfl (by decide) ?_
                          refine w_iload dX12_paste_124 rfl ?_
                          refine w_aload_n dX12_paste_126 rfl ?_
                          refine w_getr 48 0 dX12_paste_127 fl_X12_53 rfl (by decide) ?_
                          refine w_bipush dX12_paste_130 rfl ?_
                          refine w_iload_n dX12_paste_132 rfl ?_
                          refine w_imul dX12_paste_133 ?_
                          refine w_iload_n dX12_paste_134 rfl ?_
                          refine w_iadd dX12_paste_135 ?_
                          refine w_iload dX12_paste_136 rfl ?_
                          refine w_iadd dX12_paste_138 ?_
                          refine w_laldE (v := h 48 0 (60 * s + iy + c)) dX12_paste_139 rfl (by decide) (by omega) (by omega) (by rw [show (((60 * (s : Int)) + (iy : Int)) + (c : Int) : Int).toNat = 60 * s + iy + c by omega]; rfl) ?_
                          refine w_last dX12_paste_140 rfl (by decide) (by omega) (by omega) ?_
                          refine w_iinc [some (aR 12 0), some (aI (s : Int)), some (aI (iy : Int)), some (aI (q9 : Int)), some (aI (ku : Int)), some (aI (nm : Int)), some (aI ((c : Int) + 1))] dX12_paste_141 rfl rfl (by decide) ?_
                          refine w_goto 113 dX12_paste_144 (by decide) ?_
                          refine ih113 (by omega) _ _ ?_ ?_
                          · exact (by omega)
                          · exact (by rw [fwUp_uc, Int.toNat_natCast, ← fwFl_succ])
                      refine lp113 0 (Nat.zero_le _) _ _ ?_ ?_
                      · exact (by omega)
                      · exact (by rw [fwFl_0]; exact (fwUc_self _ 49 0).symm)
                    · refine w_bipush dX12_paste_107 rfl ?_
                      exact w_iretE dX12_paste_109 rfl rfl (k.2.2.2.1 (by omega) (show (h 46 0 s ≠ -1 ∧ h 46 0 q9 ≠ -1) by omega) (show (h 47 0 s = h 47 0 q9) by omega) (show ¬ (0 ≤ y ∧ 0 ≤ u ∧ 0 ≤ m ∧ y + m ≤ h 46 0 s ∧ u + m ≤ h 46 0 q9) by omega))
          · refine w_bipush dX12_paste_55 rfl ?_
            exact w_iretE dX12_paste_57 rfl rfl (k.2.2.1 (by omega) (show (h 46 0 s ≠ -1 ∧ h 46 0 q9 ≠ -1) by omega) (show ¬ (h 47 0 s = h 47 0 q9) by omega))
        · refine w_bipush dX12_paste_37 rfl ?_
          exact w_iretE dX12_paste_39 rfl rfl (k.2.1 (by omega) (show ¬ (h 46 0 s ≠ -1 ∧ h 46 0 q9 ≠ -1) by omega))
    · refine w_bipush dX12_paste_14 rfl ?_
      exact w_iretE dX12_paste_16 rfl rfl (k.1 (by omega))
end
section
theorem cut_sh (v : Int) (j : Int64) (n : Nat) (hj : (j.toBitVec.smod 64).toNat = n) : ((Int64.ofInt v <<< j) >>> j).toInt = ((((v % 18446744073709551616).toNat * 2 ^ n : Nat) : Int).bmod 18446744073709551616) / ((2 ^ n : Nat) : Int) := by
  rw [← Int64.toInt_toBitVec, Int64.toBitVec_shiftRight, Int64.toBitVec_shiftLeft, BitVec.toInt_sshiftRight', BitVec.shiftLeft_eq', BitVec.toInt_shiftLeft, hj, Int64.toBitVec_ofInt, BitVec.toNat_ofInt, Nat.shiftLeft_eq, Int.shiftRight_eq_div_pow]
  rfl
theorem cut_md (v : Int) (w : Int) (j : Int64) (n : Nat) (hw : (Int32.ofInt (64 - fwShl 8 w)).toInt64 &&& 63 = j) (hj : (j.toBitVec.smod 64).toNat = n) : mdCut v w = ((((v % 18446744073709551616).toNat * 2 ^ n : Nat) : Int).bmod 18446744073709551616) / ((2 ^ n : Nat) : Int) := by
  unfold mdCut fwLshr fwLshl
  rw [hw, Int64.ofInt_toInt]
  exact cut_sh v j n hj
theorem cut_eq {v w : Int} (hv : -9223372036854775808 ≤ v ∧ v < 9223372036854775808) (hw : 0 ≤ w ∧ w ≤ 3) : mdCut v w = mCut v w := by
  rcases (show w = 0 ∨ w = 1 ∨ w = 2 ∨ w = 3 by omega) with rfl | rfl | rfl | rfl
  · rw [cut_md v 0 56 56 (by decide) (by decide), mCut, if_pos rfl, fwB8, Int32.toInt_toInt8, Int32.toInt_ofInt]
    show _ = ((v.bmod 4294967296).bmod 256)
    rw [Int.bmod_def, Int.bmod_def, Int.bmod_def]
    have e : (((v % 18446744073709551616).toNat * 2 ^ 56 : Nat) : Int) = (v % 18446744073709551616) * 72057594037927936 := by
      rw [show (2 : Nat) ^ 56 = 72057594037927936 from rfl]; omega
    rw [e, show ((2 ^ 56 : Nat) : Int) = 72057594037927936 from rfl]
    omega
  · rw [cut_md v 1 48 48 (by decide) (by decide), mCut, if_neg (by decide), if_pos rfl, fwS16, Int32.toInt_toInt16, Int32.toInt_ofInt]
    show _ = ((v.bmod 4294967296).bmod 65536)
    rw [Int.bmod_def, Int.bmod_def, Int.bmod_def]
    have e : (((v % 18446744073709551616).toNat * 2 ^ 48 : Nat) : Int) = (v % 18446744073709551616) * 281474976710656 := by
      rw [show (2 : Nat) ^ 48 = 281474976710656 from rfl]; omega
    rw [e, show ((2 ^ 48 : Nat) : Int) = 281474976710656 from rfl]
    omega
  · rw [cut_md v 2 32 32 (by decide) (by decide), mCut, if_neg (by decide), if_neg (by decide), if_pos rfl, fwI32, Int32.toInt_ofInt]
    show _ = v.bmod 4294967296
    rw [Int.bmod_def, Int.bmod_def]
    have e : (((v % 18446744073709551616).toNat * 2 ^ 32 : Nat) : Int) = (v % 18446744073709551616) * 4294967296 := by
      rw [show (2 : Nat) ^ 32 = 4294967296 from rfl]; omega
    rw [e, show ((2 ^ 32 : Nat) : Int) = 4294967296 from rfl]
    omega
  · rw [cut_md v 3 0 0 (by decide) (by decide), mCut, if_neg (by decide), if_neg (by decide), if_neg (by decide)]
    rw [Int.bmod_def]
    have e : (((v % 18446744073709551616).toNat * 2 ^ 0 : Nat) : Int) = (v % 18446744073709551616) := by
      rw [show (2 : Nat) ^ 0 = 1 from rfl]; omega
    rw [e, show ((2 ^ 0 : Nat) : Int) = 1 from rfl]
    omega
end
section
def eq10 (H H' : Nat → Int) : Prop := ∀ c : Nat, c < 10 → H c = H' c
theorem mTop_cg {H H' : Nat → Int} (e : eq10 H H') (ls : Int) : ∀ n : Nat, n ≤ 10 → mTop H ls n = mTop H' ls n := by
  intro n
  induction n with
  | zero => intro _; rfl
  | succ n ih =>
    intro hn
    have h1 := ih (by omega)
    have h2 := mTop_rng H' ls n
    have e2 : H (mTop H' ls n).toNat = H' (mTop H' ls n).toNat := e _ (by omega)
    rw [mTop, mTop, h1, e2, e n (by omega)]
theorem mLow_cg {H H' : Nat → Int} (e : eq10 H H') (ls : Int) {n : Nat} (hn : n ≤ 10) : eq10 (mLow n H ls) (mLow n H' ls) := by
  intro c hc
  have h2 := mTop_rng H' ls n
  have e2 : H (mTop H' ls n).toNat = H' (mTop H' ls n).toNat := e _ (by omega)
  unfold mLow
  rw [mTop_cg e ls n hn, e2]
  split
  · unfold fwFu
    rw [e c hc]
  · exact e c hc
theorem hOf_cg {H H' : Nat → Int} (e : eq10 H H') {n : Int} (hn : n ≤ 10) (x : Int) : hOf n H x = hOf n H' x := by
  unfold hOf
  split
  · exact e _ (by omega)
  · rfl
theorem mDown_cg {H H' : Nat → Int} (e : eq10 H H') {n : Int} (hn : n ≤ 10) (x sl : Int) : mDown n H x sl = mDown n H' x sl := by
  unfold mDown
  simp only [hOf_cg e hn]
theorem mDesc_cg {H H' : Nat → Int} (e : eq10 H H') {n : Int} (hn : n ≤ 10) (sl : Int) : ∀ (f : Nat) (x : Int), mDesc n H sl f x = mDesc n H' sl f x := by
  intro f
  induction f with
  | zero => intro x; rfl
  | succ f ih => intro x; rw [mDesc, mDesc, mDown_cg e hn, ih]
theorem mStay_cg {H H' : Nat → Int} (e : eq10 H H') {n : Int} (hn : n ≤ 10) (rs x : Int) : mStay n H rs x = mStay n H' rs x := by
  unfold mStay
  rw [mDesc_cg e hn, hOf_cg e hn]
theorem stp_cg {H H' : Nat → Int} (e : eq10 H H') {n : Int} (hn : 0 ≤ n ∧ n ≤ 10) (ls rs a : Int) (ha : 0 ≤ a ∧ a ≤ n) : eq10 (stp n ls rs H a) (stp n ls rs H' a) := by
  unfold stp
  split
  · exact mLow_cg e ls (by omega)
  · rename_i q
    rw [mStay_cg e hn.2]
    intro c hc
    unfold mRs
    split
    · exact e c hc
    · rename_i q2
      have h3 := mStay_rng (n := n) H' (rs := rs) (x := a - 1) hn (by omega)
      unfold fwFu
      rw [e c hc, e _ (show (mStay n H' rs (a - 1)).toNat < 10 by omega)]
/-- pictures that say the same of the heights up to some act -/
theorem rep_cg {W W' : Nat → Int} (h0 : W' 0 = W 0) (h4 : W' 4 = W 4) (h2 : W' 2 = W 2) (h9 : ∀ c : Nat, c < 10 → W' (9 + c) = W (9 + c)) (hn : 0 ≤ W 0 ∧ W 0 ≤ 10) : ∀ k : Nat, (∀ i : Nat, i < k → W' (75 + i) = W (75 + i) ∧ 0 ≤ W (75 + i) ∧ W (75 + i) ≤ W 0) → eq10 (rep W' k) (rep W k) := by
  intro k
  induction k with
  | zero => intro _ c hc; exact h9 c hc
  | succ k ih =>
    intro hk
    have h1 := ih (fun i hi => hk i (by omega))
    obtain ⟨k1, k2, k3⟩ := hk k (by omega)
    rw [rep, rep, h0, h4, h2, k1]
    exact stp_cg h1 hn _ _ _ ⟨k2, k3⟩
/-- a record of an act takes it back -/
def rcd (n : Int) (W : Nat → Int) (i : Nat) (a : Int) : Prop := (-20 ≤ a ∧ a ≤ 20) ∧ (0 ≤ mBackC a ∧ mBackC a < n) ∧ a ≠ 0 ∧ ∀ z : Nat, (z : Int) < n → rep W i z = if z = (mBackC a).toNat then rep W (i + 1) z + mBackD a else rep W (i + 1) z
/-- a MOUNTAIN's six rows and a picture of it -/
def mPic (r3 r4 r5 r17 r18 r21 W : Nat → Int) : Prop :=
  ((0 ≤ r3 6 ∧ r3 6 ≤ 1000) ∧ (0 ≤ r5 3 ∧ r5 3 ≤ 8) ∧ (0 ≤ r4 1 ∧ r4 1 ≤ 10) ∧ (0 ≤ r4 2 ∧ r4 2 ≤ 40) ∧ (0 ≤ r4 3 ∧ r4 3 ≤ 40) ∧ (r4 4 = 0 ∨ r4 4 = 1) ∧ (∀ c : Nat, c < 10 → 0 ≤ r17 c ∧ r17 c ≤ 99) ∧ (0 < r3 6 → 3 ≤ r4 1) ∧ (r3 6 = 0 → r4 1 = 0 ∧ r5 3 = 0 ∧ r3 3 = 0) ∧ (0 ≤ r3 4 ∧ r3 4 ≤ 999) ∧ (0 < r3 6 → 0 ≤ r3 5 ∧ r3 5 < r4 1) ∧ (0 ≤ r3 3 ∧ r3 3 ≤ 60))
  ∧ (∀ f : Nat, f < 8 → (0 ≤ r18 (7 * f) ∧ r18 (7 * f) < 10) ∧ (0 ≤ r18 (7 * f + 1) ∧ r18 (7 * f + 1) ≤ 99) ∧ (0 ≤ r18 (7 * f + 2) ∧ r18 (7 * f + 2) ≤ 9) ∧ (0 ≤ r18 (7 * f + 3) ∧ r18 (7 * f + 3) ≤ 9) ∧ (0 ≤ r18 (7 * f + 4) ∧ r18 (7 * f + 4) ≤ 9) ∧ (0 ≤ r18 (7 * f + 5) ∧ r18 (7 * f + 5) ≤ 7) ∧ (0 ≤ r18 (7 * f + 6) ∧ r18 (7 * f + 6) ≤ 255))
  ∧ (W 0 = r4 1 ∧ W 1 = r4 2 ∧ W 2 = r4 3 ∧ W 3 = r3 4 ∧ W 4 = r4 4 ∧ W 5 = r3 5 ∧ W 6 = r5 3 ∧ W 7 = r3 6 ∧ W 8 = r3 3 ∧ (∀ j : Nat, j < 56 → W (19 + j) = r18 j) ∧ (∀ f : Nat, (f : Int) < r5 3 → r18 (7 * f) < r4 1) ∧ (0 < r3 6 → 1 ≤ r4 3 ∧ 1 ≤ r3 4))
  ∧ ((∀ i : Nat, (i : Int) ≤ r3 3 → ∀ c : Nat, c < 10 → 0 ≤ rep W i c ∧ rep W i c ≤ 99) ∧ (∀ i : Nat, (i : Int) < r3 3 → 0 ≤ W (75 + i) ∧ W (75 + i) ≤ r4 1) ∧ hiR (r4 1) (rep W (r3 3).toNat) r17)
  ∧ (∀ i : Nat, (i : Int) < r3 3 → rcd (r4 1) W i (r21 i))
/-- what stands between two calls -/
def jI (h : fwH) : Prop := cOk h ∧ mPic (h 3 0) (h 4 0) (h 5 0) (h 17 0) (h 18 0) (h 21 0) (h 36 0) ∧ jS h h
  ∧ (∀ k : Nat, k < 3 → (h 23 0 k = 0 ∨ h 23 0 k = 1) ∧ h 38 0 k = h 23 0 k ∧ (h 23 0 k = 1 → mPic (h 3 (2 + k)) (h 4 (2 + k)) (h 5 (2 + k)) (h 17 (2 + k)) (h 18 (2 + k)) (h 21 (2 + k)) (fun s => h 37 0 (135 * k + s))))
  ∧ (h 12 0 5 = h 1 0 1 ∧ (∀ p : Nat, (p : Int) < h 1 0 1 → h 39 0 p = h 13 0 p) ∧ (∀ p : Nat, p < 900 → -128 ≤ h 39 0 p ∧ h 39 0 p < 128))
  ∧ (h 12 0 12 = h 2 0 6 ∧ h 12 0 13 = h 2 0 7) ∧ rHg (h 17 1)
theorem jI_F {e : fwH} (I : jI e) : jF e e := I.2.1.2.2.1
theorem jI_A {e : fwH} (I : jI e) : jA e e := I.2.1.2.2.2.1
theorem jI_S {h : fwH} (I : jI h) : jS h h := I.2.2.1
theorem jI_sc {h : fwH} (I : jI h) : sc h := I.1.2.2.2.2.2.2.2.2.2.2.2
/-- a question keeps it -/
theorem jI_scr {h g : fwH} (I : jI h) (a : scr h g) : jI g := by
  have r : ∀ x y, fwScr x y = false → x ≠ 12 → g x y = h x y := a.1
  obtain ⟨i1, i2, i3, i4, ⟨i5, i6, i7⟩, ⟨i8, i9⟩, i10⟩ := I
  refine ⟨cOk_scr i1 a, ?_, ?_, ?_, ?_, ?_, ?_⟩
  · rw [r 3 0 rfl (by decide), r 4 0 rfl (by decide), r 5 0 rfl (by decide), r 17 0 rfl (by decide), r 18 0 rfl (by decide), r 21 0 rfl (by decide), r 36 0 rfl (by decide)]
    exact i2
  · unfold jS
    rw [r 46 0 rfl (by decide), r 47 0 rfl (by decide), r 48 0 rfl (by decide), r 34 0 rfl (by decide), r 35 0 rfl (by decide)]
    intro s hs
    rw [r 33 s rfl (by decide)]
    exact i3 s hs
  · intro k hk
    have f4 : fwScr 4 (2 + k) = false := by rcases (show k = 0 ∨ k = 1 ∨ k = 2 by omega) with rfl | rfl | rfl <;> rfl
    have f17 : fwScr 17 (2 + k) = false := by rcases (show k = 0 ∨ k = 1 ∨ k = 2 by omega) with rfl | rfl | rfl <;> rfl
    rw [r 23 0 rfl (by decide), r 38 0 rfl (by decide), r 37 0 rfl (by decide), r 3 (2 + k) rfl (by decide), r 4 (2 + k) f4 (by decide), r 5 (2 + k) rfl (by decide), r 17 (2 + k) f17 (by decide), r 18 (2 + k) rfl (by decide), r 21 (2 + k) rfl (by decide)]
    exact i4 k hk
  · rw [r 1 0 rfl (by decide), r 39 0 rfl (by decide), r 13 0 rfl (by decide), a.2.1.1]
    exact ⟨i5, i6, i7⟩
  · rw [r 2 0 rfl (by decide), a.2.1.2.1, a.2.1.2.2]
    exact ⟨i8, i9⟩
  · rw [r 17 1 rfl (by decide)]
    exact i10
end
section
theorem cOk_of {h : fwH} {W : Nat → Int} (m : mPic (h 3 0) (h 4 0) (h 5 0) (h 17 0) (h 18 0) (h 21 0) W) (s : sOk h) (t : tOk h) (c : sc h) : cOk h := by
  obtain ⟨⟨a1, a2, a3, a4, a5, a6, a7, a8, a9, a10, a11, a12⟩, b, -, -, -⟩ := m
  exact ⟨a1, ⟨a2, b⟩, ⟨a3, a4, a5, a6, fun c hc => by have := a7 c hc; omega⟩, a7, a8, a9, a10, a11, a12, s, t, c⟩
def isSl (a : Nat) : Prop := (33 ≤ a ∧ a ≤ 35) ∨ (46 ≤ a ∧ a ≤ 49)
/-- acts on SLOTS alone -/
theorem jI_sl {h g : fwH} (I : jI h) (r : ∀ a b, ¬ isSl a → g a b = h a b) (s : sOk g) (S : jS g g) : jI g := by
  have q : ∀ a b, ¬ isSl a → g a b = h a b := r
  have n : ∀ a : Nat, a < 33 ∨ (36 ≤ a ∧ a < 46) → ¬ isSl a := fun a ha z => by unfold isSl at z; omega
  obtain ⟨i1, i2, i3, i4, i5, i6, i7⟩ := I
  obtain ⟨j1, j2, j3, j4, j5, j6, j7, j8, j9, j10, j11, j12⟩ := i1
  have m : mPic (g 3 0) (g 4 0) (g 5 0) (g 17 0) (g 18 0) (g 21 0) (g 36 0) := by
    rw [q 3 0 (n _ (by omega)), q 4 0 (n _ (by omega)), q 5 0 (n _ (by omega)), q 17 0 (n _ (by omega)), q 18 0 (n _ (by omega)), q 21 0 (n _ (by omega)), q 36 0 (n _ (by omega))]
    exact i2
  refine ⟨cOk_of m s ?_ ?_, m, S, ?_, ?_, ?_, ?_⟩
  · unfold tOk
    rw [q 1 0 (n _ (by omega))]
    exact j11
  · unfold sc
    rw [q 25 0 (n _ (by omega)), q 8 0 (n _ (by omega))]
    exact j12
  · intro k hk
    rw [q 23 0 (n _ (by omega)), q 38 0 (n _ (by omega)), q 37 0 (n _ (by omega)), q 3 _ (n _ (by omega)), q 4 _ (n _ (by omega)), q 5 _ (n _ (by omega)), q 17 _ (n _ (by omega)), q 18 _ (n _ (by omega)), q 21 _ (n _ (by omega))]
    exact i4 k hk
  · rw [q 1 0 (n _ (by omega)), q 39 0 (n _ (by omega)), q 13 0 (n _ (by omega)), q 12 0 (n _ (by omega))]
    exact i5
  · rw [q 2 0 (n _ (by omega)), q 12 0 (n _ (by omega))]
    exact i6
  · rw [q 17 1 (n _ (by omega))]
    exact i7
theorem fwUc_ns {h : fwH} {k i : Nat} {f : Nat → Int} (hk : isSl k) : ∀ a b, ¬ isSl a → fwUc h k i f a b = h a b := fun a b ha => fwUc_ne (fun z => ha (z.1 ▸ hk))
theorem fwUp_ns {h : fwH} {k i j : Nat} {x : Int} (hk : isSl k) : ∀ a b, ¬ isSl a → fwUp h k i j x a b = h a b := fun a b ha => by
  funext s
  show (if a = k ∧ b = i ∧ s = j then x else h a b s) = h a b s
  exact if_neg (fun (z : a = k ∧ b = i ∧ s = j) => ha (z.1 ▸ hk))
theorem ns_tr {h g f : fwH} (a : ∀ x y, ¬ isSl x → g x y = h x y) (b : ∀ x y, ¬ isSl x → f x y = g x y) : ∀ x y, ¬ isSl x → f x y = h x y := fun x y p => (b x y p).trans (a x y p)
theorem mCut_rng {v w : Int} (hv : -9223372036854775808 ≤ v ∧ v < 9223372036854775808) : -9223372036854775808 ≤ mCut v w ∧ mCut v w < 9223372036854775808 := by
  have b8 : ∀ x : Int, -128 ≤ fwB8 x ∧ fwB8 x < 128 := fun x => by
    unfold fwB8
    rw [Int32.toInt_toInt8]
    have := Int.bmod_lt (x := (Int32.ofInt x).toInt) (m := 256) (by decide)
    have := Int.le_bmod (x := (Int32.ofInt x).toInt) (m := 256) (by decide)
    show -128 ≤ Int.bmod _ 256 ∧ Int.bmod _ 256 < 128
    omega
  have b16 : ∀ x : Int, -32768 ≤ fwS16 x ∧ fwS16 x < 32768 := fun x => by
    unfold fwS16
    rw [Int32.toInt_toInt16]
    have := Int.bmod_lt (x := (Int32.ofInt x).toInt) (m := 65536) (by decide)
    have := Int.le_bmod (x := (Int32.ofInt x).toInt) (m := 65536) (by decide)
    show -32768 ≤ Int.bmod _ 65536 ∧ Int.bmod _ 65536 < 32768
    omega
  have b32 : ∀ x : Int, -2147483648 ≤ fwI32 x ∧ fwI32 x < 2147483648 := fun x => by
    unfold fwI32
    rw [Int32.toInt_ofInt]
    have := Int.bmod_lt (x := x) (m := 4294967296) (by decide)
    have := Int.le_bmod (x := x) (m := 4294967296) (by decide)
    show _ ≤ Int.bmod x 4294967296 ∧ Int.bmod x 4294967296 < _
    omega
  have h1 := b8 v
  have h2 := b16 v
  have h3 := b32 v
  unfold mCut
  split
  · omega
  · split
    · omega
    · split <;> omega
/-- row -/
theorem jI_row {h : fwH} (I : jI h) {s : Nat} {y z : Int} (hs : s < 4) (hy : 0 ≤ y ∧ y < 4) (hz : 0 ≤ z ∧ z ≤ 60) : jI (fwUc (fwUp (fwUp (fwUc (fwUp (fwUp h 34 0 s y) 35 0 s z) 33 s (fun _ => 0)) 46 0 s z) 47 0 s y) 48 0 (fun j => if 60 * s ≤ j ∧ j < 60 * s + 60 then 0 else h 48 0 j)) := by
  have l34 : isSl 34 := by unfold isSl; omega
  have l35 : isSl 35 := by unfold isSl; omega
  have l33 : isSl 33 := by unfold isSl; omega
  have l46 : isSl 46 := by unfold isSl; omega
  have l47 : isSl 47 := by unfold isSl; omega
  have l48 : isSl 48 := by unfold isSl; omega
  have S := jI_S I
  have O : sOk h := I.1.2.2.2.2.2.2.2.2.2.1
  refine jI_sl I (ns_tr (ns_tr (ns_tr (ns_tr (ns_tr (fwUp_ns l34) (fwUp_ns l35)) (fwUc_ns l33)) (fwUp_ns l46)) (fwUp_ns l47)) (fwUc_ns l48)) ?_ ?_
  · intro t ht
    obtain ⟨o1, o2, o3⟩ := O t ht
    refine ⟨?_, ?_, fun j hj => ?_⟩
    · show -1 ≤ (if 35 = 35 ∧ 0 = 0 ∧ t = s then z else h 35 0 t) ∧ (if 35 = 35 ∧ 0 = 0 ∧ t = s then z else h 35 0 t) ≤ 60
      split <;> omega
    · show 0 ≤ (if 34 = 34 ∧ 0 = 0 ∧ t = s then y else h 34 0 t) ∧ (if 34 = 34 ∧ 0 = 0 ∧ t = s then y else h 34 0 t) ≤ 3
      split <;> omega
    · have := o3 j hj
      show -9223372036854775808 ≤ (if 33 = 33 ∧ t = s then (fun _ => 0) else h 33 t) j ∧ (if 33 = 33 ∧ t = s then (fun _ => 0) else h 33 t) j < 9223372036854775808
      by_cases e : t = s
      · rw [if_pos ⟨rfl, e⟩]; omega
      · rw [if_neg (fun q => e q.2)]; exact this
  · intro t ht
    obtain ⟨o1, o2, o3⟩ := S t ht
    refine ⟨?_, ?_, fun j hj => ?_⟩
    · show (if 46 = 46 ∧ 0 = 0 ∧ t = s then z else h 46 0 t) = (if 35 = 35 ∧ 0 = 0 ∧ t = s then z else h 35 0 t)
      by_cases e : t = s
      · rw [if_pos ⟨rfl, rfl, e⟩, if_pos ⟨rfl, rfl, e⟩]
      · rw [if_neg (fun q => e q.2.2), if_neg (fun q => e q.2.2)]; exact o1
    · show (if 47 = 47 ∧ 0 = 0 ∧ t = s then y else h 47 0 t) = (if 34 = 34 ∧ 0 = 0 ∧ t = s then y else h 34 0 t)
      by_cases e : t = s
      · rw [if_pos ⟨rfl, rfl, e⟩, if_pos ⟨rfl, rfl, e⟩]
      · rw [if_neg (fun q => e q.2.2), if_neg (fun q => e q.2.2)]; exact o2
    · show (if 60 * s ≤ 60 * t + j ∧ 60 * t + j < 60 * s + 60 then 0 else h 48 0 (60 * t + j)) = (if 33 = 33 ∧ t = s then (fun _ => 0) else h 33 t) j
      by_cases e : t = s
      · rw [if_pos (by omega), if_pos ⟨rfl, e⟩]
      · rw [if_neg (by omega), if_neg (fun q => e q.2)]; exact o3 j hj
/-- write -/
theorem jI_write {h : fwH} (I : jI h) {s i : Nat} {v : Int} (hs : s < 4) (hi : i < 60) (hv : -9223372036854775808 ≤ v ∧ v < 9223372036854775808) : jI (fwUp (fwUp h 33 s i (mCut v (h 34 0 s))) 48 0 (60 * s + i) (mdCut v (h 47 0 s))) := by
  have l33 : isSl 33 := by unfold isSl; omega
  have l48 : isSl 48 := by unfold isSl; omega
  have S := jI_S I
  have O : sOk h := I.1.2.2.2.2.2.2.2.2.2.1
  have ec : mdCut v (h 47 0 s) = mCut v (h 34 0 s) := by rw [(S s hs).2.1]; exact cut_eq hv (by have := (O s hs).2.1; omega)
  have hr := mCut_rng (w := h 34 0 s) hv
  rw [ec]
  generalize mCut v (h 34 0 s) = u at hr ⊢
  refine jI_sl I (ns_tr (fwUp_ns l33) (fwUp_ns l48)) ?_ ?_
  · intro t ht
    obtain ⟨o1, o2, o3⟩ := O t ht
    refine ⟨o1, o2, fun j hj => ?_⟩
    have := o3 j hj
    show -9223372036854775808 ≤ (if 33 = 33 ∧ t = s ∧ j = i then u else h 33 t j) ∧ (if 33 = 33 ∧ t = s ∧ j = i then u else h 33 t j) < 9223372036854775808
    split <;> omega
  · intro t ht
    obtain ⟨o1, o2, o3⟩ := S t ht
    refine ⟨o1, o2, fun j hj => ?_⟩
    show (if 48 = 48 ∧ 0 = 0 ∧ 60 * t + j = 60 * s + i then u else h 48 0 (60 * t + j)) = (if 33 = 33 ∧ t = s ∧ j = i then u else h 33 t j)
    by_cases e : t = s ∧ j = i
    · rw [if_pos ⟨rfl, rfl, by omega⟩, if_pos ⟨rfl, e⟩]
    · rw [if_neg (fun q => e (by omega)), if_neg (fun q => e q.2)]; exact o3 j hj
/-- paste -/
theorem jI_paste {h : fwH} (I : jI h) {s t i k m : Nat} (F : Nat → Int) (hs : s < 4) (ht : t < 4) (hi : i + m ≤ 60) (hk : k + m ≤ 60) : jI (fwUc (fwUc (fwUc h 33 t (va_cpy (h 33 s) (h 33 t) i k m)) 49 0 F) 48 0 (psr (h 48 0) (60 * s + i) (60 * t + k) m)) := by
  have l33 : isSl 33 := by unfold isSl; omega
  have l48 : isSl 48 := by unfold isSl; omega
  have l49 : isSl 49 := by unfold isSl; omega
  have S := jI_S I
  have O : sOk h := I.1.2.2.2.2.2.2.2.2.2.1
  refine jI_sl I (ns_tr (ns_tr (fwUc_ns l33) (fwUc_ns l49)) (fwUc_ns l48)) ?_ ?_
  · intro q hq
    obtain ⟨o1, o2, o3⟩ := O q hq
    refine ⟨o1, o2, fun j hj => ?_⟩
    show -9223372036854775808 ≤ (if 33 = 33 ∧ q = t then va_cpy (h 33 s) (h 33 t) i k m else h 33 q) j ∧ (if 33 = 33 ∧ q = t then va_cpy (h 33 s) (h 33 t) i k m else h 33 q) j < 9223372036854775808
    by_cases e : q = t
    · rw [if_pos ⟨rfl, e⟩]
      unfold va_cpy
      split
      · exact (O s hs).2.2 _ (by omega)
      · exact (O t ht).2.2 j hj
    · rw [if_neg (fun z => e z.2)]
      exact o3 j hj
  · intro q hq
    obtain ⟨o1, o2, o3⟩ := S q hq
    refine ⟨o1, o2, fun j hj => ?_⟩
    show psr (h 48 0) (60 * s + i) (60 * t + k) m (60 * q + j) = (if 33 = 33 ∧ q = t then va_cpy (h 33 s) (h 33 t) i k m else h 33 q) j
    by_cases e : q = t
    · subst e
      rw [if_pos ⟨rfl, rfl⟩]
      unfold psr va_cpy
      by_cases z : k ≤ j ∧ j < k + m
      · rw [if_pos (by omega), if_pos z, show 60 * s + i + (60 * q + j - (60 * q + k)) = 60 * s + (i + (j - k)) by omega]
        exact (S s hs).2.2 _ (by omega)
      · rw [if_neg (by omega), if_neg z]
        exact o3 j hj
    · rw [if_neg (fun z => e z.2)]
      unfold psr
      rw [if_neg (by omega)]
      exact o3 j hj
end
section
/-- acts on the TAPE alone -/
theorem jI_tp {h g : fwH} (I : jI h) (r : ∀ a b, a ≠ 1 → a ≠ 13 → a ≠ 39 → a ≠ 40 → a ≠ 12 → g a b = h a b) (t : tOk g) (tp : g 12 0 5 = g 1 0 1 ∧ (∀ p : Nat, (p : Int) < g 1 0 1 → g 39 0 p = g 13 0 p) ∧ (∀ p : Nat, p < 900 → -128 ≤ g 39 0 p ∧ g 39 0 p < 128)) (f : g 12 0 12 = h 12 0 12 ∧ g 12 0 13 = h 12 0 13) : jI g := by
  have n : ∀ a b, a ≠ 1 ∧ a ≠ 13 ∧ a ≠ 39 ∧ a ≠ 40 ∧ a ≠ 12 → g a b = h a b := fun a b z => r a b z.1 z.2.1 z.2.2.1 z.2.2.2.1 z.2.2.2.2
  obtain ⟨i1, i2, i3, i4, i5, i6, i7⟩ := I
  obtain ⟨j1, j2, j3, j4, j5, j6, j7, j8, j9, j10, j11, j12⟩ := i1
  have m : mPic (g 3 0) (g 4 0) (g 5 0) (g 17 0) (g 18 0) (g 21 0) (g 36 0) := by
    rw [n 3 0 (by decide), n 4 0 (by decide), n 5 0 (by decide), n 17 0 (by decide), n 18 0 (by decide), n 21 0 (by decide), n 36 0 (by decide)]
    exact i2
  refine ⟨cOk_of m ?_ t ?_, m, ?_, ?_, tp, ?_, ?_⟩
  · intro s hs
    rw [n 35 0 (by decide), n 34 0 (by decide), n 33 s (by decide)]
    exact j10 s hs
  · unfold sc
    rw [n 25 0 (by decide), n 8 0 (by decide)]
    exact j12
  · intro s hs
    rw [n 46 0 (by decide), n 47 0 (by decide), n 48 0 (by decide), n 35 0 (by decide), n 34 0 (by decide), n 33 s (by decide)]
    exact i3 s hs
  · intro k hk
    rw [n 23 0 (by decide), n 38 0 (by decide), n 37 0 (by decide), n 3 _ (by decide), n 4 _ (by decide), n 5 _ (by decide), n 17 _ (by decide), n 18 _ (by decide), n 21 _ (by decide)]
    exact i4 k hk
  · rw [n 2 0 (by decide), f.1, f.2]
    exact i6
  · rw [n 17 1 (by decide)]
    exact i7
theorem jI_end {h : fwH} (I : jI h) {x : Int} (hx : 0 ≤ x ∧ x ≤ h 1 0 1) : jI (fwUp (fwUp h 1 0 1 x) 12 0 5 x) := by
  have T : tOk h := I.1.2.2.2.2.2.2.2.2.2.2.1
  obtain ⟨i5, i6, i7⟩ := I.2.2.2.2.1
  refine jI_tp I (fun a b h1 h2 h3 h4 h5 => ?_) ⟨hx.1, by have := T.2; exact Int.le_trans hx.2 this⟩ ⟨rfl, fun p hp => i6 p (Int.lt_of_lt_of_le hp hx.2), i7⟩ ⟨rfl, rfl⟩
  funext j
  show (if a = 12 ∧ b = 0 ∧ j = 5 then x else if a = 1 ∧ b = 0 ∧ j = 1 then x else h a b j) = h a b j
  rw [if_neg (fun (z : a = 12 ∧ b = 0 ∧ j = 5) => h5 z.1), if_neg (fun (z : a = 1 ∧ b = 0 ∧ j = 1) => h1 z.1)]
theorem mAdN_cg {B B' : Nat → Int} {s : Nat} (x : Int) (e : ∀ p : Nat, p < s → B p = B' p) : ∀ c p : Nat, p < s + c → mAdN B s x c p = mAdN B' s x c p := by
  intro c
  induction c with
  | zero => intro p hp; exact e p (by omega)
  | succ c ih =>
    intro p hp
    rw [mAdN, mAdN]
    unfold fwFu
    split
    · rfl
    · exact ih p (by omega)
theorem mAdN_b {B : Nat → Int} {s : Nat} (x : Int) (e : ∀ p : Nat, p < 900 → -128 ≤ B p ∧ B p < 128) : ∀ c p : Nat, p < 900 → -128 ≤ mAdN B s x c p ∧ mAdN B s x c p < 128 := by
  intro c
  induction c with
  | zero => exact e
  | succ c ih =>
    intro p hp
    rw [mAdN]
    unfold fwFu
    split
    · unfold fwB8
      rw [Int32.toInt_toInt8]
      have h1 := Int.bmod_lt (x := (Int32.ofInt (fwShr x (24 - 8 * (c : Int)))).toInt) (m := 256) (by decide)
      have h2 := Int.le_bmod (x := (Int32.ofInt (fwShr x (24 - 8 * (c : Int)))).toInt) (m := 256) (by decide)
      show -128 ≤ Int.bmod _ 256 ∧ Int.bmod _ 256 < 128
      omega
    · exact ih p hp
theorem mFeed_cg {B B' : Nat → Int} {s : Nat} (a b c p e : Int) (h : ∀ q : Nat, q < s → B q = B' q) : ∀ q : Nat, q < s + 20 → mFeed B s a b c p e q = mFeed B' s a b c p e q := by
  intro q hq
  unfold mFeed
  exact mAdN_cg e (mAdN_cg p (mAdN_cg c (mAdN_cg b (mAdN_cg a h 4) 4) 4) 4) 4 q (by omega)
theorem mFeed_b {B : Nat → Int} {s : Nat} (a b c p e : Int) (h : ∀ q : Nat, q < 900 → -128 ≤ B q ∧ B q < 128) : ∀ q : Nat, q < 900 → -128 ≤ mFeed B s a b c p e q ∧ mFeed B s a b c p e q < 128 := by
  unfold mFeed
  exact mAdN_b e (mAdN_b p (mAdN_b c (mAdN_b b (mAdN_b a h 4) 4) 4) 4) 4
theorem jI_feed {h : fwH} (I : jI h) (a b c p e : Int) (V : Nat → Int) (h8 : h 1 0 1 ≤ 880) : jI (fwUp (fwUc (fwUc (feH h 20 (mFeed (h 13 0) (h 1 0 1).toNat a b c p e)) 40 0 V) 39 0 (mFeed (h 39 0) (h 12 0 5).toNat a b c p e)) 12 0 5 (h 12 0 5 + 20)) := by
  have T : tOk h := I.1.2.2.2.2.2.2.2.2.2.2.1
  obtain ⟨t1, t2⟩ := T
  obtain ⟨i5, i6, i7⟩ := I.2.2.2.2.1
  refine jI_tp I (fun x y h1 h2 h3 h4 h5 => ?_) ?_ ⟨?_, fun q hq => ?_, ?_⟩ ⟨rfl, rfl⟩
  · funext j
    show (if x = 12 ∧ y = 0 ∧ j = 5 then _ else (fwUc (fwUc (feH h 20 (mFeed (h 13 0) (h 1 0 1).toNat a b c p e)) 40 0 V) 39 0 (mFeed (h 39 0) (h 12 0 5).toNat a b c p e)) x y j) = h x y j
    rw [if_neg (fun (z : x = 12 ∧ y = 0 ∧ j = 5) => h5 z.1), fwUc_ne (fun z => h3 z.1), fwUc_ne (fun z => h4 z.1)]
    unfold feH
    rw [fwUc_ne (fun z => h2 z.1), fwUc_ne (fun z => h1 z.1)]
  · show 0 ≤ h 1 0 1 + 20 ∧ h 1 0 1 + 20 ≤ 900
    omega
  · show h 12 0 5 + 20 = h 1 0 1 + 20
    omega
  · have hq2 : (q : Int) < h 1 0 1 + 20 := hq
    show mFeed (h 39 0) (h 12 0 5).toNat a b c p e q = mFeed (h 13 0) (h 1 0 1).toNat a b c p e q
    rw [i5]
    exact mFeed_cg a b c p e (fun z hz => i6 z (by omega)) q (by omega)
  · exact mFeed_b a b c p e i7
/-- acts on the MOUNTAIN alone -/
def isM0 (a b : Nat) : Prop := (a = 3 ∨ a = 4 ∨ a = 5 ∨ a = 17 ∨ a = 18 ∨ a = 21) ∧ b = 0
theorem jI_mt {h g : fwH} (I : jI h) (r : ∀ a b, ¬ isM0 a b → a ≠ 36 → a ≠ 42 → g a b = h a b) (m : mPic (g 3 0) (g 4 0) (g 5 0) (g 17 0) (g 18 0) (g 21 0) (g 36 0)) : jI g := by
  have n : ∀ a b, ¬ isM0 a b ∧ a ≠ 36 ∧ a ≠ 42 → g a b = h a b := fun a b z => r a b z.1 z.2.1 z.2.2
  obtain ⟨i1, i2, i3, i4, i5, i6, i7⟩ := I
  obtain ⟨j1, j2, j3, j4, j5, j6, j7, j8, j9, j10, j11, j12⟩ := i1
  have q : ∀ a b : Nat, (a ≠ 3 ∧ a ≠ 4 ∧ a ≠ 5 ∧ a ≠ 17 ∧ a ≠ 18 ∧ a ≠ 21) → ¬ isM0 a b := fun a b z y => by unfold isM0 at y; omega
  have q2 : ∀ a b : Nat, b ≠ 0 → ¬ isM0 a b := fun a b z y => z y.2
  refine ⟨cOk_of m ?_ ?_ ?_, m, ?_, ?_, ?_, ?_, ?_⟩
  · intro s hs
    rw [n 35 0 ⟨q _ _ (by decide), by decide⟩, n 34 0 ⟨q _ _ (by decide), by decide⟩, n 33 s ⟨q _ _ (by decide), by decide⟩]
    exact j10 s hs
  · unfold tOk
    rw [n 1 0 ⟨q _ _ (by decide), by decide⟩]
    exact j11
  · unfold sc
    rw [n 25 0 ⟨q _ _ (by decide), by decide⟩, n 8 0 ⟨q _ _ (by decide), by decide⟩]
    exact j12
  · intro s hs
    rw [n 46 0 ⟨q _ _ (by decide), by decide⟩, n 47 0 ⟨q _ _ (by decide), by decide⟩, n 48 0 ⟨q _ _ (by decide), by decide⟩, n 35 0 ⟨q _ _ (by decide), by decide⟩, n 34 0 ⟨q _ _ (by decide), by decide⟩, n 33 s ⟨q _ _ (by decide), by decide⟩]
    exact i3 s hs
  · intro k hk
    rw [n 23 0 ⟨q _ _ (by decide), by decide⟩, n 38 0 ⟨q _ _ (by decide), by decide⟩, n 37 0 ⟨q _ _ (by decide), by decide⟩, n 3 _ ⟨q2 _ _ (by omega), by decide⟩, n 4 _ ⟨q2 _ _ (by omega), by decide⟩, n 5 _ ⟨q2 _ _ (by omega), by decide⟩, n 17 _ ⟨q2 _ _ (by omega), by decide⟩, n 18 _ ⟨q2 _ _ (by omega), by decide⟩, n 21 _ ⟨q2 _ _ (by omega), by decide⟩]
    exact i4 k hk
  · rw [n 1 0 ⟨q _ _ (by decide), by decide⟩, n 39 0 ⟨q _ _ (by decide), by decide⟩, n 13 0 ⟨q _ _ (by decide), by decide⟩, n 12 0 ⟨q _ _ (by decide), by decide⟩]
    exact i5
  · rw [n 2 0 ⟨q _ _ (by decide), by decide⟩, n 12 0 ⟨q _ _ (by decide), by decide⟩]
    exact i6
  · rw [n 17 1 ⟨q2 _ _ (by decide), by decide⟩]
    exact i7
end
section
theorem mPic_tell {r3 r4 r5 r17 r18 r21 W : Nat → Int} (m : mPic r3 r4 r5 r17 r18 r21 W) {x : Int} (h3 : r3 3 = 0) (hx : 1 ≤ x ∧ x ≤ 999) : mPic (fwFu r3 4 x) r4 r5 r17 r18 r21 (fwFu W 3 x) := by
  obtain ⟨⟨a1, a2, a3, a4, a5, a6, a7, a8, a9, a10, a11, a12⟩, b, ⟨c1, c2, c3, c4, c5, c6, c7, c8, c9, c10, c11, c12⟩, ⟨d1, d2, d3⟩, e⟩ := m
  have r0 : ∀ c : Nat, rep (fwFu W 3 x) 0 c = rep W 0 c := fun c => fwFu_ne (show 9 + c ≠ 3 by omega)
  refine ⟨⟨a1, a2, a3, a4, a5, a6, a7, a8, a9, ⟨by show 0 ≤ x; omega, hx.2⟩, a11, a12⟩, b, ⟨c1, c2, c3, rfl, c5, c6, c7, c8, c9, fun j hj => ?_, c11, fun h => ⟨(c12 h).1, hx.1⟩⟩, ⟨fun i hi c hc => ?_, fun i hi => ?_, ?_⟩, fun i hi => ?_⟩
  · rw [fwFu_ne (by omega)]
    exact c10 j hj
  · have hi2 : (i : Int) ≤ r3 3 := hi
    have e0 : i = 0 := by omega
    subst e0
    rw [r0]
    exact d1 0 (by omega) c hc
  · have hi2 : (i : Int) < r3 3 := hi
    omega
  · show hiR (r4 1) (rep (fwFu W 3 x) (r3 3).toNat) r17
    rw [h3] at d3 ⊢
    intro c hc
    exact (r0 c).trans (d3 c hc)
  · have hi2 : (i : Int) < r3 3 := hi
    omega
theorem jI_tell {h : fwH} (I : jI h) {x : Int} (h3 : ¬ 0 < h 3 0 3) (hx : 1 ≤ x ∧ x ≤ 999) : jI (fwUp (fwUp h 3 0 4 x) 36 0 3 x) := by
  have h0 : h 3 0 3 = 0 := by have := I.1.2.2.2.2.2.2.2.2.1; omega
  rw [fwUp_fu h 3 0 4 x, fwUp_fu _ 36 0 3 x]
  refine jI_mt I (fun a b n1 n2 n3 => ?_) (mPic_tell I.2.1 h0 hx)
  rw [fwUc_ne (fun z => n2 z.1), fwUc_ne (fun z => n1 ⟨Or.inl z.1, z.2⟩)]
theorem mPic_likes {r3 r4 r5 r17 r18 r21 W : Nat → Int} (m : mPic r3 r4 r5 r17 r18 r21 W) {f y : Nat} {z : Int} (h3 : r3 3 = 0) (hf : f < 8) (hy : y ≤ 2) (hz : 0 ≤ z ∧ z ≤ 9) : mPic r3 r4 r5 r17 (fwFu r18 (7 * f + (2 + y)) z) r21 (fwFu W (19 + (7 * f + (2 + y))) z) := by
  obtain ⟨a, b, ⟨c1, c2, c3, c4, c5, c6, c7, c8, c9, c10, c11, c12⟩, ⟨d1, d2, d3⟩, e⟩ := m
  have rd : ∀ s : Nat, s < 19 → fwFu W (19 + (7 * f + (2 + y))) z s = W s := fun s hs => fwFu_ne (by omega)
  have r0 : ∀ c : Nat, c < 10 → rep (fwFu W (19 + (7 * f + (2 + y))) z) 0 c = rep W 0 c := fun c hc => rd (9 + c) (by omega)
  have sp : ∀ (s : Nat) (u : Int), 9 ≤ u → (0 ≤ r18 s ∧ r18 s ≤ u) → (0 ≤ fwFu r18 (7 * f + (2 + y)) z s ∧ fwFu r18 (7 * f + (2 + y)) z s ≤ u) := fun s u hu h => by unfold fwFu; split <;> omega
  refine ⟨a, fun g hg => ?_, ⟨(rd 0 (by omega)).trans c1, (rd 1 (by omega)).trans c2, (rd 2 (by omega)).trans c3, (rd 3 (by omega)).trans c4, (rd 4 (by omega)).trans c5, (rd 5 (by omega)).trans c6, (rd 6 (by omega)).trans c7, (rd 7 (by omega)).trans c8, (rd 8 (by omega)).trans c9, fun j hj => ?_, fun g hg => ?_, c12⟩, ⟨fun i hi c hc => ?_, fun i hi => ?_, ?_⟩, fun i hi => ?_⟩
  · obtain ⟨b1, b2, b3, b4, b5, b6, b7⟩ := b g hg
    refine ⟨?_, ?_, sp _ 9 (by omega) b3, sp _ 9 (by omega) b4, sp _ 9 (by omega) b5, ?_, ?_⟩
    · rw [fwFu_ne (by omega)]; exact b1
    · rw [fwFu_ne (by omega)]; exact b2
    · rw [fwFu_ne (by omega)]; exact b6
    · rw [fwFu_ne (by omega)]; exact b7
  · unfold fwFu
    by_cases q : j = 7 * f + (2 + y)
    · rw [if_pos (by omega), if_pos q]
    · rw [if_neg (by omega), if_neg q]
      exact c10 j hj
  · rw [fwFu_ne (by omega)]
    exact c11 g hg
  · have e0 : i = 0 := by omega
    subst e0
    rw [r0 c hc]
    exact d1 0 (by omega) c hc
  · omega
  · rw [h3] at d3 ⊢
    intro c hc
    exact (r0 c (by have := a.2.2.1.2; omega)).trans (d3 c hc)
  · omega
theorem jI_likes {h : fwH} (I : jI h) {f y : Nat} {z : Int} (h3 : ¬ 0 < h 3 0 3) (hf : f < 8) (hy : y ≤ 2) (hz : 0 ≤ z ∧ z ≤ 9) : jI (fwUp (fwUp h 18 0 (7 * f + (2 + y)) z) 36 0 (19 + (7 * f + (2 + y))) z) := by
  have h0 : h 3 0 3 = 0 := by have := I.1.2.2.2.2.2.2.2.2.1; omega
  rw [fwUp_fu h 18 0 _ z, fwUp_fu _ 36 0 _ z]
  refine jI_mt I (fun a b n1 n2 n3 => ?_) (mPic_likes I.2.1 h0 hf hy hz)
  rw [fwUc_ne (fun z => n2 z.1), fwUc_ne (fun z => n1 ⟨Or.inr (Or.inr (Or.inr (Or.inr (Or.inl z.1)))), z.2⟩)]
end
section
theorem mPic_act {r3 r4 r5 r17 r18 r21 W : Nat → Int} (m : mPic r3 r4 r5 r17 r18 r21 W) (h60 : r3 3 < 60) (hm : 0 < r3 6) {T : Nat} {y av : Int} (hT : (T : Int) < r4 1) (hy : y = 1 ∨ y = -1) (hav : 0 ≤ av ∧ av ≤ r4 1) (hs : ∀ c : Nat, c < 10 → stp (W 0) (W 4) (W 2) (rep W (r3 3).toNat) av c = if c = T then rep W (r3 3).toNat c + y else rep W (r3 3).toNat c) (hb : ∀ c : Nat, c < 10 → 0 ≤ stp (W 0) (W 4) (W 2) (rep W (r3 3).toNat) av c ∧ stp (W 0) (W 4) (W 2) (rep W (r3 3).toNat) av c ≤ 99) : mPic (fwFu r3 3 (r3 3 + 1)) r4 r5 (fwFu r17 T (r17 T + y)) r18 (fwFu r21 (r3 3).toNat (y * ((T : Int) + 1))) (fwFu (fwFu W (75 + (r3 3).toNat) av) 8 (r3 3 + 1)) := by
  obtain ⟨⟨a1, a2, a3, a4, a5, a6, a7, a8, a9, a10, a11, a12⟩, b, ⟨c1, c2, c3, c4, c5, c6, c7, c8, c9, c10, c11, c12⟩, ⟨d1, d2, d3⟩, e⟩ := m
  obtain ⟨k, hk⟩ : ∃ k : Nat, r3 3 = (k : Int) := ⟨(r3 3).toNat, by omega⟩
  have hk0 : (r3 3).toNat = k := by omega
  rw [hk0] at hs hb d3 ⊢
  generalize hW' : fwFu (fwFu W (75 + k) av) 8 (r3 3 + 1) = W'
  have rd : ∀ s : Nat, s ≠ 8 → s ≠ 75 + k → W' s = W s := fun s h1 h2 => by rw [← hW', fwFu_ne h1, fwFu_ne h2]
  have w8 : W' 8 = r3 3 + 1 := by rw [← hW', fwFu_at]
  have wk : W' (75 + k) = av := by rw [← hW', fwFu_ne (by omega), fwFu_at]
  have cg : ∀ j : Nat, j ≤ k → eq10 (rep W' j) (rep W j) := fun j hj => rep_cg (rd 0 (by omega) (by omega)) (rd 4 (by omega) (by omega)) (rd 2 (by omega) (by omega)) (fun c hc => rd _ (by omega) (by omega)) (by rw [c1]; exact a3) j (fun i hi => ⟨rd _ (by omega) (by omega), by have := d2 i (by omega); rw [c1]; exact this⟩)
  have ck : eq10 (rep W' (k + 1)) (stp (W 0) (W 4) (W 2) (rep W k) av) := by
    rw [rep, rd 0 (by omega) (by omega), rd 4 (by omega) (by omega), rd 2 (by omega) (by omega), wk]
    exact stp_cg (cg k (Nat.le_refl _)) (by rw [c1]; exact a3) _ _ _ (by rw [c1]; exact hav)
  have hT2 := hb T (by omega)
  rw [hs T (by omega), if_pos rfl, d3 T hT] at hT2
  refine ⟨⟨a1, a2, a3, a4, a5, a6, fun c hc => ?_, a8, fun z => ?_, a10, a11, ?_⟩, b, ⟨(rd 0 (by omega) (by omega)).trans c1, (rd 1 (by omega) (by omega)).trans c2, (rd 2 (by omega) (by omega)).trans c3, (rd 3 (by omega) (by omega)).trans c4, (rd 4 (by omega) (by omega)).trans c5, (rd 5 (by omega) (by omega)).trans c6, (rd 6 (by omega) (by omega)).trans c7, (rd 7 (by omega) (by omega)).trans c8, w8, fun j hj => (rd (19 + j) (by omega) (by omega)).trans (c10 j hj), c11, c12⟩, ⟨fun i hi c hc => ?_, fun i hi => ?_, ?_⟩, fun i hi => ?_⟩
  · have := a7 c hc
    unfold fwFu
    split
    · exact hT2
    · exact this
  · have z2 : r3 6 = 0 := z
    omega
  · show 0 ≤ r3 3 + 1 ∧ r3 3 + 1 ≤ 60
    omega
  · have hi2 : (i : Int) ≤ r3 3 + 1 := hi
    rcases Nat.lt_or_ge k i with q | q
    · rw [show i = k + 1 by omega, ck c hc]
      exact hb c hc
    · rw [cg i q c hc]
      exact d1 i (by omega) c hc
  · have hi2 : (i : Int) < r3 3 + 1 := hi
    rcases Nat.lt_or_ge i k with q | q
    · rw [rd _ (by omega) (by omega)]
      exact d2 i (by omega)
    · rw [show i = k by omega, wk]
      exact hav
  · show hiR (r4 1) (rep W' (r3 3 + 1).toNat) (fwFu r17 T (r17 T + y))
    intro c hc
    rw [show (r3 3 + 1).toNat = k + 1 by omega, ck c (by omega), hs c (by omega), d3 c hc]
    unfold fwFu
    split
    · rename_i q; rw [q]
    · rfl
  · have hi2 : (i : Int) < r3 3 + 1 := hi
    rcases Nat.lt_or_ge i k with q | q
    · obtain ⟨e1, e2, e3, e4⟩ := e i (by omega)
      rw [fwFu_ne (by omega)]
      refine ⟨e1, e2, e3, fun z hz => ?_⟩
      rw [cg i (by omega) z (by omega), cg (i + 1) (by omega) z (by omega)]
      exact e4 z hz
    · rw [show i = k by omega, fwFu_at]
      have bc : mBackC (y * ((T : Int) + 1)) = (T : Int) := by
        unfold mBackC
        rcases hy with rfl | rfl
        · rw [if_neg (by omega)]; omega
        · rw [if_pos (by omega)]; omega
      have bd : mBackD (y * ((T : Int) + 1)) = -y := by
        unfold mBackD
        rcases hy with rfl | rfl
        · rw [if_neg (by omega)]
        · rw [if_pos (by omega)]; rfl
      refine ⟨by rcases hy with rfl | rfl <;> omega, by rw [bc]; omega, by rcases hy with rfl | rfl <;> omega, fun z hz => ?_⟩
      rw [bc, bd, Int.toNat_natCast, cg k (Nat.le_refl _) z (by omega), ck z (by omega), hs z (by omega)]
      split <;> omega
theorem jI_act {h : fwH} (I : jI h) (h60 : h 3 0 3 < 60) (hm : 0 < h 3 0 6) {x y av : Int} (A : Nat → Int) (hx : 0 ≤ x ∧ x < h 4 0 1) (hy : y = 1 ∨ y = -1) (hav : 0 ≤ av ∧ av ≤ h 4 0 1) (hs : ∀ c : Nat, c < 10 → stp (h 36 0 0) (h 36 0 4) (h 36 0 2) (rep (h 36 0) (h 3 0 3).toNat) av c = if c = x.toNat then rep (h 36 0) (h 3 0 3).toNat c + y else rep (h 36 0) (h 3 0 3).toNat c) (hb : ∀ c : Nat, c < 10 → 0 ≤ stp (h 36 0 0) (h 36 0 4) (h 36 0 2) (rep (h 36 0) (h 3 0 3).toNat) av c ∧ stp (h 36 0 0) (h 36 0 4) (h 36 0 2) (rep (h 36 0) (h 3 0 3).toNat) av c ≤ 99) : jI (fwUp (fwUp (fwUc (actH h x y) 42 0 A) 36 0 (75 + (h 3 0 3).toNat) av) 36 0 8 (h 3 0 3 + 1)) := by
  have mp := mPic_act I.2.1 h60 hm (T := x.toNat) (y := y) (av := av) (by omega) hy hav hs hb
  rw [show ((x.toNat : Nat) : Int) = x by omega] at mp
  unfold actH
  rw [fwUp_fu (fwUc h 17 0 _) 21 0 _ _, fwUp_fu (fwUc (fwUc h 17 0 _) 21 0 _) 3 0 _ _, fwUp_fu (fwUc _ 42 0 A) 36 0 _ _, fwUp_uc]
  refine jI_mt I (fun a b n1 n2 n3 => ?_) mp
  rw [fwUc_ne (fun z => n2 z.1), fwUc_ne (fun z => n3 z.1), fwUc_ne (fun z => n1 ⟨Or.inl z.1, z.2⟩), fwUc_ne (fun z => n1 ⟨Or.inr (Or.inr (Or.inr (Or.inr (Or.inr z.1)))), z.2⟩), fwUc_ne (fun z => n1 ⟨Or.inr (Or.inr (Or.inr (Or.inl z.1))), z.2⟩)]
end
section
theorem mTop_ch {H H' : Nat → Int} {n : Nat} (e : ∀ c : Nat, c < n → H c = H' c) (ls : Int) : ∀ u : Nat, u ≤ n → mTop H ls u = mTop H' ls u := by
  intro u
  induction u with
  | zero => intro _; rfl
  | succ u ih =>
    intro hu
    have h1 := ih (by omega)
    have h2 := mTop_rng H' ls u
    rcases Nat.eq_zero_or_pos u with q | q
    · subst q
      rw [mTop, mTop]
      rfl
    · have e2 : H (mTop H' ls u).toNat = H' (mTop H' ls u).toNat := e _ (by omega)
      rw [mTop, mTop, h1, e2, e u (by omega)]
theorem hOf_ch {H H' : Nat → Int} {n : Int} (e : hiR n H H') (x : Int) : hOf n H x = hOf n H' x := by
  unfold hOf
  split
  · exact e _ (by omega)
  · rfl
theorem mDesc_ch {H H' : Nat → Int} {n : Int} (e : hiR n H H') (sl : Int) : ∀ (f : Nat) (x : Int), mDesc n H sl f x = mDesc n H' sl f x := by
  have dn : ∀ x : Int, mDown n H x sl = mDown n H' x sl := fun x => by
    unfold mDown
    simp only [hOf_ch e]
  intro f
  induction f with
  | zero => intro x; rfl
  | succ f ih => intro x; rw [mDesc, mDesc, dn, ih]
theorem mStay_ch {H H' : Nat → Int} {n : Int} (e : hiR n H H') (rs x : Int) : mStay n H rs x = mStay n H' rs x := by
  unfold mStay
  rw [mDesc_ch e, hOf_ch e]
theorem jI_take {h : fwH} (I : jI h) (A : Nat → Int) (hm : 0 < h 3 0 6) (h60 : h 3 0 3 < 60) (hx : mMax (h 17 0) (h 4 0 1).toNat ≠ 0) : jI (fwUp (fwUp (fwUc (actH h (mTop (h 17 0) (h 4 0 4) (h 4 0 1).toNat) (-1)) 42 0 A) 36 0 (75 + (h 3 0 3).toNat) 0) 36 0 8 (h 3 0 3 + 1)) := by
  have m := I.2.1
  obtain ⟨⟨a1, a2, a3, a4, a5, a6, a7, a8, a9, a10, a11, a12⟩, b, ⟨c1, c2, c3, c4, c5, c6, c7, c8, c9, c10, c11, c12⟩, ⟨d1, d2, d3⟩, e⟩ := m
  have n3 := a8 hm
  have dk := d1 (h 3 0 3).toNat (by omega)
  have tt : mTop (rep (h 36 0) (h 3 0 3).toNat) (h 4 0 4) (h 4 0 1).toNat = mTop (h 17 0) (h 4 0 4) (h 4 0 1).toNat := mTop_ch (n := (h 4 0 1).toNat) (fun c hc => d3 c (by omega)) _ _ (Nat.le_refl _)
  have tr := mTop_r2 (h 17 0) (h 4 0 4) (h 4 0 1).toNat (by omega)
  have mx := mMax_top (H := h 17 0) (ls := h 4 0 4) (h 4 0 1).toNat (by omega) (fun c hc => (a7 c (by omega)).1)
  have hl : stp (h 36 0 0) (h 36 0 4) (h 36 0 2) (rep (h 36 0) (h 3 0 3).toNat) 0 = mLow (h 4 0 1).toNat (rep (h 36 0) (h 3 0 3).toNat) (h 4 0 4) := by
    unfold stp
    rw [if_pos rfl, c1, c5]
  refine jI_act I h60 hm A (by omega) (Or.inr rfl) ⟨by omega, by omega⟩ (fun c hc => ?_) (fun c hc => ?_)
  · rw [hl]
    unfold mLow
    rw [tt, d3 _ (by omega), if_pos ⟨by omega, by rw [← mx]; exact hx⟩]
    unfold fwFu
    split
    · rename_i q; rw [q, d3 _ (by omega)]
    · rfl
  · rw [hl]
    exact mLow_rng (by omega) dk c hc
theorem jI_heap {h : fwH} (I : jI h) (A : Nat → Int) {x : Int} (hx : 0 ≤ x ∧ x < h 4 0 1) (h60 : h 3 0 3 < 60) (hs : mStay (h 4 0 1) (h 17 0) (h 4 0 3) x ≠ -1) : jI (fwUp (fwUp (fwUc (actH h (mStay (h 4 0 1) (h 17 0) (h 4 0 3) x) 1) 42 0 A) 36 0 (75 + (h 3 0 3).toNat) (1 + x)) 36 0 8 (h 3 0 3 + 1)) := by
  have m := I.2.1
  obtain ⟨⟨a1, a2, a3, a4, a5, a6, a7, a8, a9, a10, a11, a12⟩, b, ⟨c1, c2, c3, c4, c5, c6, c7, c8, c9, c10, c11, c12⟩, ⟨d1, d2, d3⟩, e⟩ := m
  have hm : 0 < h 3 0 6 := by
    rcases Int.lt_or_le 0 (h 3 0 6) with q | q
    · exact q
    · have := (a9 (by omega)).1
      omega
  have dk := d1 (h 3 0 3).toNat (by omega)
  have tt : mStay (h 4 0 1) (rep (h 36 0) (h 3 0 3).toNat) (h 4 0 3) x = mStay (h 4 0 1) (h 17 0) (h 4 0 3) x := mStay_ch d3 _ _
  have tr := mStay_rng (h 17 0) (rs := h 4 0 3) (n := h 4 0 1) (x := x) a3 hx
  have hl : stp (h 36 0 0) (h 36 0 4) (h 36 0 2) (rep (h 36 0) (h 3 0 3).toNat) (1 + x) = mRs (rep (h 36 0) (h 3 0 3).toNat) (mStay (h 4 0 1) (rep (h 36 0) (h 3 0 3).toNat) (h 4 0 3) x) := by
    unfold stp
    rw [if_neg (by omega), c1, c3, show 1 + x - 1 = x by omega]
  refine jI_act I h60 hm A (by omega) (Or.inl rfl) ⟨by omega, by omega⟩ (fun c hc => ?_) (fun c hc => ?_)
  · rw [hl, tt]
    unfold mRs
    rw [if_neg hs]
    unfold fwFu
    split
    · rename_i q; rw [q]
    · rfl
  · rw [hl]
    exact mRs_rng a3 hx (by omega) dk c hc
/-- the last act taken back -/
theorem mPic_undo {r3 r4 r5 r17 r18 r21 W : Nat → Int} (m : mPic r3 r4 r5 r17 r18 r21 W) (hp : 0 < r3 3) : mPic (fwFu r3 3 (r3 3 - 1)) r4 r5 (fwFu r17 (mBackC (r21 (r3 3 - 1).toNat)).toNat (r17 (mBackC (r21 (r3 3 - 1).toNat)).toNat + mBackD (r21 (r3 3 - 1).toNat))) r18 r21 (fwFu W 8 (r3 3 - 1)) := by
  obtain ⟨⟨a1, a2, a3, a4, a5, a6, a7, a8, a9, a10, a11, a12⟩, b, ⟨c1, c2, c3, c4, c5, c6, c7, c8, c9, c10, c11, c12⟩, ⟨d1, d2, d3⟩, e⟩ := m
  obtain ⟨k, hk⟩ : ∃ k : Nat, r3 3 = (k : Int) + 1 := ⟨(r3 3 - 1).toNat, by omega⟩
  have hk0 : (r3 3 - 1).toNat = k := by omega
  have hk1 : (r3 3).toNat = k + 1 := by omega
  rw [hk0]
  rw [hk1] at d3
  obtain ⟨e1, e2, e3, e4⟩ := e k (by omega)
  generalize r21 k = a at e1 e2 e3 e4 ⊢
  generalize hW' : fwFu W 8 (r3 3 - 1) = W'
  have rd : ∀ s : Nat, s ≠ 8 → W' s = W s := fun s h1 => by rw [← hW', fwFu_ne h1]
  have w8 : W' 8 = r3 3 - 1 := by rw [← hW', fwFu_at]
  have cg : ∀ j : Nat, j ≤ k + 1 → eq10 (rep W' j) (rep W j) := fun j hj => rep_cg (rd 0 (by omega)) (rd 4 (by omega)) (rd 2 (by omega)) (fun c hc => rd _ (by omega)) (by rw [c1]; exact a3) j (fun i hi => ⟨rd _ (by omega), by have := d2 i (by omega); rw [c1]; exact this⟩)
  have r17e : ∀ c : Nat, (c : Int) < r4 1 → fwFu r17 (mBackC a).toNat (r17 (mBackC a).toNat + mBackD a) c = rep W k c := fun c hc => by
    rw [e4 c hc, d3 c hc]
    unfold fwFu
    split
    · rename_i q; rw [q]
    · rfl
  refine ⟨⟨a1, a2, a3, a4, a5, a6, fun c hc => ?_, a8, fun z => ?_, a10, a11, ?_⟩, b, ⟨(rd 0 (by omega)).trans c1, (rd 1 (by omega)).trans c2, (rd 2 (by omega)).trans c3, (rd 3 (by omega)).trans c4, (rd 4 (by omega)).trans c5, (rd 5 (by omega)).trans c6, (rd 6 (by omega)).trans c7, (rd 7 (by omega)).trans c8, w8, fun j hj => (rd (19 + j) (by omega)).trans (c10 j hj), c11, c12⟩, ⟨fun i hi c hc => ?_, fun i hi => ?_, ?_⟩, fun i hi => ?_⟩
  · by_cases q : c = (mBackC a).toNat
    · rw [r17e c (by omega)]
      exact d1 k (by omega) c hc
    · rw [fwFu_ne q]
      exact a7 c hc
  · have z2 : r3 6 = 0 := z
    have := (a9 z2).2.2
    omega
  · show 0 ≤ r3 3 - 1 ∧ r3 3 - 1 ≤ 60
    omega
  · have hi2 : (i : Int) ≤ r3 3 - 1 := hi
    rw [cg i (by omega) c hc]
    exact d1 i (by omega) c hc
  · have hi2 : (i : Int) < r3 3 - 1 := hi
    rw [rd _ (by omega)]
    exact d2 i (by omega)
  · show hiR (r4 1) (rep W' (r3 3 - 1).toNat) _
    rw [hk0]
    intro c hc
    rw [r17e c hc]
    exact cg k (by omega) c (by omega)
  · have hi2 : (i : Int) < r3 3 - 1 := hi
    obtain ⟨f1, f2, f3, f4⟩ := e i (by omega)
    refine ⟨f1, f2, f3, fun z hz => ?_⟩
    rw [cg i (by omega) z (by omega), cg (i + 1) (by omega) z (by omega)]
    exact f4 z hz
theorem jI_undo {h : fwH} (I : jI h) (hp : 0 < h 3 0 3) : jI (fwUp (mBack h) 36 0 8 (h 3 0 3 - 1)) := by
  have mp := mPic_undo I.2.1 hp
  unfold mBack
  rw [fwUp_fu h 3 0 3 _, fwUp_fu (fwUc _ 17 0 _) 36 0 8 _]
  refine jI_mt I (fun a b n1 n2 n3 => ?_) mp
  rw [fwUc_ne (fun z => n2 z.1), fwUc_ne (fun z => n1 ⟨Or.inr (Or.inr (Or.inr (Or.inl z.1))), z.2⟩), fwUc_ne (fun z => n1 ⟨Or.inl z.1, z.2⟩)]
theorem jI_bkV {r3 r4 r5 r17 r18 r21 W : Nat → Int} (m : mPic r3 r4 r5 r17 r18 r21 W) : 0 < r3 3 → ((-20 ≤ r21 (r3 3 - 1).toNat ∧ r21 (r3 3 - 1).toNat ≤ 20) ∧ (r21 (r3 3 - 1).toNat < 0 → 0 ≤ -(r21 (r3 3 - 1).toNat) - 1 ∧ -(r21 (r3 3 - 1).toNat) - 1 < r4 1) ∧ (0 ≤ r21 (r3 3 - 1).toNat → 0 ≤ r21 (r3 3 - 1).toNat - 1 ∧ r21 (r3 3 - 1).toNat - 1 < r4 1)) := by
  intro hp
  obtain ⟨e1, e2, e3, -⟩ := m.2.2.2.2 (r3 3 - 1).toNat (by omega)
  unfold mBackC at e2
  refine ⟨e1, fun q => ?_, fun q => ?_⟩
  · rw [if_pos q] at e2; exact e2
  · rw [if_neg (by omega)] at e2; exact e2
end
section
theorem bkN_pic {h : fwH} (I : jI h) : ∀ i : Nat, i ≤ (h 3 0 3).toNat → mPic (mBkN h i 3 0) (mBkN h i 4 0) (mBkN h i 5 0) (mBkN h i 17 0) (mBkN h i 18 0) (mBkN h i 21 0) (fwFu (h 36 0) 8 (h 3 0 3 - (i : Int))) ∧ ∀ a b, ¬ ((a = 3 ∨ a = 17) ∧ b = 0) → mBkN h i a b = h a b := by
  intro i
  induction i with
  | zero =>
    intro _
    have e8 : fwFu (h 36 0) 8 (h 3 0 3 - ((0 : Nat) : Int)) = h 36 0 := fwFu_same _ _ (by have := I.2.1.2.2.1.2.2.2.2.2.2.2.2.1; omega)
    rw [e8]
    exact ⟨I.2.1, fun _ _ _ => rfl⟩
  | succ i ih =>
    intro hi
    obtain ⟨p, f⟩ := ih (by omega)
    have h3 := mBkN_3 h i
    have p2 := mPic_undo p (by omega)
    rw [fwFu_fu, h3, show h 3 0 3 - (i : Int) - 1 = h 3 0 3 - ((i + 1 : Nat) : Int) by omega] at p2
    have e : mBkN h (i + 1) = fwUc (fwUc (mBkN h i) 3 0 (fwFu (mBkN h i 3 0) 3 (h 3 0 3 - ((i + 1 : Nat) : Int)))) 17 0 (fwFu (mBkN h i 17 0) (mBackC (mBkN h i 21 0 (h 3 0 3 - ((i + 1 : Nat) : Int)).toNat)).toNat (mBkN h i 17 0 (mBackC (mBkN h i 21 0 (h 3 0 3 - ((i + 1 : Nat) : Int)).toNat)).toNat + mBackD (mBkN h i 21 0 (h 3 0 3 - ((i + 1 : Nat) : Int)).toNat))) := by
      rw [mBkN]
      unfold mBack
      rw [fwUp_fu, h3, show h 3 0 3 - (i : Int) - 1 = h 3 0 3 - ((i + 1 : Nat) : Int) by omega]
    rw [e]
    refine ⟨p2, fun a b n => ?_⟩
    rw [fwUc_ne (fun z => n ⟨Or.inr z.1, z.2⟩), fwUc_ne (fun z => n ⟨Or.inl z.1, z.2⟩)]
    exact f a b n
theorem jI_anew {h : fwH} (I : jI h) : jI (fwUp (mBkN h (h 3 0 3).toNat) 36 0 8 0) := by
  have h9 := I.1.2.2.2.2.2.2.2.2.1
  obtain ⟨p, f⟩ := bkN_pic I (h 3 0 3).toNat (Nat.le_refl _)
  rw [show h 3 0 3 - (((h 3 0 3).toNat : Nat) : Int) = 0 by omega] at p
  rw [fwUp_fu]
  refine jI_mt I (fun a b n1 n2 n3 => ?_) ?_
  · rw [fwUc_ne (fun z => n2 z.1)]
    exact f a b (fun z => n1 ⟨by rcases z.1 with q | q; exact Or.inl q; exact Or.inr (Or.inr (Or.inr (Or.inl q))), z.2⟩)
  · have e36 : mBkN h (h 3 0 3).toNat 36 0 = h 36 0 := f 36 0 (by omega)
    rw [e36]
    exact p
theorem anew_ok {h : fwH} (I : jI h) : ∀ i : Nat, i < (h 3 0 3).toNat → gOk (mBkN h i) 0 ∧ bkV (mBkN h i) := by
  intro i hi
  obtain ⟨p, f⟩ := bkN_pic I i (by omega)
  refine ⟨?_, jI_bkV p⟩
  obtain ⟨⟨a1, a2, a3, a4, a5, a6, a7, -⟩, -⟩ := p
  exact ⟨a3, a4, a5, a6, fun c hc => by have := a7 c hc; omega⟩
/-- a picture counts below 135 alone -/
theorem mPic_W {r3 r4 r5 r17 r18 r21 W W' : Nat → Int} (m : mPic r3 r4 r5 r17 r18 r21 W) (w : ∀ s : Nat, s < 135 → W' s = W s) : mPic r3 r4 r5 r17 r18 r21 W' := by
  obtain ⟨a, b, ⟨c1, c2, c3, c4, c5, c6, c7, c8, c9, c10, c11, c12⟩, ⟨d1, d2, d3⟩, e⟩ := m
  have a3 := a.2.2.1
  have a12 := a.2.2.2.2.2.2.2.2.2.2.2
  have cg : ∀ j : Nat, (j : Int) ≤ r3 3 → eq10 (rep W' j) (rep W j) := fun j hj => rep_cg (w 0 (by omega)) (w 4 (by omega)) (w 2 (by omega)) (fun c hc => w _ (by omega)) (by rw [c1]; exact a3) j (fun i hi => ⟨w _ (by omega), by have := d2 i (by omega); rw [c1]; exact this⟩)
  refine ⟨a, b, ⟨(w 0 (by omega)).trans c1, (w 1 (by omega)).trans c2, (w 2 (by omega)).trans c3, (w 3 (by omega)).trans c4, (w 4 (by omega)).trans c5, (w 5 (by omega)).trans c6, (w 6 (by omega)).trans c7, (w 7 (by omega)).trans c8, (w 8 (by omega)).trans c9, fun j hj => (w _ (by omega)).trans (c10 j hj), c11, c12⟩, ⟨fun i hi c hc => ?_, fun i hi => ?_, fun c hc => ?_⟩, fun i hi => ?_⟩
  · rw [cg i hi c hc]
    exact d1 i hi c hc
  · rw [w _ (by omega)]
    exact d2 i hi
  · rw [cg _ (by omega) c (by omega)]
    exact d3 c hc
  · obtain ⟨f1, f2, f3, f4⟩ := e i hi
    refine ⟨f1, f2, f3, fun z hz => ?_⟩
    rw [cg i (by omega) z (by omega), cg (i + 1) (by omega) z (by omega)]
    exact f4 z hz
theorem jI_back {h : fwH} (I : jI h) {k : Nat} (hk : k < 3) (h1 : h 23 0 k ≠ 0) : jI (fwUc (mtCopy h 0 (2 + k)) 36 0 (fwFl (fun s => h 37 0 (135 * k + s)) (h 36 0) 135)) := by
  have i4 := I.2.2.2.1 k hk
  have m := i4.2.2 (by omega)
  refine jI_mt I (fun a b n1 n2 n3 => ?_) (mPic_W m (fun s hs => if_pos hs))
  unfold mtCopy
  rw [fwUc_ne (fun z => n2 z.1), fwUc_ne (fun z => n1 ⟨Or.inr (Or.inr (Or.inr (Or.inr (Or.inr z.1)))), z.2⟩), fwUc_ne (fun z => n1 ⟨Or.inr (Or.inr (Or.inr (Or.inr (Or.inl z.1)))), z.2⟩), fwUc_ne (fun z => n1 ⟨Or.inr (Or.inr (Or.inr (Or.inl z.1))), z.2⟩), fwUc_ne (fun z => n1 ⟨Or.inr (Or.inr (Or.inl z.1)), z.2⟩), fwUc_ne (fun z => n1 ⟨Or.inr (Or.inl z.1), z.2⟩), fwUc_ne (fun z => n1 ⟨Or.inl z.1, z.2⟩)]
end
